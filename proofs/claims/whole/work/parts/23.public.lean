/-! The class's public methods: commit, fail, fill, total. -/
set_option maxHeartbeats 4000000 in
set_option maxRecDepth 100000 in
theorem pc_3 {V : zv_V} (E : zv_OK V) {w : zw_W} (HX : zl_X w) {D : Nat → Nat → Nat} {H : za_H} {b : Bool} {L S : za_T} {C : za_C} (hX : zr_X (zw_i w) D H b L S C) (hH : za_WH H) (hb : b = false) (h0 : 0 < za_n C.1 16) {z : Bool} (wL : za_WT L) (wS : za_WT S) (wC : za_WC C) (hr : za_ff L S C.1 (-1)) : zg_C V zm_X3_commit yX3_commit 8 190 [.ref 1, .int (za_bit z)] w (zq_p (.inr 21) (zr_pub w D H b L S C)) := by
  refine zg_of (by decide +kernel) rfl (Nat.le_of_ble_eq_true rfl) ?_
  show zg_G V zm_X3_commit 8 190 w.1 w.2.1 0 [] [(0, .ref 1), (1, .int (za_bit z))] w _
  refine zg_aload_n dX3_commit_0 rfl ?_
  refine zg_vrt (M := zm_X3_commit) E (ci := 3) dX3_commit_1 (ct_mounted_ok E HX (by rw [hX.2.2.1, hb]; rfl)) wd_X3_55 rfl (congrArg Prod.fst (zl_at HX (k := 1) (t := (3, 7)) rfl (by decide) (by decide))) (by decide) (zl_lt HX (by decide)) rfl dh_X3_checkMounted dn_X3_checkMounted (Nat.le_of_ble_eq_true rfl) (Nat.le_of_ble_eq_true rfl) (Nat.le_of_ble_eq_true rfl) (zl_cap HX) rfl (fun w1 g1 => ?_)
  subst w1
  refine zg_aload_n dX3_commit_4 rfl ?_
  refine zg_vrt (M := zm_X3_commit) E (ci := 3) dX3_commit_5 (ct_open_ok E HX (zk_yes hX.2.2.2.2.2 h0)) wd_X3_97 rfl (congrArg Prod.fst (zl_at HX (k := 1) (t := (3, 7)) rfl (by decide) (by decide))) (by decide) (zl_lt HX (by decide)) rfl dh_X3_checkOpen dn_X3_checkOpen (Nat.le_of_ble_eq_true rfl) (Nat.le_of_ble_eq_true rfl) (Nat.le_of_ble_eq_true rfl) (zl_cap HX) rfl (fun w5 g5 => ?_)
  subst w5
  refine zg_aload_n dX3_commit_8 rfl ?_
  refine zg_vrt (M := zm_X3_commit) E (ci := 3) dX3_commit_9 (kt_leastFree E HX hX wL wS wC hr) wd_X3_100 rfl (congrArg Prod.fst (zl_at HX (k := 1) (t := (3, 7)) rfl (by decide) (by decide))) (by decide) (zl_lt HX (by decide)) rfl dh_X3_leastFree dn_X3_leastFree (Nat.le_of_ble_eq_true rfl) (Nat.le_of_ble_eq_true rfl) (Nat.le_of_ble_eq_true rfl) (zl_cap HX) rfl (fun w9 g9 => ?_)
  subst w9
  refine zg_istore_n (lv' := [(2, .int ((-1))), (0, .ref 1), (1, .int (za_bit z))]) dX3_commit_12 (by decide) rfl ?_
  refine zg_iload_n dX3_commit_13 rfl ?_
  refine zg_iconst (v := (-1)) dX3_commit_14 (by decide) ?_
  refine zg_icmp_ne (tgt := 28) dX3_commit_15 (by decide) (fun h15 => ?_) (fun h15 => ?_)
  · exact absurd rfl h15
  · exact zg_throw (M := zm_X3_commit) E 21 (text := "no sector is free for the table") (by decide) rfl rfl dX3_commit_18 dX3_commit_21 dX3_commit_22 dX3_commit_24 dX3_commit_27 (by decide +kernel) (by decide +kernel) (by decide +kernel) tw_21_93 (zt_cap HX).1 (zt_cap HX).2.1 (zt_cap HX).2.2 (Nat.le_of_ble_eq_true rfl) (Nat.le_of_ble_eq_true rfl) ⟨rfl, zp_nw HX hX hH⟩
/-- a commit: what it holds back, what it leaves -/
def za_cH (L : za_T) (C : za_C) (H : za_H) (t : Nat) : za_H := za_hold (za_un C H 16) t (za_op L C)
def za_cD (D : Nat → Nat → Nat) (L : za_T) (C : za_C) (H : za_H) (t : Nat) : Nat → Nat → Nat := za_car D (za_cH L C H t) za_all (za_cH L C H t).1
def za_cS (L S : za_T) (C : za_C) (H : za_H) (t : Nat) : za_T := if za_z (za_cH L C H t) (za_cH L C H t).1 then L else S
def za_cL (L : za_T) (C : za_C) (t : Nat) : za_T := (za_op L C, t, L.2.2 + nI 1)
def za_cM (L : za_T) (C : za_C) (H : za_H) (t : Nat) : za_H := za_hold (0, (za_cH L C H t).2) 0 (za_ms (L.2.2 + nI 1) t)
theorem za_cH_W {L : za_T} {C : za_C} {H : za_H} {t : Nat} (hH : za_WH H) (h60 : H.1 ≤ 60) (wL : za_WT L) (wC : za_WC C) (ht : t < 48) : za_WH (za_cH L C H t) := by
  have h := za_un_le C H 16
  refine za_hold_W (za_un_W hH h60 wC 16 (by omega)) (by omega) ht (fun i hi => ?_)
  have h1 := wL.1 i hi
  have h2 := wC.1 i hi
  unfold za_op
  split <;> omega
theorem za_cM_W {L : za_T} {C : za_C} {H : za_H} {t : Nat} (hH : za_WH (za_cH L C H t)) (ht : t < 48) : za_WH (za_cM L C H t) := za_hold_W ⟨Nat.zero_le _, fun k hk => absurd hk (Nat.not_lt_zero k), fun k hk => absurd hk (Nat.not_lt_zero k)⟩ (by decide : (0 : Nat) < 77) (by decide) (fun i _ => za_ms_lt _ ht i)
set_option maxHeartbeats 4000000 in
set_option maxRecDepth 100000 in
theorem pc_4 {V : zv_V} (E : zv_OK V) {w : zw_W} (HX : zl_X w) {D : Nat → Nat → Nat} {H : za_H} {b : Bool} {L S : za_T} {C : za_C} (hX : zr_X (zw_i w) D H b L S C) (hH : za_WH H) (hb : b = false) (h0 : 0 < za_n C.1 16) (h60 : H.1 ≤ 60) (wL : za_WT L) (wS : za_WT S) (wC : za_WC C) {t : Nat} (ht : t < 48) (hr : za_ff L S C.1 (nI t))  : zg_C V zm_X3_commit yX3_commit 8 190 [.ref 1, .int (za_bit false)] w (zq_p (.inl (some (.int (L.2.2 + nI 1)))) (zr_pub w (za_cD D L C H t) (za_cM L C H t) b (za_cL L C t) (za_cS L S C H t) za_C0)) := by
  refine zg_of (by decide +kernel) rfl (Nat.le_of_ble_eq_true rfl) ?_
  show zg_G V zm_X3_commit 8 190 w.1 w.2.1 0 [] [(0, .ref 1), (1, .int (za_bit false))] w _
  refine zg_aload_n dX3_commit_0 rfl ?_
  refine zg_vrt (M := zm_X3_commit) E (ci := 3) dX3_commit_1 (ct_mounted_ok E HX (by rw [hX.2.2.1, hb]; rfl)) wd_X3_55 rfl (congrArg Prod.fst (zl_at HX (k := 1) (t := (3, 7)) rfl (by decide) (by decide))) (by decide) (zl_lt HX (by decide)) rfl dh_X3_checkMounted dn_X3_checkMounted (Nat.le_of_ble_eq_true rfl) (Nat.le_of_ble_eq_true rfl) (Nat.le_of_ble_eq_true rfl) (zl_cap HX) rfl (fun w1 g1 => ?_)
  subst w1
  refine zg_aload_n dX3_commit_4 rfl ?_
  refine zg_vrt (M := zm_X3_commit) E (ci := 3) dX3_commit_5 (ct_open_ok E HX (zk_yes hX.2.2.2.2.2 h0)) wd_X3_97 rfl (congrArg Prod.fst (zl_at HX (k := 1) (t := (3, 7)) rfl (by decide) (by decide))) (by decide) (zl_lt HX (by decide)) rfl dh_X3_checkOpen dn_X3_checkOpen (Nat.le_of_ble_eq_true rfl) (Nat.le_of_ble_eq_true rfl) (Nat.le_of_ble_eq_true rfl) (zl_cap HX) rfl (fun w5 g5 => ?_)
  subst w5
  refine zg_aload_n dX3_commit_8 rfl ?_
  refine zg_vrt (M := zm_X3_commit) E (ci := 3) dX3_commit_9 (kt_leastFree E HX hX wL wS wC hr) wd_X3_100 rfl (congrArg Prod.fst (zl_at HX (k := 1) (t := (3, 7)) rfl (by decide) (by decide))) (by decide) (zl_lt HX (by decide)) rfl dh_X3_leastFree dn_X3_leastFree (Nat.le_of_ble_eq_true rfl) (Nat.le_of_ble_eq_true rfl) (Nat.le_of_ble_eq_true rfl) (zl_cap HX) rfl (fun w9 g9 => ?_)
  subst w9
  refine zg_istore_n (lv' := [(2, .int (nI t)), (0, .ref 1), (1, .int (za_bit false))]) dX3_commit_12 (by decide) rfl ?_
  refine zg_iload_n dX3_commit_13 rfl ?_
  refine zg_iconst (v := (-1)) dX3_commit_14 (by decide) ?_
  refine zg_icmp_ne (tgt := 28) dX3_commit_15 (by decide) (fun h15 => ?_) (fun h15 => ?_)
  · refine zg_aload_n dX3_commit_28 rfl ?_
    refine zg_vrt (M := zm_X3_commit) E (ci := 3) dX3_commit_29 (kt_unsp E HX hX hH h60 wC) wd_X3_106 rfl (congrArg Prod.fst (zl_at HX (k := 1) (t := (3, 7)) rfl (by decide) (by decide))) (by decide) (zl_lt HX (by decide)) rfl dh_X3_holdBackUnspilledPages dn_X3_holdBackUnspilledPages (Nat.le_of_ble_eq_true rfl) (Nat.le_of_ble_eq_true rfl) (Nat.le_of_ble_eq_true rfl) (zl_cap HX) rfl (fun w29 g29 => ?_)
    obtain ⟨J1, rfl, ⟨Z, r1⟩, f1⟩ := g29
    have hu := za_un_le C H 16
    have hU := za_un_W hH h60 wC 16 (by omega)
    have hW2 := za_cH_W (t := t) hH h60 wL wC ht
    refine zg_w (w' := zw_I w J1) rfl ?_
    refine zg_aload_n dX3_commit_32 rfl ?_
    refine zg_iload_n dX3_commit_33 rfl ?_
    refine zg_vrt (M := zm_X3_commit) E (ci := 3) dX3_commit_34 (kt_table (w := zw_I w J1) (t := t) E HX r1 hU (by omega) wC) wd_X3_109 rfl (congrArg Prod.fst (zl_at HX (k := 1) (t := (3, 7)) rfl (by decide) (by decide))) (by decide) (zl_lt HX (by decide)) rfl dh_X3_holdBackTable dn_X3_holdBackTable (Nat.le_of_ble_eq_true rfl) (Nat.le_of_ble_eq_true rfl) (Nat.le_of_ble_eq_true rfl) (zl_cap HX) rfl (fun w34 g34 => ?_)
    obtain ⟨J2, rfl, r2, f2⟩ := g34
    refine zg_w (w' := zw_I w J2) rfl ?_
    refine zg_aload_n dX3_commit_37 rfl ?_
    refine zg_vrt (M := zm_X3_commit) E (ci := 3) dX3_commit_38 (kt_carryOutAll (w := zw_I w J2) (H := za_cH L C H t) E HX r2 hW2) wd_X3_112 rfl (congrArg Prod.fst (zl_at HX (k := 1) (t := (3, 7)) rfl (by decide) (by decide))) (by decide) (zl_lt HX (by decide)) rfl dh_X3_carryOutAll dn_X3_carryOutAll (Nat.le_of_ble_eq_true rfl) (Nat.le_of_ble_eq_true rfl) (Nat.le_of_ble_eq_true rfl) (zl_cap HX) rfl (fun w38 g38 => ?_)
    obtain ⟨J3, rfl, r3, f3⟩ := g38
    refine zg_w (w' := zw_I w J3) rfl ?_
    refine zg_pop dX3_commit_41 rfl ?_
    refine zg_aload_n dX3_commit_42 rfl ?_
    refine zg_iload_n dX3_commit_43 rfl ?_
    refine zg_vrt (M := zm_X3_commit) E (ci := 3) dX3_commit_44 (kt_turn (w := zw_I w J3) (t := t) E HX r3 ⟨Nat.zero_le _, fun k hk => absurd hk (Nat.not_lt_zero k), fun k hk => absurd hk (Nat.not_lt_zero k)⟩ (by decide : (0 : Nat) < 77) wC ht) wd_X3_115 rfl (congrArg Prod.fst (zl_at HX (k := 1) (t := (3, 7)) rfl (by decide) (by decide))) (by decide) (zl_lt HX (by decide)) rfl dh_X3_turnOver dn_X3_turnOver (Nat.le_of_ble_eq_true rfl) (Nat.le_of_ble_eq_true rfl) (Nat.le_of_ble_eq_true rfl) (zl_cap HX) rfl (fun w44 g44 => ?_)
    obtain ⟨J4, rfl, r4, f4⟩ := g44
    have q4 : ∀ a, 156 ≤ a → J4 a = zw_i w a := fun a ha => (f4 a (Or.inr ha)).trans ((f3 a (Or.inr ha)).trans ((f2 a (Or.inr ha)).trans (f1 a (Or.inr ha))))
    have r4 : zr_X J4 (za_cD D L C H t) (za_cM L C H t) b (za_cL L C t) (za_cS L S C H t) za_C0 := r4
    refine zg_w (w' := zw_I w J4) rfl ?_
    refine zg_iload_n dX3_commit_47 rfl ?_
    refine zg_if_eq (tgt := 56) dX3_commit_48 (by decide) (fun h48 => ?_) (fun h48 => ?_)
    · refine zg_aload_n dX3_commit_56 rfl ?_
      refine zg_getR E (ci := 3) (j := 2) (r := 131) dX3_commit_57 rfl (congrArg Prod.fst (zl_at HX (k := 1) (t := (3, 7)) rfl (by decide) (by decide))) (by decide) (zl_lt HX (by decide)) (by decide) fl_X3_24 rfl (zl_rf HX rfl (by decide) (by decide)) ?_
      refine zg_getI E (ci := 2) (j := 2) dX3_commit_60 rfl (congrArg Prod.fst (zl_at HX (k := 131) (t := (2, 3)) rfl (by decide) (by decide))) (by decide) (zl_lt HX (by decide)) (by decide) fl_X3_118 rfl ?_
      refine zg_v (x' := L.2.2 + nI 1) r4.2.2.2.1.2.2 ?_
      exact zg_iret rfl dX3_commit_63 ⟨rfl, zp_to (lo := 0) (hi := 156) (by decide) ⟨_, rfl, r4, fun a ha => ha.elim (fun z => absurd z (Nat.not_lt_zero _)) (fun z => q4 a z)⟩⟩
    · exact absurd rfl h48
  · exact absurd h15 (fun z => absurd (z ▸ nI_pos (by omega : t < 2 ^ 31)) (by decide))
set_option maxHeartbeats 4000000 in
set_option maxRecDepth 100000 in
theorem pc_5 {V : zv_V} (E : zv_OK V) {w : zw_W} (HX : zl_X w) {D : Nat → Nat → Nat} {H : za_H} {b : Bool} {L S : za_T} {C : za_C} (hX : zr_X (zw_i w) D H b L S C) (hH : za_WH H) (hb : b = false) (h0 : 0 < za_n C.1 16) (h60 : H.1 ≤ 60) (wL : za_WT L) (wS : za_WT S) (wC : za_WC C) {t : Nat} (ht : t < 48) (hr : za_ff L S C.1 (nI t))  : zg_C V zm_X3_commit yX3_commit 8 190 [.ref 1, .int (za_bit true)] w (zq_p (.inl (some (.int (L.2.2 + nI 1)))) (zr_pub w (za_car (za_cD D L C H t) (za_cM L C H t) za_all (za_cM L C H t).1) (0, (za_cM L C H t).2) b (za_cL L C t) (if za_z (za_cM L C H t) (za_cM L C H t).1 then za_cL L C t else za_cS L S C H t) za_C0)) := by
  refine zg_of (by decide +kernel) rfl (Nat.le_of_ble_eq_true rfl) ?_
  show zg_G V zm_X3_commit 8 190 w.1 w.2.1 0 [] [(0, .ref 1), (1, .int (za_bit true))] w _
  refine zg_aload_n dX3_commit_0 rfl ?_
  refine zg_vrt (M := zm_X3_commit) E (ci := 3) dX3_commit_1 (ct_mounted_ok E HX (by rw [hX.2.2.1, hb]; rfl)) wd_X3_55 rfl (congrArg Prod.fst (zl_at HX (k := 1) (t := (3, 7)) rfl (by decide) (by decide))) (by decide) (zl_lt HX (by decide)) rfl dh_X3_checkMounted dn_X3_checkMounted (Nat.le_of_ble_eq_true rfl) (Nat.le_of_ble_eq_true rfl) (Nat.le_of_ble_eq_true rfl) (zl_cap HX) rfl (fun w1 g1 => ?_)
  subst w1
  refine zg_aload_n dX3_commit_4 rfl ?_
  refine zg_vrt (M := zm_X3_commit) E (ci := 3) dX3_commit_5 (ct_open_ok E HX (zk_yes hX.2.2.2.2.2 h0)) wd_X3_97 rfl (congrArg Prod.fst (zl_at HX (k := 1) (t := (3, 7)) rfl (by decide) (by decide))) (by decide) (zl_lt HX (by decide)) rfl dh_X3_checkOpen dn_X3_checkOpen (Nat.le_of_ble_eq_true rfl) (Nat.le_of_ble_eq_true rfl) (Nat.le_of_ble_eq_true rfl) (zl_cap HX) rfl (fun w5 g5 => ?_)
  subst w5
  refine zg_aload_n dX3_commit_8 rfl ?_
  refine zg_vrt (M := zm_X3_commit) E (ci := 3) dX3_commit_9 (kt_leastFree E HX hX wL wS wC hr) wd_X3_100 rfl (congrArg Prod.fst (zl_at HX (k := 1) (t := (3, 7)) rfl (by decide) (by decide))) (by decide) (zl_lt HX (by decide)) rfl dh_X3_leastFree dn_X3_leastFree (Nat.le_of_ble_eq_true rfl) (Nat.le_of_ble_eq_true rfl) (Nat.le_of_ble_eq_true rfl) (zl_cap HX) rfl (fun w9 g9 => ?_)
  subst w9
  refine zg_istore_n (lv' := [(2, .int (nI t)), (0, .ref 1), (1, .int (za_bit true))]) dX3_commit_12 (by decide) rfl ?_
  refine zg_iload_n dX3_commit_13 rfl ?_
  refine zg_iconst (v := (-1)) dX3_commit_14 (by decide) ?_
  refine zg_icmp_ne (tgt := 28) dX3_commit_15 (by decide) (fun h15 => ?_) (fun h15 => ?_)
  · refine zg_aload_n dX3_commit_28 rfl ?_
    refine zg_vrt (M := zm_X3_commit) E (ci := 3) dX3_commit_29 (kt_unsp E HX hX hH h60 wC) wd_X3_106 rfl (congrArg Prod.fst (zl_at HX (k := 1) (t := (3, 7)) rfl (by decide) (by decide))) (by decide) (zl_lt HX (by decide)) rfl dh_X3_holdBackUnspilledPages dn_X3_holdBackUnspilledPages (Nat.le_of_ble_eq_true rfl) (Nat.le_of_ble_eq_true rfl) (Nat.le_of_ble_eq_true rfl) (zl_cap HX) rfl (fun w29 g29 => ?_)
    obtain ⟨J1, rfl, ⟨Z, r1⟩, f1⟩ := g29
    have hu := za_un_le C H 16
    have hU := za_un_W hH h60 wC 16 (by omega)
    have hW2 := za_cH_W (t := t) hH h60 wL wC ht
    refine zg_w (w' := zw_I w J1) rfl ?_
    refine zg_aload_n dX3_commit_32 rfl ?_
    refine zg_iload_n dX3_commit_33 rfl ?_
    refine zg_vrt (M := zm_X3_commit) E (ci := 3) dX3_commit_34 (kt_table (w := zw_I w J1) (t := t) E HX r1 hU (by omega) wC) wd_X3_109 rfl (congrArg Prod.fst (zl_at HX (k := 1) (t := (3, 7)) rfl (by decide) (by decide))) (by decide) (zl_lt HX (by decide)) rfl dh_X3_holdBackTable dn_X3_holdBackTable (Nat.le_of_ble_eq_true rfl) (Nat.le_of_ble_eq_true rfl) (Nat.le_of_ble_eq_true rfl) (zl_cap HX) rfl (fun w34 g34 => ?_)
    obtain ⟨J2, rfl, r2, f2⟩ := g34
    refine zg_w (w' := zw_I w J2) rfl ?_
    refine zg_aload_n dX3_commit_37 rfl ?_
    refine zg_vrt (M := zm_X3_commit) E (ci := 3) dX3_commit_38 (kt_carryOutAll (w := zw_I w J2) (H := za_cH L C H t) E HX r2 hW2) wd_X3_112 rfl (congrArg Prod.fst (zl_at HX (k := 1) (t := (3, 7)) rfl (by decide) (by decide))) (by decide) (zl_lt HX (by decide)) rfl dh_X3_carryOutAll dn_X3_carryOutAll (Nat.le_of_ble_eq_true rfl) (Nat.le_of_ble_eq_true rfl) (Nat.le_of_ble_eq_true rfl) (zl_cap HX) rfl (fun w38 g38 => ?_)
    obtain ⟨J3, rfl, r3, f3⟩ := g38
    refine zg_w (w' := zw_I w J3) rfl ?_
    refine zg_pop dX3_commit_41 rfl ?_
    refine zg_aload_n dX3_commit_42 rfl ?_
    refine zg_iload_n dX3_commit_43 rfl ?_
    refine zg_vrt (M := zm_X3_commit) E (ci := 3) dX3_commit_44 (kt_turn (w := zw_I w J3) (t := t) E HX r3 ⟨Nat.zero_le _, fun k hk => absurd hk (Nat.not_lt_zero k), fun k hk => absurd hk (Nat.not_lt_zero k)⟩ (by decide : (0 : Nat) < 77) wC ht) wd_X3_115 rfl (congrArg Prod.fst (zl_at HX (k := 1) (t := (3, 7)) rfl (by decide) (by decide))) (by decide) (zl_lt HX (by decide)) rfl dh_X3_turnOver dn_X3_turnOver (Nat.le_of_ble_eq_true rfl) (Nat.le_of_ble_eq_true rfl) (Nat.le_of_ble_eq_true rfl) (zl_cap HX) rfl (fun w44 g44 => ?_)
    obtain ⟨J4, rfl, r4, f4⟩ := g44
    have q4 : ∀ a, 156 ≤ a → J4 a = zw_i w a := fun a ha => (f4 a (Or.inr ha)).trans ((f3 a (Or.inr ha)).trans ((f2 a (Or.inr ha)).trans (f1 a (Or.inr ha))))
    have r4 : zr_X J4 (za_cD D L C H t) (za_cM L C H t) b (za_cL L C t) (za_cS L S C H t) za_C0 := r4
    refine zg_w (w' := zw_I w J4) rfl ?_
    refine zg_iload_n dX3_commit_47 rfl ?_
    refine zg_if_eq (tgt := 56) dX3_commit_48 (by decide) (fun h48 => ?_) (fun h48 => ?_)
    · exact absurd h48 (by decide)
    · refine zg_aload_n dX3_commit_51 rfl ?_
      refine zg_vrt (M := zm_X3_commit) E (ci := 3) dX3_commit_52 (kt_carryOutAll (w := zw_I w J4) (H := za_cM L C H t) E HX r4 (za_cM_W hW2 ht)) wd_X3_112 rfl (congrArg Prod.fst (zl_at HX (k := 1) (t := (3, 7)) rfl (by decide) (by decide))) (by decide) (zl_lt HX (by decide)) rfl dh_X3_carryOutAll dn_X3_carryOutAll (Nat.le_of_ble_eq_true rfl) (Nat.le_of_ble_eq_true rfl) (Nat.le_of_ble_eq_true rfl) (zl_cap HX) rfl (fun w52 g52 => ?_)
      obtain ⟨J5, rfl, r5, f5⟩ := g52
      refine zg_w (w' := zw_I w J5) rfl ?_
      refine zg_pop dX3_commit_55 rfl ?_
      refine zg_aload_n dX3_commit_56 rfl ?_
      refine zg_getR E (ci := 3) (j := 2) (r := 131) dX3_commit_57 rfl (congrArg Prod.fst (zl_at HX (k := 1) (t := (3, 7)) rfl (by decide) (by decide))) (by decide) (zl_lt HX (by decide)) (by decide) fl_X3_24 rfl (zl_rf HX rfl (by decide) (by decide)) ?_
      refine zg_getI E (ci := 2) (j := 2) dX3_commit_60 rfl (congrArg Prod.fst (zl_at HX (k := 131) (t := (2, 3)) rfl (by decide) (by decide))) (by decide) (zl_lt HX (by decide)) (by decide) fl_X3_118 rfl ?_
      refine zg_v (x' := L.2.2 + nI 1) r5.2.2.2.1.2.2 ?_
      exact zg_iret rfl dX3_commit_63 ⟨rfl, zp_to (lo := 0) (hi := 156) (by decide) ⟨_, rfl, r5, fun a ha => ha.elim (fun z => absurd z (Nat.not_lt_zero _)) (fun z => (f5 a (Or.inr z)).trans (q4 a z))⟩⟩
  · exact absurd h15 (fun z => absurd (z ▸ nI_pos (by omega : t < 2 ^ 31)) (by decide))
set_option maxHeartbeats 4000000 in
set_option maxRecDepth 100000 in
theorem lp_fail {V : zv_V} (E : zv_OK V) {w : zw_W} {n0 u0 : Nat} {Q : zg_O → zw_W → Prop} (HX : zl_X w) {D : Nat → Nat → Nat} {H : za_H} {b : Bool} {L S : za_T} {C : za_C} (hH : za_WH H) (h60 : H.1 ≤ 60) (hD : za_WD D) {v : Int64} {ok : Bool} (hok : ok = true ↔ za_mr (za_car D H (zb v) H.1) ∧ za_tr (za_car D H (zb v) H.1)) (hq : ∀ J, zr_X J (za_car D H (zb v) H.1) (0, H.2) (!ok) (if ok then za_mt (za_car D H (zb v) H.1) else L) (if ok then za_mt (za_car D H (zb v) H.1) else S) za_C0 → (∀ a, 156 ≤ a → J a = zw_i w a) → Q (.inl (some (.int (za_bit ok)))) (zw_I w J)) : ∀ (n i : Nat) (J : Nat → Nat → Int32), i ≤ H.1 → H.1 + 1 ≤ i + n → zr_X J (za_car D H (zb v) i) H b L S C → (∀ a, 156 ≤ a → J a = zw_i w a) → zg_G V zm_X3_fail 8 190 n0 u0 2 [] [(3, .int (nI i)), (0, .ref 1), (1, .long v)] (zw_I w J) Q := by
  intro n
  induction n with
  | zero =>
    intro i J hi hn
    exact absurd hn (by omega)
  | succ n ih =>
    intro i J hi hn k0 k1
    refine zg_iload_n dX3_fail_2 rfl ?_
    refine zg_aload_n dX3_fail_3 rfl ?_
    refine zg_getR E (ci := 3) (j := 1) (r := 51) dX3_fail_4 rfl (congrArg Prod.fst (zl_at HX (k := 1) (t := (3, 7)) rfl (by decide) (by decide))) (by decide) (zl_lt HX (by decide)) (by decide) fl_X3_17 rfl (zl_rf HX rfl (by decide) (by decide)) ?_
    refine zg_getI E (ci := 1) (j := 2) dX3_fail_7 rfl (congrArg Prod.fst (zl_at HX (k := 51) (t := (1, 3)) rfl (by decide) (by decide))) (by decide) (zl_lt HX (by decide)) (by decide) fl_X3_86 rfl ?_
    refine zg_v (x' := nI H.1) k0.2.1.1 ?_
    refine zg_icmp_ge (tgt := 41) dX3_fail_10 (by decide) (fun h10 => ?_) (fun h10 => ?_)
    · obtain rfl : i = H.1 := by have := zn_ge h10 (by omega) (by omega); omega
      refine zg_aload_n dX3_fail_41 rfl ?_
      refine zg_vrt (M := zm_X3_fail) E (ci := 3) dX3_fail_42 (kt_mount (w := zw_I w J) E HX k0 (za_car_W _ hD hH _ (Nat.le_refl _)) hH hok) wd_X3_128 rfl (congrArg Prod.fst (zl_at HX (k := 1) (t := (3, 7)) rfl (by decide) (by decide))) (by decide) (zl_lt HX (by decide)) rfl dh_X3_mount dn_X3_mount (Nat.le_of_ble_eq_true rfl) (Nat.le_of_ble_eq_true rfl) (Nat.le_of_ble_eq_true rfl) (zl_cap HX) rfl (fun w42 g42 => ?_)
      obtain ⟨J2, rfl, r2, f2⟩ := g42
      refine zg_w (w' := zw_I w J2) rfl ?_
      refine zg_aload_n dX3_fail_45 rfl ?_
      refine zg_getI E (ci := 3) (j := 6) dX3_fail_46 rfl (congrArg Prod.fst (zl_at HX (k := 1) (t := (3, 7)) rfl (by decide) (by decide))) (by decide) (zl_lt HX (by decide)) (by decide) fl_X3_131 rfl ?_
      refine zg_v (x' := za_bit (!ok)) r2.2.2.1 ?_
      refine zg_if_ne (tgt := 56) dX3_fail_49 (by decide) (fun h49 => ?_) (fun h49 => ?_)
      · have e : ok = false := by cases ok with | false => rfl | true => exact absurd rfl h49
        refine zg_iconst (v := nI 0) dX3_fail_56 (by decide) ?_
        exact zg_zret rfl rfl dX3_fail_57 ((show za_bit ok = nI 0 by rw [e]; rfl) ▸ hq J2 r2 (fun a ha => (f2 a (Or.inr ha)).trans (k1 a ha)))
      · have e : ok = true := by cases ok with | true => rfl | false => exact absurd h49 (by decide)
        refine zg_iconst (v := nI 1) dX3_fail_52 (by decide) ?_
        refine zg_goto (tgt := 57) dX3_fail_53 (by decide) ?_
        exact zg_zret rfl rfl dX3_fail_57 ((show za_bit ok = nI 1 by rw [e]; rfl) ▸ hq J2 r2 (fun a ha => (f2 a (Or.inr ha)).trans (k1 a ha)))
    · have hlt : i < H.1 := zn_lt h10 (by omega) (by omega)
      refine zg_lload_n dX3_fail_13 rfl ?_
      refine zg_iload_n dX3_fail_14 rfl ?_
      refine zg_lushr dX3_fail_15 ?_
      refine zg_lconst (v := 1) dX3_fail_16 (by decide) ?_
      refine zg_land dX3_fail_17 ?_
      refine zg_lconst (v := 0) dX3_fail_18 (by decide) ?_
      refine zg_lcmp dX3_fail_19 ?_
      refine zg_if_eq (tgt := 35) dX3_fail_20 (by decide) (fun h20 => ?_) (fun h20 => ?_)
      · have hc : za_car D H (zb v) (i + 1) = za_car D H (zb v) i := if_neg (by rw [(zb_hol v (by omega)).mp (zs_cmp h20)]; decide)
        refine zg_iinc (v := nI (i + 1)) (lv' := [(3, .int (nI (i + 1))), (0, .ref 1), (1, .long v)]) dX3_fail_35 rfl (nI_1 i) (by decide) rfl ?_
        refine zg_goto (tgt := 2) dX3_fail_38 (by decide) ?_
        refine zg_l [0, 1, 2] rfl ?_
        exact zg_s rfl rfl rfl (ih (i + 1) J (by omega) (by omega) (by rw [hc]; exact k0) k1)
      · have hc : za_car D H (zb v) (i + 1) = zw_ro (za_car D H (zb v) i) (H.2.1 i) (H.2.2 i) := if_pos (Classical.byContradiction fun z => zs_cmp0 h20 ((zb_hol v (by omega)).mpr (by simpa using z)))
        refine zg_aload_n dX3_fail_23 rfl ?_
        refine zg_getR E (ci := 3) (j := 1) (r := 51) dX3_fail_24 rfl (congrArg Prod.fst (zl_at HX (k := 1) (t := (3, 7)) rfl (by decide) (by decide))) (by decide) (zl_lt HX (by decide)) (by decide) fl_X3_17 rfl (zl_rf HX rfl (by decide) (by decide)) ?_
        refine zg_iload_n dX3_fail_27 rfl ?_
        refine zg_aload_n dX3_fail_28 rfl ?_
        refine zg_getR E (ci := 3) (j := 0) (r := 2) dX3_fail_29 rfl (congrArg Prod.fst (zl_at HX (k := 1) (t := (3, 7)) rfl (by decide) (by decide))) (by decide) (zl_lt HX (by decide)) (by decide) fl_X3_11 rfl (zl_rf HX rfl (by decide) (by decide)) ?_
        refine zg_vrt (M := zm_X3_fail) E (ci := 1) dX3_fail_32 (kt_carry (w := zw_I w J) E HX k0.1 k0.2.1 hH hlt) wd_X3_124 rfl (congrArg Prod.fst (zl_at HX (k := 51) (t := (1, 3)) rfl (by decide) (by decide))) (by decide) (zl_lt HX (by decide)) rfl dh_X1_carryOut dn_X1_carryOut (Nat.le_of_ble_eq_true rfl) (Nat.le_of_ble_eq_true rfl) (Nat.le_of_ble_eq_true rfl) (zl_cap HX) rfl (fun w32 g32 => ?_)
        obtain ⟨J1, rfl, r1, f1⟩ := g32
        refine zg_w (w' := zw_I w J1) rfl ?_
        refine zg_iinc (v := nI (i + 1)) (lv' := [(3, .int (nI (i + 1))), (0, .ref 1), (1, .long v)]) dX3_fail_35 rfl (nI_1 i) (by decide) rfl ?_
        refine zg_goto (tgt := 2) dX3_fail_38 (by decide) ?_
        refine zg_l [0, 1, 2] rfl ?_
        exact zg_s rfl rfl rfl (ih (i + 1) J1 (by omega) (by omega) (by rw [hc]; exact zr_Xd k0 hH.1 r1 f1) (fun a ha => (f1 a (by omega)).trans (k1 a ha)))
set_option maxHeartbeats 4000000 in
set_option maxRecDepth 100000 in
theorem px_1 {V : zv_V} (E : zv_OK V) {w : zw_W} (HX : zl_X w) {D : Nat → Nat → Nat} {H : za_H} {b : Bool} {L S : za_T} {C : za_C} (hX : zr_X (zw_i w) D H b L S C) (hH : za_WH H) (h60 : H.1 ≤ 60) (hD : za_WD D) {v : Int64} {ok : Bool} (hok : ok = true ↔ za_mr (za_car D H (zb v) H.1) ∧ za_tr (za_car D H (zb v) H.1)) : zg_C V zm_X3_fail yX3_fail 8 190 [.ref 1, .long v] w (zq_p (.inl (some (.int (za_bit ok)))) (zr_pub w (za_car D H (zb v) H.1) (0, H.2) (!ok) (if ok then za_mt (za_car D H (zb v) H.1) else L) (if ok then za_mt (za_car D H (zb v) H.1) else S) za_C0)) := by
  refine zg_of (by decide +kernel) rfl (Nat.le_of_ble_eq_true rfl) ?_
  show zg_G V zm_X3_fail 8 190 w.1 w.2.1 0 [] [(0, .ref 1), (1, .long v)] w _
  refine zg_iconst (v := nI 0) dX3_fail_0 (by decide) ?_
  refine zg_istore_n (lv' := [(3, .int (nI 0)), (0, .ref 1), (1, .long v)]) dX3_fail_1 (by decide) rfl ?_
  exact zg_s rfl rfl rfl (lp_fail E HX hH h60 hD hok (fun J h1 h2 => ⟨rfl, zp_to (lo := 0) (hi := 156) (by decide) ⟨J, rfl, h1, fun a ha => ha.elim (fun z => absurd z (Nat.not_lt_zero _)) (h2 a)⟩⟩) (H.1 + 1) 0 (zw_i w) (by omega) (by omega) hX (fun a _ => rfl))
/-- the bytes of two longs -/
def za_fb (u v : Int64) (j : Nat) : Nat := if j < 8 then u.toBitVec.toNat / 2 ^ (8 * j) % 256 else v.toBitVec.toNat / 2 ^ (8 * (j - 8)) % 256
theorem za_fb_lt (u v : Int64) (j : Nat) : za_fb u v j < 256 := by
  unfold za_fb
  split
  · exact Nat.mod_lt _ (by decide)
  · exact Nat.mod_lt _ (by decide)
def za_fil (C : za_C) (p : Nat) (f : Nat → Nat) : za_C := (C.1, zw_ro C.2.1 p f, C.2.2)
theorem zn_fb (u : Int64) {i : Nat} (hi : i < 8) : (u.toUInt64 >>> ((nI (8 * i)).toInt64.toUInt64 &&& Int64.toUInt64 63)).toInt64.toInt32 &&& nI 255 = nI (u.toBitVec.toNat / 2 ^ (8 * i) % 256) := by
  rw [pk_and _ 8 (by decide)]
  refine congrArg nI ?_
  have e : ((u.toUInt64 >>> ((nI (8 * i)).toInt64.toUInt64 &&& Int64.toUInt64 63)).toInt64).toBitVec = u.toBitVec >>> (8 * i) := by
    show u.toBitVec >>> (((nI (8 * i)).toInt64.toUInt64 &&& Int64.toUInt64 63).toBitVec % 64#64) = _
    rw [BitVec.ushiftRight_eq', zb_amt (8 * i) (by omega)]
  rw [Int64.toBitVec_toInt32, e, BitVec.signExtend_eq_setWidth_of_le _ (by decide), BitVec.toNat_setWidth, BitVec.toNat_ushiftRight, Nat.shiftRight_eq_div_pow, Nat.mod_mod_of_dvd _ (by decide)]
theorem zk_fil {I J : Nat → Nat → Int32} {C : za_C} {p : Nat} {f : Nat → Nat} (h : zr_C I C) (h1 : ∀ i, i < 16 → J (138 + p) i = nI (f i)) (h2 : ∀ a, a ≠ 138 + p → J a = I a) (hp : p < 16) : zr_C J (za_fil C p f) := by
  refine ⟨fun q hq => (congrFun (h2 136 (by omega)) q).trans (h.1 q hq), (congrFun (h2 135 (by omega)) 3).trans h.2.1, fun q hq e => ⟨fun j hj => ?_, (congrFun (h2 154 (by omega)) q).trans (h.2.2 q hq e).2⟩⟩
  show _ = nI (zw_ro C.2.1 p f q j)
  by_cases k : q = p
  · rw [k, zw_ro_s]
    exact h1 j hj
  · rw [zw_ro_n _ _ k, h2 _ (by omega)]
    exact (h.2.2 q hq e).1 j hj
theorem zk_f8 {J : Nat → Nat → Int32} {k i : Nat} {u v : Int64} (hi : i < 8) (h : ∀ j, j < i → J k j = nI (za_fb u v j) ∧ J k (8 + j) = nI (za_fb u v (8 + j))) : ∀ j, j < i + 1 → zw_up (zw_up J k i (nI (u.toBitVec.toNat / 2 ^ (8 * i) % 256))) k (8 + i) (nI (v.toBitVec.toNat / 2 ^ (8 * i) % 256)) k j = nI (za_fb u v j) ∧ zw_up (zw_up J k i (nI (u.toBitVec.toNat / 2 ^ (8 * i) % 256))) k (8 + i) (nI (v.toBitVec.toNat / 2 ^ (8 * i) % 256)) k (8 + j) = nI (za_fb u v (8 + j)) := by
  intro j hj
  by_cases e : j = i
  · subst e
    rw [zw_up_n _ _ (Or.inr (by omega)), zw_up_s, zw_up_s]
    unfold za_fb
    rw [if_pos hi, if_neg (by omega), show 8 + j - 8 = j by omega]
    exact ⟨rfl, rfl⟩
  · rw [zw_up_n _ _ (Or.inr (by omega)), zw_up_n _ _ (Or.inr e), zw_up_n _ _ (Or.inr (by omega)), zw_up_n _ _ (Or.inr (by omega))]
    exact h j (by omega)
set_option maxHeartbeats 4000000 in
set_option maxRecDepth 100000 in
theorem pi_1 {V : zv_V} (E : zv_OK V) {w : zw_W} (HX : zl_X w) {D : Nat → Nat → Nat} {H : za_H} {b : Bool} {L S : za_T} {C : za_C} (hX : zr_X (zw_i w) D H b L S C) (hH : za_WH H) {x : Int32} (hx : ∀ n, n < 16 → x ≠ nI n) {u v : Int64} : zg_C V zm_X3_fill yX3_fill 8 190 [.ref 1, .int x, .long u, .long v] w (zq_p (.inr 20) (zr_pub w D H b L S C)) := by
  refine zg_of (by decide +kernel) rfl (Nat.le_of_ble_eq_true rfl) ?_
  show zg_G V zm_X3_fill 8 190 w.1 w.2.1 0 [] [(0, .ref 1), (1, .int x), (2, .long u), (4, .long v)] w _
  refine zg_iload_n dX3_fill_0 rfl ?_
  refine zg_sthr (M := zm_X3_fill) E dX3_fill_1 (ct_checkPage_no E HX hx) wd_X3_45 dh_X3_checkPage dn_X3_checkPage (Nat.le_of_ble_eq_true rfl) (Nat.le_of_ble_eq_true rfl) (Nat.le_of_ble_eq_true rfl) (zl_cap HX) rfl (fun w1 g1 => ?_)
  subst w1
  exact zg_out rfl ⟨rfl, zp_nw HX hX hH⟩
set_option maxHeartbeats 4000000 in
set_option maxRecDepth 100000 in
theorem pi_2 {V : zv_V} (E : zv_OK V) {w : zw_W} (HX : zl_X w) {D : Nat → Nat → Nat} {H : za_H} {b : Bool} {L S : za_T} {C : za_C} (hX : zr_X (zw_i w) D H b L S C) (hH : za_WH H) {p : Nat} (hp : p < 16) {u v : Int64} (hb : b = true)  : zg_C V zm_X3_fill yX3_fill 8 190 [.ref 1, .int (nI p), .long u, .long v] w (zq_p (.inr 21) (zr_pub w D H b L S C)) := by
  refine zg_of (by decide +kernel) rfl (Nat.le_of_ble_eq_true rfl) ?_
  show zg_G V zm_X3_fill 8 190 w.1 w.2.1 0 [] [(0, .ref 1), (1, .int (nI p)), (2, .long u), (4, .long v)] w _
  refine zg_iload_n dX3_fill_0 rfl ?_
  refine zg_sret (M := zm_X3_fill) E dX3_fill_1 (ct_checkPage_ok E HX hp) wd_X3_45 dh_X3_checkPage dn_X3_checkPage (Nat.le_of_ble_eq_true rfl) (Nat.le_of_ble_eq_true rfl) (Nat.le_of_ble_eq_true rfl) (zl_cap HX) rfl (fun w1 g1 => ?_)
  subst w1
  refine zg_aload_n dX3_fill_4 rfl ?_
  refine zg_vth (M := zm_X3_fill) E (ci := 3) dX3_fill_5 (ct_mounted_no E HX (by rw [hX.2.2.1, hb]; decide)) wd_X3_55 rfl (congrArg Prod.fst (zl_at HX (k := 1) (t := (3, 7)) rfl (by decide) (by decide))) (by decide) (zl_lt HX (by decide)) rfl dh_X3_checkMounted dn_X3_checkMounted (Nat.le_of_ble_eq_true rfl) (Nat.le_of_ble_eq_true rfl) (Nat.le_of_ble_eq_true rfl) (zl_cap HX) rfl (fun w5 g5 => ?_)
  subst w5
  exact zg_out rfl ⟨rfl, zp_nw HX hX hH⟩
set_option maxHeartbeats 4000000 in
set_option maxRecDepth 100000 in
theorem pi_3 {V : zv_V} (E : zv_OK V) {w : zw_W} (HX : zl_X w) {D : Nat → Nat → Nat} {H : za_H} {b : Bool} {L S : za_T} {C : za_C} (hX : zr_X (zw_i w) D H b L S C) (hH : za_WH H) {p : Nat} (hp : p < 16) {u v : Int64} (hb : b = false) (hc : zg_C V zm_X3_changePage yX3_changePage 6 130 [.ref 1, .int (nI p)] w (zq_p (.inr 21) (· = zw_nw w (21, 6))))  : zg_C V zm_X3_fill yX3_fill 8 190 [.ref 1, .int (nI p), .long u, .long v] w (zq_p (.inr 21) (zr_pub w D H b L S C)) := by
  refine zg_of (by decide +kernel) rfl (Nat.le_of_ble_eq_true rfl) ?_
  show zg_G V zm_X3_fill 8 190 w.1 w.2.1 0 [] [(0, .ref 1), (1, .int (nI p)), (2, .long u), (4, .long v)] w _
  refine zg_iload_n dX3_fill_0 rfl ?_
  refine zg_sret (M := zm_X3_fill) E dX3_fill_1 (ct_checkPage_ok E HX hp) wd_X3_45 dh_X3_checkPage dn_X3_checkPage (Nat.le_of_ble_eq_true rfl) (Nat.le_of_ble_eq_true rfl) (Nat.le_of_ble_eq_true rfl) (zl_cap HX) rfl (fun w1 g1 => ?_)
  subst w1
  refine zg_aload_n dX3_fill_4 rfl ?_
  refine zg_vrt (M := zm_X3_fill) E (ci := 3) dX3_fill_5 (ct_mounted_ok E HX (by rw [hX.2.2.1, hb]; rfl)) wd_X3_55 rfl (congrArg Prod.fst (zl_at HX (k := 1) (t := (3, 7)) rfl (by decide) (by decide))) (by decide) (zl_lt HX (by decide)) rfl dh_X3_checkMounted dn_X3_checkMounted (Nat.le_of_ble_eq_true rfl) (Nat.le_of_ble_eq_true rfl) (Nat.le_of_ble_eq_true rfl) (zl_cap HX) rfl (fun w5 g5 => ?_)
  subst w5
  refine zg_aload_n dX3_fill_8 rfl ?_
  refine zg_iload_n dX3_fill_9 rfl ?_
  refine zg_vth (M := zm_X3_fill) E (ci := 3) dX3_fill_10 hc wd_X3_58 rfl (congrArg Prod.fst (zl_at HX (k := 1) (t := (3, 7)) rfl (by decide) (by decide))) (by decide) (zl_lt HX (by decide)) rfl dh_X3_changePage dn_X3_changePage (Nat.le_of_ble_eq_true rfl) (Nat.le_of_ble_eq_true rfl) (Nat.le_of_ble_eq_true rfl) (zl_cap HX) rfl (fun w10 g10 => ?_)
  subst w10
  exact zg_out rfl ⟨rfl, zp_nw HX hX hH⟩
set_option maxHeartbeats 4000000 in
set_option maxRecDepth 100000 in
theorem lp_fill2 {V : zv_V} (E : zv_OK V) {w : zw_W} {n0 u0 : Nat} {Q : zg_O → zw_W → Prop} (HX : zl_X w) {D : Nat → Nat → Nat} {H : za_H} {b : Bool} {L S : za_T} {C : za_C} {u v : Int64} {p : Nat} (hp : p < 16) (hH : za_WH H) {J1 : Nat → Nat → Int32} {C1 : za_C} (r1 : zr_X J1 D H b L S C1) (hq : ∀ J, zr_X J D H b L S (za_fil C1 p (za_fb u v)) → (∀ a, a ≠ 138 + p → J a = J1 a) → Q (.inl (some (.int (nI (za_n C1.1 16))))) (zw_I w J)) : ∀ (n i : Nat) (J : Nat → Nat → Int32), i ≤ 8 → 8 + 1 ≤ i + n → (∀ j, j < i → J (138 + p) j = nI (za_fb u v j) ∧ J (138 + p) (8 + j) = nI (za_fb u v (8 + j))) → (∀ a, a ≠ 138 + p → J a = J1 a) → zg_G V zm_X3_fill 8 190 n0 u0 31 [] [(8, .int (nI i)), (7, .int (nI 8)), (6, .ref (138 + p)), (0, .ref 1), (2, .long u), (4, .long v)] (zw_I w J) Q := by
  intro n
  induction n with
  | zero =>
    intro i J hi hn
    exact absurd hn (by omega)
  | succ n ih =>
    intro i J hi hn k0 k1
    refine zg_iload dX3_fill_31 rfl ?_
    refine zg_iload dX3_fill_33 rfl ?_
    refine zg_icmp_ge (tgt := 82) dX3_fill_35 (by decide) (fun h35 => ?_) (fun h35 => ?_)
    · obtain rfl : i = 8 := by have := zn_ge h35 (by omega) (by omega); omega
      have hx : zr_X J D H b L S (za_fil C1 p (za_fb u v)) := zr_Xc r1 hH.1 (zk_fil r1.2.2.2.2.2 (fun j hj => (Nat.lt_or_ge j 8).elim (fun z => (k0 j z).1) (fun z => by have := (k0 (j - 8) (by omega)).2; rwa [show 8 + (j - 8) = j by omega] at this)) k1 hp) (fun a ha => k1 a (by omega))
      refine zg_aload_n dX3_fill_82 rfl ?_
      refine zg_getR E (ci := 3) (j := 4) (r := 135) dX3_fill_83 rfl (congrArg Prod.fst (zl_at HX (k := 1) (t := (3, 7)) rfl (by decide) (by decide))) (by decide) (zl_lt HX (by decide)) (by decide) fl_X3_34 rfl (zl_rf HX rfl (by decide) (by decide)) ?_
      refine zg_getI E (ci := 0) (j := 3) dX3_fill_86 rfl (congrArg Prod.fst (zl_at HX (k := 135) (t := (0, 4)) rfl (by decide) (by decide))) (by decide) (zl_lt HX (by decide)) (by decide) fl_X3_64 rfl ?_
      refine zg_v (x' := nI (za_n C1.1 16)) hx.2.2.2.2.2.2.1 ?_
      exact zg_iret rfl dX3_fill_89 (hq J hx k1)
    · have hlt : i < 8 := zn_lt h35 (by omega) (by omega)
      refine zg_aload dX3_fill_38 rfl ?_
      refine zg_iload dX3_fill_40 rfl ?_
      refine zg_lload_n dX3_fill_42 rfl ?_
      refine zg_bipush (v := nI 8) dX3_fill_43 (by decide) ?_
      refine zg_iload dX3_fill_45 rfl ?_
      refine zg_imul dX3_fill_47 ?_
      refine zg_v (x' := nI (8 * i)) (pk_mul _ _) ?_
      refine zg_lushr dX3_fill_48 ?_
      refine zg_l2i dX3_fill_49 ?_
      refine zg_sipush (v := nI 255) dX3_fill_50 (by decide) ?_
      refine zg_iand dX3_fill_53 ?_
      refine zg_v (x' := nI (u.toBitVec.toNat / 2 ^ (8 * i) % 256)) (zn_fb u hlt) ?_
      refine zg_iast E (j := i) dX3_fill_54 (zl_at HX (zl_pag (by omega)).1 (by omega) (by omega)) (by omega) (zl_lt HX (by omega)) rfl (by omega) (by decide) ?_
      refine zg_aload dX3_fill_55 rfl ?_
      refine zg_iload dX3_fill_57 rfl ?_
      refine zg_iload dX3_fill_59 rfl ?_
      refine zg_iadd dX3_fill_61 ?_
      refine zg_v (x' := nI (8 + i)) (nI_add _ _) ?_
      refine zg_lload dX3_fill_62 rfl ?_
      refine zg_bipush (v := nI 8) dX3_fill_64 (by decide) ?_
      refine zg_iload dX3_fill_66 rfl ?_
      refine zg_imul dX3_fill_68 ?_
      refine zg_v (x' := nI (8 * i)) (pk_mul _ _) ?_
      refine zg_lushr dX3_fill_69 ?_
      refine zg_l2i dX3_fill_70 ?_
      refine zg_sipush (v := nI 255) dX3_fill_71 (by decide) ?_
      refine zg_iand dX3_fill_74 ?_
      refine zg_v (x' := nI (v.toBitVec.toNat / 2 ^ (8 * i) % 256)) (zn_fb v hlt) ?_
      refine zg_iast E (j := 8 + i) dX3_fill_75 (zl_at HX (zl_pag (by omega)).1 (by omega) (by omega)) (by omega) (zl_lt HX (by omega)) rfl (by omega) (by decide) ?_
      refine zg_iinc (v := nI (i + 1)) (lv' := [(8, .int (nI (i + 1))), (7, .int (nI 8)), (6, .ref (138 + p)), (0, .ref 1), (2, .long u), (4, .long v)]) dX3_fill_76 rfl (nI_1 i) (by decide) rfl ?_
      refine zg_goto (tgt := 31) dX3_fill_79 (by decide) ?_
      refine zg_l [0, 1, 2, 3, 4, 5] rfl ?_
      exact zg_s rfl rfl rfl (ih (i + 1) _ (by omega) (by omega) (zk_f8 hlt k0) (fun a ha => (zw_up_row _ _ _ ha).trans ((zw_up_row _ _ _ ha).trans (k1 a ha))))
set_option maxHeartbeats 4000000 in
set_option maxRecDepth 100000 in
theorem pi_4 {V : zv_V} (E : zv_OK V) {w : zw_W} (HX : zl_X w) {D : Nat → Nat → Nat} {H : za_H} {b : Bool} {L S : za_T} {C : za_C} (hX : zr_X (zw_i w) D H b L S C) (hH : za_WH H) {p : Nat} (hp : p < 16) {u v : Int64} (hb : b = false) {C1 : za_C} (h1 : C1.1 p ≠ 0) (hc : zg_C V zm_X3_changePage yX3_changePage 3 130 [.ref 1, .int (nI p)] w (zq_p (.inl none) (zr_to w 135 155 (zr_X · D H b L S C1))))  : zg_C V zm_X3_fill yX3_fill 8 190 [.ref 1, .int (nI p), .long u, .long v] w (zq_p (.inl (some (.int (nI (za_n C1.1 16))))) (zr_pub w D H b L S (za_fil C1 p (za_fb u v)))) := by
  refine zg_of (by decide +kernel) rfl (Nat.le_of_ble_eq_true rfl) ?_
  show zg_G V zm_X3_fill 8 190 w.1 w.2.1 0 [] [(0, .ref 1), (1, .int (nI p)), (2, .long u), (4, .long v)] w _
  refine zg_iload_n dX3_fill_0 rfl ?_
  refine zg_sret (M := zm_X3_fill) E dX3_fill_1 (ct_checkPage_ok E HX hp) wd_X3_45 dh_X3_checkPage dn_X3_checkPage (Nat.le_of_ble_eq_true rfl) (Nat.le_of_ble_eq_true rfl) (Nat.le_of_ble_eq_true rfl) (zl_cap HX) rfl (fun w1 g1 => ?_)
  subst w1
  refine zg_aload_n dX3_fill_4 rfl ?_
  refine zg_vrt (M := zm_X3_fill) E (ci := 3) dX3_fill_5 (ct_mounted_ok E HX (by rw [hX.2.2.1, hb]; rfl)) wd_X3_55 rfl (congrArg Prod.fst (zl_at HX (k := 1) (t := (3, 7)) rfl (by decide) (by decide))) (by decide) (zl_lt HX (by decide)) rfl dh_X3_checkMounted dn_X3_checkMounted (Nat.le_of_ble_eq_true rfl) (Nat.le_of_ble_eq_true rfl) (Nat.le_of_ble_eq_true rfl) (zl_cap HX) rfl (fun w5 g5 => ?_)
  subst w5
  refine zg_aload_n dX3_fill_8 rfl ?_
  refine zg_iload_n dX3_fill_9 rfl ?_
  refine zg_vrt (M := zm_X3_fill) E (ci := 3) dX3_fill_10 hc wd_X3_58 rfl (congrArg Prod.fst (zl_at HX (k := 1) (t := (3, 7)) rfl (by decide) (by decide))) (by decide) (zl_lt HX (by decide)) rfl dh_X3_changePage dn_X3_changePage (Nat.le_of_ble_eq_true rfl) (Nat.le_of_ble_eq_true rfl) (Nat.le_of_ble_eq_true rfl) (zl_cap HX) rfl (fun w10 g10 => ?_)
  obtain ⟨J1, rfl, r1, f1⟩ := g10
  refine zg_w (w' := zw_I w J1) rfl ?_
  refine zg_aload_n dX3_fill_13 rfl ?_
  refine zg_getR E (ci := 3) (j := 4) (r := 135) dX3_fill_14 rfl (congrArg Prod.fst (zl_at HX (k := 1) (t := (3, 7)) rfl (by decide) (by decide))) (by decide) (zl_lt HX (by decide)) (by decide) fl_X3_34 rfl (zl_rf HX rfl (by decide) (by decide)) ?_
  refine zg_getR E (ci := 0) (j := 1) (r := 137) dX3_fill_17 rfl (congrArg Prod.fst (zl_at HX (k := 135) (t := (0, 4)) rfl (by decide) (by decide))) (by decide) (zl_lt HX (by decide)) (by decide) fl_X3_61 rfl (zl_rf HX rfl (by decide) (by decide)) ?_
  refine zg_iload_n dX3_fill_20 rfl ?_
  refine zg_aald E (j := p) (r := 138 + p) dX3_fill_21 (zl_at HX (k := 137) (t := (13, 16)) rfl (by decide) (by decide)) (by decide) (zl_lt HX (by decide)) rfl (by omega) (by decide) (zl_rf HX (zl_pag (by omega)).2 (by decide) (by decide)) ?_
  refine zg_astore (lv' := [(6, .ref (138 + p)), (0, .ref 1), (1, .int (nI p)), (2, .long u), (4, .long v)]) dX3_fill_22 (by decide) rfl ?_
  refine zg_bipush (v := nI 8) dX3_fill_24 (by decide) ?_
  refine zg_istore (lv' := [(7, .int (nI 8)), (6, .ref (138 + p)), (0, .ref 1), (1, .int (nI p)), (2, .long u), (4, .long v)]) dX3_fill_26 (by decide) rfl ?_
  refine zg_iconst (v := nI 0) dX3_fill_28 (by decide) ?_
  refine zg_istore (lv' := [(8, .int (nI 0)), (7, .int (nI 8)), (6, .ref (138 + p)), (0, .ref 1), (1, .int (nI p)), (2, .long u), (4, .long v)]) dX3_fill_29 (by decide) rfl ?_
  refine zg_l [0, 1, 2, 3, 5, 6] rfl ?_
  exact zg_s rfl rfl rfl (lp_fill2 (C := C) E HX hp hH r1 (fun J h2 h3 => ⟨rfl, zp_to (lo := 135) (hi := 155) (by decide) ⟨J, rfl, h2, fun a ha => (h3 a (by omega)).trans (f1 a ha)⟩⟩) 9 0 J1 (by omega) (by omega) (fun j hj => absurd hj (Nat.not_lt_zero j)) (fun a _ => rfl))

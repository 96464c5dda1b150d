/-! The class's total; Long.bitCount. -/
set_option maxHeartbeats 4000000 in
set_option maxRecDepth 100000 in
theorem ct_bitCount {V : zv_V} (E : zv_OK V) {w : zw_W} (u : Int64) : zg_C V zm_J13_bitCount_95d88 yJ13_bitCount_95d88 0 0 [.long u] w (zq_p (.inl (some (.int (zk_bc u)))) (· = w)) := by
  refine zg_of (by decide +kernel) rfl (Nat.le_of_ble_eq_true rfl) ?_
  show zg_G V zm_J13_bitCount_95d88 0 0 w.1 w.2.1 0 [] [(0, .long u)] w _
  refine zg_lload_n dJ13_bitCount_95d88_0 rfl ?_
  refine zg_lload_n dJ13_bitCount_95d88_1 rfl ?_
  refine zg_iconst (v := nI 1) dJ13_bitCount_95d88_2 (by decide) ?_
  refine zg_lushr dJ13_bitCount_95d88_3 ?_
  refine zg_ldc2 E (v := 6148914691236517205) dJ13_bitCount_95d88_4 (by decide +kernel) ?_
  refine zg_land dJ13_bitCount_95d88_7 ?_
  refine zg_lsub dJ13_bitCount_95d88_8 ?_
  refine zg_lstore_n (lv' := [(0, .long (u - (((u.toUInt64 >>> ((nI 1).toInt64.toUInt64 &&& Int64.toUInt64 63)).toInt64) &&& ((6148914691236517205)))))]) dJ13_bitCount_95d88_9 (by decide) rfl ?_
  refine zg_s (st' := []) (lv' := [(0, .long (zk_b1 u))]) (w' := w) rfl rfl rfl ?_
  refine zg_lload_n dJ13_bitCount_95d88_10 rfl ?_
  refine zg_ldc2 E (v := 3689348814741910323) dJ13_bitCount_95d88_11 (by decide +kernel) ?_
  refine zg_land dJ13_bitCount_95d88_14 ?_
  refine zg_lload_n dJ13_bitCount_95d88_15 rfl ?_
  refine zg_iconst (v := nI 2) dJ13_bitCount_95d88_16 (by decide) ?_
  refine zg_lushr dJ13_bitCount_95d88_17 ?_
  refine zg_ldc2 E (v := 3689348814741910323) dJ13_bitCount_95d88_18 (by decide +kernel) ?_
  refine zg_land dJ13_bitCount_95d88_21 ?_
  refine zg_ladd dJ13_bitCount_95d88_22 ?_
  refine zg_lstore_n (lv' := [(0, .long (((zk_b1 u) &&& ((3689348814741910323))) + ((((zk_b1 u).toUInt64 >>> ((nI 2).toInt64.toUInt64 &&& Int64.toUInt64 63)).toInt64) &&& ((3689348814741910323)))))]) dJ13_bitCount_95d88_23 (by decide) rfl ?_
  refine zg_s (st' := []) (lv' := [(0, .long (zk_b2 (zk_b1 u)))]) (w' := w) rfl rfl rfl ?_
  refine zg_lload_n dJ13_bitCount_95d88_24 rfl ?_
  refine zg_lload_n dJ13_bitCount_95d88_25 rfl ?_
  refine zg_iconst (v := nI 4) dJ13_bitCount_95d88_26 (by decide) ?_
  refine zg_lushr dJ13_bitCount_95d88_27 ?_
  refine zg_ladd dJ13_bitCount_95d88_28 ?_
  refine zg_ldc2 E (v := 1085102592571150095) dJ13_bitCount_95d88_29 (by decide +kernel) ?_
  refine zg_land dJ13_bitCount_95d88_32 ?_
  refine zg_lstore_n (lv' := [(0, .long (((zk_b2 (zk_b1 u)) + (((zk_b2 (zk_b1 u)).toUInt64 >>> ((nI 4).toInt64.toUInt64 &&& Int64.toUInt64 63)).toInt64)) &&& ((1085102592571150095))))]) dJ13_bitCount_95d88_33 (by decide) rfl ?_
  refine zg_s (st' := []) (lv' := [(0, .long (zk_b3 (zk_b2 (zk_b1 u))))]) (w' := w) rfl rfl rfl ?_
  refine zg_lload_n dJ13_bitCount_95d88_34 rfl ?_
  refine zg_lload_n dJ13_bitCount_95d88_35 rfl ?_
  refine zg_bipush (v := nI 8) dJ13_bitCount_95d88_36 (by decide) ?_
  refine zg_lushr dJ13_bitCount_95d88_38 ?_
  refine zg_ladd dJ13_bitCount_95d88_39 ?_
  refine zg_lstore_n (lv' := [(0, .long ((zk_b3 (zk_b2 (zk_b1 u))) + (((zk_b3 (zk_b2 (zk_b1 u))).toUInt64 >>> ((nI 8).toInt64.toUInt64 &&& Int64.toUInt64 63)).toInt64)))]) dJ13_bitCount_95d88_40 (by decide) rfl ?_
  refine zg_s (st' := []) (lv' := [(0, .long (zk_b4 (nI 8) (zk_b3 (zk_b2 (zk_b1 u)))))]) (w' := w) rfl rfl rfl ?_
  refine zg_lload_n dJ13_bitCount_95d88_41 rfl ?_
  refine zg_lload_n dJ13_bitCount_95d88_42 rfl ?_
  refine zg_bipush (v := nI 16) dJ13_bitCount_95d88_43 (by decide) ?_
  refine zg_lushr dJ13_bitCount_95d88_45 ?_
  refine zg_ladd dJ13_bitCount_95d88_46 ?_
  refine zg_lstore_n (lv' := [(0, .long ((zk_b4 (nI 8) (zk_b3 (zk_b2 (zk_b1 u)))) + (((zk_b4 (nI 8) (zk_b3 (zk_b2 (zk_b1 u)))).toUInt64 >>> ((nI 16).toInt64.toUInt64 &&& Int64.toUInt64 63)).toInt64)))]) dJ13_bitCount_95d88_47 (by decide) rfl ?_
  refine zg_s (st' := []) (lv' := [(0, .long (zk_b4 (nI 16) (zk_b4 (nI 8) (zk_b3 (zk_b2 (zk_b1 u))))))]) (w' := w) rfl rfl rfl ?_
  refine zg_lload_n dJ13_bitCount_95d88_48 rfl ?_
  refine zg_lload_n dJ13_bitCount_95d88_49 rfl ?_
  refine zg_bipush (v := nI 32) dJ13_bitCount_95d88_50 (by decide) ?_
  refine zg_lushr dJ13_bitCount_95d88_52 ?_
  refine zg_ladd dJ13_bitCount_95d88_53 ?_
  refine zg_lstore_n (lv' := [(0, .long ((zk_b4 (nI 16) (zk_b4 (nI 8) (zk_b3 (zk_b2 (zk_b1 u))))) + (((zk_b4 (nI 16) (zk_b4 (nI 8) (zk_b3 (zk_b2 (zk_b1 u))))).toUInt64 >>> ((nI 32).toInt64.toUInt64 &&& Int64.toUInt64 63)).toInt64)))]) dJ13_bitCount_95d88_54 (by decide) rfl ?_
  refine zg_s (st' := []) (lv' := [(0, .long (zk_b4 (nI 32) (zk_b4 (nI 16) (zk_b4 (nI 8) (zk_b3 (zk_b2 (zk_b1 u)))))))]) (w' := w) rfl rfl rfl ?_
  refine zg_lload_n dJ13_bitCount_95d88_55 rfl ?_
  refine zg_l2i dJ13_bitCount_95d88_56 ?_
  refine zg_bipush (v := nI 127) dJ13_bitCount_95d88_57 (by decide) ?_
  refine zg_iand dJ13_bitCount_95d88_59 ?_
  exact zg_iret rfl dJ13_bitCount_95d88_60 ⟨rfl, rfl⟩
theorem zk_free {I : Nat → Nat → Int32} {L S : za_T} {C : za_C} (hL : zr_T 131 132 I L) (hS : zr_T 133 134 I S) (hC : zr_C I C) (wL : za_WT L) (wS : za_WT S) (wC : za_WC C) {f : Nat → Bool} (hf : ∀ s, s < 48 → (f s = true ↔ ¬ za_us L S C.1 s)) : zk_bc (zk_fs I) = nI (za_pc f 48) := by
  rw [zk_bcn, show (64 : Nat) = 48 + 16 from rfl, za_pc_add]
  refine congrArg nI ?_
  rw [za_pc_e (f := zb (zk_fs I)) (g := f) (fun s hs => zb_iff ((zk_fs_b hL hS hC wL wS wC hs).trans (hf s hs).symm)), za_pc_e (f := fun i => zb (zk_fs I) (48 + i)) (g := fun _ => false) (n := 16) (fun s hs => ?_)]
  · rfl
  · unfold zk_fs
    rw [zb_and, zb_all (48 + s) (by omega), show decide (48 + s < 48) = false by simp, Bool.and_false]
set_option maxHeartbeats 4000000 in
set_option maxRecDepth 100000 in
theorem kt_mt1y {V : zv_V} (E : zv_OK V) {w : zw_W} (HX : zl_X w) {D : Nat → Nat → Nat} {H : za_H} {b : Bool} {L S : za_T} {C : za_C} (hX : zr_X (zw_i w) D H b L S C) (h0 : 0 < za_n C.1 16) : zg_C V zm_X3_mountedTotal yX3_mountedTotal 3 100 [.ref 1, .int (nI 1)] w (zq_p (.inl (some (.int (nI (za_n C.1 16))))) (· = w)) := by
  refine zg_of (by decide +kernel) rfl (Nat.le_of_ble_eq_true rfl) ?_
  show zg_G V zm_X3_mountedTotal 3 100 w.1 w.2.1 0 [] [(0, .ref 1), (1, .int (nI 1))] w _
  refine zg_iload_n dX3_mountedTotal_0 rfl ?_
  refine zg_tabIn (off := 35) (tgt := 36) dX3_mountedTotal_1 (by decide) (by decide) (by decide) (by decide) ?_
  refine zg_aload_n dX3_mountedTotal_36 rfl ?_
  refine zg_getR E (ci := 3) (j := 4) (r := 135) dX3_mountedTotal_37 rfl (congrArg Prod.fst (zl_at HX (k := 1) (t := (3, 7)) rfl (by decide) (by decide))) (by decide) (zl_lt HX (by decide)) (by decide) fl_X3_34 rfl (zl_rf HX rfl (by decide) (by decide)) ?_
  refine zg_vrt (M := zm_X3_mountedTotal) E (ci := 0) dX3_mountedTotal_40 (ct_isOpen_y E HX (zk_yes hX.2.2.2.2.2 h0)) wd_X3_163 rfl (congrArg Prod.fst (zl_at HX (k := 135) (t := (0, 4)) rfl (by decide) (by decide))) (by decide) (zl_lt HX (by decide)) rfl dh_X0_isOpen dn_X0_isOpen (Nat.le_of_ble_eq_true rfl) (Nat.le_of_ble_eq_true rfl) (Nat.le_of_ble_eq_true rfl) (zl_cap HX) rfl (fun w40 g40 => ?_)
  subst w40
  refine zg_if_eq (tgt := 56) dX3_mountedTotal_43 (by decide) (fun h43 => ?_) (fun h43 => ?_)
  · exact absurd h43 (by decide)
  · refine zg_aload_n dX3_mountedTotal_46 rfl ?_
    refine zg_getR E (ci := 3) (j := 4) (r := 135) dX3_mountedTotal_47 rfl (congrArg Prod.fst (zl_at HX (k := 1) (t := (3, 7)) rfl (by decide) (by decide))) (by decide) (zl_lt HX (by decide)) (by decide) fl_X3_34 rfl (zl_rf HX rfl (by decide) (by decide)) ?_
    refine zg_getI E (ci := 0) (j := 3) dX3_mountedTotal_50 rfl (congrArg Prod.fst (zl_at HX (k := 135) (t := (0, 4)) rfl (by decide) (by decide))) (by decide) (zl_lt HX (by decide)) (by decide) fl_X3_64 rfl ?_
    refine zg_v (x' := nI (za_n C.1 16)) hX.2.2.2.2.2.2.1 ?_
    refine zg_goto (tgt := 57) dX3_mountedTotal_53 (by decide) ?_
    exact zg_iret rfl dX3_mountedTotal_57 ⟨rfl, rfl⟩
set_option maxHeartbeats 4000000 in
set_option maxRecDepth 100000 in
theorem kt_mt1n {V : zv_V} (E : zv_OK V) {w : zw_W} (HX : zl_X w) {D : Nat → Nat → Nat} {H : za_H} {b : Bool} {L S : za_T} {C : za_C} (hX : zr_X (zw_i w) D H b L S C) (h0 : za_n C.1 16 = 0) : zg_C V zm_X3_mountedTotal yX3_mountedTotal 3 100 [.ref 1, .int (nI 1)] w (zq_p (.inl (some (.int ((-1))))) (· = w)) := by
  refine zg_of (by decide +kernel) rfl (Nat.le_of_ble_eq_true rfl) ?_
  show zg_G V zm_X3_mountedTotal 3 100 w.1 w.2.1 0 [] [(0, .ref 1), (1, .int (nI 1))] w _
  refine zg_iload_n dX3_mountedTotal_0 rfl ?_
  refine zg_tabIn (off := 35) (tgt := 36) dX3_mountedTotal_1 (by decide) (by decide) (by decide) (by decide) ?_
  refine zg_aload_n dX3_mountedTotal_36 rfl ?_
  refine zg_getR E (ci := 3) (j := 4) (r := 135) dX3_mountedTotal_37 rfl (congrArg Prod.fst (zl_at HX (k := 1) (t := (3, 7)) rfl (by decide) (by decide))) (by decide) (zl_lt HX (by decide)) (by decide) fl_X3_34 rfl (zl_rf HX rfl (by decide) (by decide)) ?_
  refine zg_vrt (M := zm_X3_mountedTotal) E (ci := 0) dX3_mountedTotal_40 (ct_isOpen_n E HX (zk_no hX.2.2.2.2.2 h0)) wd_X3_163 rfl (congrArg Prod.fst (zl_at HX (k := 135) (t := (0, 4)) rfl (by decide) (by decide))) (by decide) (zl_lt HX (by decide)) rfl dh_X0_isOpen dn_X0_isOpen (Nat.le_of_ble_eq_true rfl) (Nat.le_of_ble_eq_true rfl) (Nat.le_of_ble_eq_true rfl) (zl_cap HX) rfl (fun w40 g40 => ?_)
  subst w40
  refine zg_if_eq (tgt := 56) dX3_mountedTotal_43 (by decide) (fun h43 => ?_) (fun h43 => ?_)
  · refine zg_iconst (v := (-1)) dX3_mountedTotal_56 (by decide) ?_
    exact zg_iret rfl dX3_mountedTotal_57 ⟨rfl, rfl⟩
  · exact absurd rfl h43
set_option maxHeartbeats 4000000 in
set_option maxRecDepth 100000 in
theorem kt_mt2 {V : zv_V} (E : zv_OK V) {w : zw_W} (HX : zl_X w) {D : Nat → Nat → Nat} {H : za_H} {b : Bool} {L S : za_T} {C : za_C} (hX : zr_X (zw_i w) D H b L S C) (wL : za_WT L) (wS : za_WT S) (wC : za_WC C) {f : Nat → Bool} (hf : ∀ s, s < 48 → (f s = true ↔ ¬ za_us L S C.1 s)) : zg_C V zm_X3_mountedTotal yX3_mountedTotal 3 100 [.ref 1, .int (nI 2)] w (zq_p (.inl (some (.int (nI (za_pc f 48))))) (· = w)) := by
  refine zg_of (by decide +kernel) rfl (Nat.le_of_ble_eq_true rfl) ?_
  show zg_G V zm_X3_mountedTotal 3 100 w.1 w.2.1 0 [] [(0, .ref 1), (1, .int (nI 2))] w _
  refine zg_iload_n dX3_mountedTotal_0 rfl ?_
  refine zg_tabIn (off := 57) (tgt := 58) dX3_mountedTotal_1 (by decide) (by decide) (by decide) (by decide) ?_
  refine zg_aload_n dX3_mountedTotal_58 rfl ?_
  refine zg_vrt (M := zm_X3_mountedTotal) E (ci := 3) dX3_mountedTotal_59 (ct_freeSet E HX) wd_X3_144 rfl (congrArg Prod.fst (zl_at HX (k := 1) (t := (3, 7)) rfl (by decide) (by decide))) (by decide) (zl_lt HX (by decide)) rfl dh_X3_freeSet dn_X3_freeSet (Nat.le_of_ble_eq_true rfl) (Nat.le_of_ble_eq_true rfl) (Nat.le_of_ble_eq_true rfl) (zl_cap HX) rfl (fun w59 g59 => ?_)
  subst w59
  refine zg_sret (M := zm_X3_mountedTotal) E dX3_mountedTotal_62 (ct_bitCount E (zk_fs (zw_i w))) wd_X3_167 dh_J13_bitCount_95d88 dn_J13_bitCount_95d88 (Nat.le_of_ble_eq_true rfl) (Nat.le_of_ble_eq_true rfl) (Nat.le_of_ble_eq_true rfl) (zl_cap HX) rfl (fun w62 g62 => ?_)
  subst w62
  refine zg_v (x' := nI (za_pc f 48)) (zk_free hX.2.2.2.1 hX.2.2.2.2.1 hX.2.2.2.2.2 wL wS wC hf) ?_
  exact zg_iret rfl dX3_mountedTotal_65 ⟨rfl, rfl⟩
set_option maxHeartbeats 4000000 in
set_option maxRecDepth 100000 in
theorem kt_mt3 {V : zv_V} (E : zv_OK V) {w : zw_W} (HX : zl_X w) {D : Nat → Nat → Nat} {H : za_H} {b : Bool} {L S : za_T} {C : za_C} (hX : zr_X (zw_i w) D H b L S C)  : zg_C V zm_X3_mountedTotal yX3_mountedTotal 3 100 [.ref 1, .int (nI 3)] w (zq_p (.inl (some (.int (L.2.2)))) (· = w)) := by
  refine zg_of (by decide +kernel) rfl (Nat.le_of_ble_eq_true rfl) ?_
  show zg_G V zm_X3_mountedTotal 3 100 w.1 w.2.1 0 [] [(0, .ref 1), (1, .int (nI 3))] w _
  refine zg_iload_n dX3_mountedTotal_0 rfl ?_
  refine zg_tabIn (off := 65) (tgt := 66) dX3_mountedTotal_1 (by decide) (by decide) (by decide) (by decide) ?_
  refine zg_aload_n dX3_mountedTotal_66 rfl ?_
  refine zg_getR E (ci := 3) (j := 2) (r := 131) dX3_mountedTotal_67 rfl (congrArg Prod.fst (zl_at HX (k := 1) (t := (3, 7)) rfl (by decide) (by decide))) (by decide) (zl_lt HX (by decide)) (by decide) fl_X3_24 rfl (zl_rf HX rfl (by decide) (by decide)) ?_
  refine zg_getI E (ci := 2) (j := 2) dX3_mountedTotal_70 rfl (congrArg Prod.fst (zl_at HX (k := 131) (t := (2, 3)) rfl (by decide) (by decide))) (by decide) (zl_lt HX (by decide)) (by decide) fl_X3_118 rfl ?_
  refine zg_v (x' := L.2.2) hX.2.2.2.1.2.2 ?_
  exact zg_iret rfl dX3_mountedTotal_73 ⟨rfl, rfl⟩
set_option maxHeartbeats 4000000 in
set_option maxRecDepth 100000 in
theorem kt_mt4 {V : zv_V} (E : zv_OK V) {w : zw_W} (HX : zl_X w) {D : Nat → Nat → Nat} {H : za_H} {b : Bool} {L S : za_T} {C : za_C} (hX : zr_X (zw_i w) D H b L S C)  : zg_C V zm_X3_mountedTotal yX3_mountedTotal 3 100 [.ref 1, .int (nI 4)] w (zq_p (.inl (some (.int (nI L.2.1)))) (· = w)) := by
  refine zg_of (by decide +kernel) rfl (Nat.le_of_ble_eq_true rfl) ?_
  show zg_G V zm_X3_mountedTotal 3 100 w.1 w.2.1 0 [] [(0, .ref 1), (1, .int (nI 4))] w _
  refine zg_iload_n dX3_mountedTotal_0 rfl ?_
  refine zg_tabIn (off := 73) (tgt := 74) dX3_mountedTotal_1 (by decide) (by decide) (by decide) (by decide) ?_
  refine zg_aload_n dX3_mountedTotal_74 rfl ?_
  refine zg_getR E (ci := 3) (j := 2) (r := 131) dX3_mountedTotal_75 rfl (congrArg Prod.fst (zl_at HX (k := 1) (t := (3, 7)) rfl (by decide) (by decide))) (by decide) (zl_lt HX (by decide)) (by decide) fl_X3_24 rfl (zl_rf HX rfl (by decide) (by decide)) ?_
  refine zg_getI E (ci := 2) (j := 1) dX3_mountedTotal_78 rfl (congrArg Prod.fst (zl_at HX (k := 131) (t := (2, 3)) rfl (by decide) (by decide))) (by decide) (zl_lt HX (by decide)) (by decide) fl_X3_173 rfl ?_
  refine zg_v (x' := nI L.2.1) hX.2.2.2.1.2.1 ?_
  exact zg_iret rfl dX3_mountedTotal_81 ⟨rfl, rfl⟩
set_option maxHeartbeats 4000000 in
set_option maxRecDepth 100000 in
theorem kt_mt5 {V : zv_V} (E : zv_OK V) {w : zw_W} (HX : zl_X w) {D : Nat → Nat → Nat} {H : za_H} {b : Bool} {L S : za_T} {C : za_C} (hX : zr_X (zw_i w) D H b L S C)  : zg_C V zm_X3_mountedTotal yX3_mountedTotal 3 100 [.ref 1, .int (nI 5)] w (zq_p (.inl (some (.int (S.2.2)))) (· = w)) := by
  refine zg_of (by decide +kernel) rfl (Nat.le_of_ble_eq_true rfl) ?_
  show zg_G V zm_X3_mountedTotal 3 100 w.1 w.2.1 0 [] [(0, .ref 1), (1, .int (nI 5))] w _
  refine zg_iload_n dX3_mountedTotal_0 rfl ?_
  refine zg_tabIn (off := 81) (tgt := 82) dX3_mountedTotal_1 (by decide) (by decide) (by decide) (by decide) ?_
  refine zg_aload_n dX3_mountedTotal_82 rfl ?_
  refine zg_getR E (ci := 3) (j := 3) (r := 133) dX3_mountedTotal_83 rfl (congrArg Prod.fst (zl_at HX (k := 1) (t := (3, 7)) rfl (by decide) (by decide))) (by decide) (zl_lt HX (by decide)) (by decide) fl_X3_28 rfl (zl_rf HX rfl (by decide) (by decide)) ?_
  refine zg_getI E (ci := 2) (j := 2) dX3_mountedTotal_86 rfl (congrArg Prod.fst (zl_at HX (k := 133) (t := (2, 3)) rfl (by decide) (by decide))) (by decide) (zl_lt HX (by decide)) (by decide) fl_X3_118 rfl ?_
  refine zg_v (x' := S.2.2) hX.2.2.2.2.1.2.2 ?_
  exact zg_iret rfl dX3_mountedTotal_89 ⟨rfl, rfl⟩
set_option maxHeartbeats 4000000 in
set_option maxRecDepth 100000 in
theorem kt_mt6 {V : zv_V} (E : zv_OK V) {w : zw_W} (HX : zl_X w) {D : Nat → Nat → Nat} {H : za_H} {b : Bool} {L S : za_T} {C : za_C} (hX : zr_X (zw_i w) D H b L S C)  : zg_C V zm_X3_mountedTotal yX3_mountedTotal 3 100 [.ref 1, .int (nI 6)] w (zq_p (.inl (some (.int (nI S.2.1)))) (· = w)) := by
  refine zg_of (by decide +kernel) rfl (Nat.le_of_ble_eq_true rfl) ?_
  show zg_G V zm_X3_mountedTotal 3 100 w.1 w.2.1 0 [] [(0, .ref 1), (1, .int (nI 6))] w _
  refine zg_iload_n dX3_mountedTotal_0 rfl ?_
  refine zg_tabOut (tgt := 90) dX3_mountedTotal_1 (by decide) (by decide) ?_
  refine zg_aload_n dX3_mountedTotal_90 rfl ?_
  refine zg_getR E (ci := 3) (j := 3) (r := 133) dX3_mountedTotal_91 rfl (congrArg Prod.fst (zl_at HX (k := 1) (t := (3, 7)) rfl (by decide) (by decide))) (by decide) (zl_lt HX (by decide)) (by decide) fl_X3_28 rfl (zl_rf HX rfl (by decide) (by decide)) ?_
  refine zg_getI E (ci := 2) (j := 1) dX3_mountedTotal_94 rfl (congrArg Prod.fst (zl_at HX (k := 133) (t := (2, 3)) rfl (by decide) (by decide))) (by decide) (zl_lt HX (by decide)) (by decide) fl_X3_173 rfl ?_
  refine zg_v (x' := nI S.2.1) hX.2.2.2.2.1.2.1 ?_
  exact zg_iret rfl dX3_mountedTotal_97 ⟨rfl, rfl⟩
set_option maxHeartbeats 4000000 in
set_option maxRecDepth 100000 in
theorem pt_1 {V : zv_V} (E : zv_OK V) {w : zw_W} (HX : zl_X w) {D : Nat → Nat → Nat} {H : za_H} {b : Bool} {L S : za_T} {C : za_C} (hX : zr_X (zw_i w) D H b L S C) (hH : za_WH H) {x : Int32} (hx : ∀ n, n < 8 → x ≠ nI n) : zg_C V zm_X3_total yX3_total 8 190 [.ref 1, .int x] w (zq_p (.inr 20) (zr_pub w D H b L S C)) := by
  refine zg_of (by decide +kernel) rfl (Nat.le_of_ble_eq_true rfl) ?_
  show zg_G V zm_X3_total 8 190 w.1 w.2.1 0 [] [(0, .ref 1), (1, .int x)] w _
  refine zg_iload_n dX3_total_0 rfl ?_
  refine zg_if_lt (tgt := 10) dX3_total_1 (by decide) (fun h1 => ?_) (fun h1 => ?_)
  · exact zg_throw (M := zm_X3_total) E 20 (text := "no such total") (by decide) rfl rfl dX3_total_10 dX3_total_13 dX3_total_14 dX3_total_16 dX3_total_19 (by decide +kernel) (by decide +kernel) (by decide +kernel) tw_20_83 (zt_cap HX).1 (zt_cap HX).2.1 (zt_cap HX).2.2 (Nat.le_of_ble_eq_true rfl) (Nat.le_of_ble_eq_true rfl) ⟨rfl, zp_nw HX hX hH⟩
  · refine zg_iload_n dX3_total_4 rfl ?_
    refine zg_bipush (v := nI 7) dX3_total_5 (by decide) ?_
    refine zg_icmp_le (tgt := 20) dX3_total_7 (by decide) (fun h7 => ?_) (fun h7 => ?_)
    · exact absurd (zn_no (n := 8) hx h1 (Int32.lt_of_le_of_lt h7 (by decide))) not_false
    · exact zg_throw (M := zm_X3_total) E 20 (text := "no such total") (by decide) rfl rfl dX3_total_10 dX3_total_13 dX3_total_14 dX3_total_16 dX3_total_19 (by decide +kernel) (by decide +kernel) (by decide +kernel) tw_20_83 (zt_cap HX).1 (zt_cap HX).2.1 (zt_cap HX).2.2 (Nat.le_of_ble_eq_true rfl) (Nat.le_of_ble_eq_true rfl) ⟨rfl, zp_nw HX hX hH⟩
set_option maxHeartbeats 4000000 in
set_option maxRecDepth 100000 in
theorem pt_2 {V : zv_V} (E : zv_OK V) {w : zw_W} (HX : zl_X w) {D : Nat → Nat → Nat} {H : za_H} {b : Bool} {L S : za_T} {C : za_C} (hX : zr_X (zw_i w) D H b L S C) (hH : za_WH H)  : zg_C V zm_X3_total yX3_total 8 190 [.ref 1, .int (nI 0)] w (zq_p (.inl (some (.int (nI H.1)))) (zr_pub w D H b L S C)) := by
  refine zg_of (by decide +kernel) rfl (Nat.le_of_ble_eq_true rfl) ?_
  show zg_G V zm_X3_total 8 190 w.1 w.2.1 0 [] [(0, .ref 1), (1, .int (nI 0))] w _
  refine zg_iload_n dX3_total_0 rfl ?_
  refine zg_if_lt (tgt := 10) dX3_total_1 (by decide) (fun h1 => ?_) (fun h1 => ?_)
  · exact absurd h1 (by decide)
  · refine zg_iload_n dX3_total_4 rfl ?_
    refine zg_bipush (v := nI 7) dX3_total_5 (by decide) ?_
    refine zg_icmp_le (tgt := 20) dX3_total_7 (by decide) (fun h7 => ?_) (fun h7 => ?_)
    · refine zg_iload_n dX3_total_20 rfl ?_
      refine zg_if_ne (tgt := 32) dX3_total_21 (by decide) (fun h21 => ?_) (fun h21 => ?_)
      · exact absurd rfl h21
      · refine zg_aload_n dX3_total_24 rfl ?_
        refine zg_getR E (ci := 3) (j := 1) (r := 51) dX3_total_25 rfl (congrArg Prod.fst (zl_at HX (k := 1) (t := (3, 7)) rfl (by decide) (by decide))) (by decide) (zl_lt HX (by decide)) (by decide) fl_X3_17 rfl (zl_rf HX rfl (by decide) (by decide)) ?_
        refine zg_getI E (ci := 1) (j := 2) dX3_total_28 rfl (congrArg Prod.fst (zl_at HX (k := 51) (t := (1, 3)) rfl (by decide) (by decide))) (by decide) (zl_lt HX (by decide)) (by decide) fl_X3_86 rfl ?_
        refine zg_v (x' := nI H.1) hX.2.1.1 ?_
        exact zg_iret rfl dX3_total_31 ⟨rfl, zp_same hX⟩
    · exact absurd (by decide) h7
set_option maxHeartbeats 4000000 in
set_option maxRecDepth 100000 in
theorem pt_3 {V : zv_V} (E : zv_OK V) {w : zw_W} (HX : zl_X w) {D : Nat → Nat → Nat} {H : za_H} {b : Bool} {L S : za_T} {C : za_C} (hX : zr_X (zw_i w) D H b L S C) (hH : za_WH H)  : zg_C V zm_X3_total yX3_total 8 190 [.ref 1, .int (nI 7)] w (zq_p (.inl (some (.int (za_bit b)))) (zr_pub w D H b L S C)) := by
  refine zg_of (by decide +kernel) rfl (Nat.le_of_ble_eq_true rfl) ?_
  show zg_G V zm_X3_total 8 190 w.1 w.2.1 0 [] [(0, .ref 1), (1, .int (nI 7))] w _
  refine zg_iload_n dX3_total_0 rfl ?_
  refine zg_if_lt (tgt := 10) dX3_total_1 (by decide) (fun h1 => ?_) (fun h1 => ?_)
  · exact absurd h1 (by decide)
  · refine zg_iload_n dX3_total_4 rfl ?_
    refine zg_bipush (v := nI 7) dX3_total_5 (by decide) ?_
    refine zg_icmp_le (tgt := 20) dX3_total_7 (by decide) (fun h7 => ?_) (fun h7 => ?_)
    · refine zg_iload_n dX3_total_20 rfl ?_
      refine zg_if_ne (tgt := 32) dX3_total_21 (by decide) (fun h21 => ?_) (fun h21 => ?_)
      · refine zg_iload_n dX3_total_32 rfl ?_
        refine zg_bipush (v := nI 7) dX3_total_33 (by decide) ?_
        refine zg_icmp_ne (tgt := 51) dX3_total_35 (by decide) (fun h35 => ?_) (fun h35 => ?_)
        · exact absurd rfl h35
        · refine zg_aload_n dX3_total_38 rfl ?_
          refine zg_getI E (ci := 3) (j := 6) dX3_total_39 rfl (congrArg Prod.fst (zl_at HX (k := 1) (t := (3, 7)) rfl (by decide) (by decide))) (by decide) (zl_lt HX (by decide)) (by decide) fl_X3_131 rfl ?_
          refine zg_v (x' := za_bit b) hX.2.2.1 ?_
          refine zg_if_eq (tgt := 49) dX3_total_42 (by decide) (fun h42 => ?_) (fun h42 => ?_)
          · have e := za_bit0 h42
            refine zg_iconst (v := nI 0) dX3_total_49 (by decide) ?_
            exact zg_iret rfl dX3_total_50 ⟨by rw [e]; rfl, zp_same hX⟩
          · have e := za_bit1 h42
            refine zg_iconst (v := nI 1) dX3_total_45 (by decide) ?_
            refine zg_goto (tgt := 50) dX3_total_46 (by decide) ?_
            exact zg_iret rfl dX3_total_50 ⟨by rw [e]; rfl, zp_same hX⟩
      · exact absurd h21 (by decide)
    · exact absurd (by decide) h7
set_option maxHeartbeats 4000000 in
set_option maxRecDepth 100000 in
theorem pt_4 {V : zv_V} (E : zv_OK V) {w : zw_W} (HX : zl_X w) {D : Nat → Nat → Nat} {H : za_H} {b : Bool} {L S : za_T} {C : za_C} (hX : zr_X (zw_i w) D H b L S C) (hH : za_WH H) {k : Nat} (h1 : 1 ≤ k) (h6 : k ≤ 6) (hb : b = true)  : zg_C V zm_X3_total yX3_total 8 190 [.ref 1, .int (nI k)] w (zq_p (.inl (some (.int (-1)))) (zr_pub w D H b L S C)) := by
  refine zg_of (by decide +kernel) rfl (Nat.le_of_ble_eq_true rfl) ?_
  show zg_G V zm_X3_total 8 190 w.1 w.2.1 0 [] [(0, .ref 1), (1, .int (nI k))] w _
  refine zg_iload_n dX3_total_0 rfl ?_
  refine zg_if_lt (tgt := 10) dX3_total_1 (by decide) (fun h1x => ?_) (fun h1x => ?_)
  · exact absurd h1x (nI_pos (by omega))
  · refine zg_iload_n dX3_total_4 rfl ?_
    refine zg_bipush (v := nI 7) dX3_total_5 (by decide) ?_
    refine zg_icmp_le (tgt := 20) dX3_total_7 (by decide) (fun h7 => ?_) (fun h7 => ?_)
    · refine zg_iload_n dX3_total_20 rfl ?_
      refine zg_if_ne (tgt := 32) dX3_total_21 (by decide) (fun h21 => ?_) (fun h21 => ?_)
      · refine zg_iload_n dX3_total_32 rfl ?_
        refine zg_bipush (v := nI 7) dX3_total_33 (by decide) ?_
        refine zg_icmp_ne (tgt := 51) dX3_total_35 (by decide) (fun h35 => ?_) (fun h35 => ?_)
        · refine zg_aload_n dX3_total_51 rfl ?_
          refine zg_getI E (ci := 3) (j := 6) dX3_total_52 rfl (congrArg Prod.fst (zl_at HX (k := 1) (t := (3, 7)) rfl (by decide) (by decide))) (by decide) (zl_lt HX (by decide)) (by decide) fl_X3_131 rfl ?_
          refine zg_v (x' := za_bit b) hX.2.2.1 ?_
          refine zg_if_eq (tgt := 62) dX3_total_55 (by decide) (fun h55 => ?_) (fun h55 => ?_)
          · exact absurd h55 (by rw [hb]; decide)
          · refine zg_iconst (v := (-1)) dX3_total_58 (by decide) ?_
            refine zg_goto (tgt := 67) dX3_total_59 (by decide) ?_
            exact zg_iret rfl dX3_total_67 ⟨rfl, zp_same hX⟩
        · exact absurd h35 (fun z => absurd ((nI_eq (by omega) (by decide)).mp z) (by omega))
      · exact absurd h21 (nI_ne0 (by omega) (by omega))
    · exact absurd (nI_le (by omega) (by decide) : nI k ≤ nI 7) h7
set_option maxHeartbeats 4000000 in
set_option maxRecDepth 100000 in
theorem pt_5 {V : zv_V} (E : zv_OK V) {w : zw_W} (HX : zl_X w) {D : Nat → Nat → Nat} {H : za_H} {b : Bool} {L S : za_T} {C : za_C} (hX : zr_X (zw_i w) D H b L S C) (hH : za_WH H) {k : Nat} (h1 : 1 ≤ k) (h6 : k ≤ 6) (hb : b = false) {v : Int32} (hc : zg_C V zm_X3_mountedTotal yX3_mountedTotal 3 100 [.ref 1, .int (nI k)] w (zq_p (.inl (some (.int v))) (· = w))) : zg_C V zm_X3_total yX3_total 8 190 [.ref 1, .int (nI k)] w (zq_p (.inl (some (.int v))) (zr_pub w D H b L S C)) := by
  refine zg_of (by decide +kernel) rfl (Nat.le_of_ble_eq_true rfl) ?_
  show zg_G V zm_X3_total 8 190 w.1 w.2.1 0 [] [(0, .ref 1), (1, .int (nI k))] w _
  refine zg_iload_n dX3_total_0 rfl ?_
  refine zg_if_lt (tgt := 10) dX3_total_1 (by decide) (fun h1x => ?_) (fun h1x => ?_)
  · exact absurd h1x (nI_pos (by omega))
  · refine zg_iload_n dX3_total_4 rfl ?_
    refine zg_bipush (v := nI 7) dX3_total_5 (by decide) ?_
    refine zg_icmp_le (tgt := 20) dX3_total_7 (by decide) (fun h7 => ?_) (fun h7 => ?_)
    · refine zg_iload_n dX3_total_20 rfl ?_
      refine zg_if_ne (tgt := 32) dX3_total_21 (by decide) (fun h21 => ?_) (fun h21 => ?_)
      · refine zg_iload_n dX3_total_32 rfl ?_
        refine zg_bipush (v := nI 7) dX3_total_33 (by decide) ?_
        refine zg_icmp_ne (tgt := 51) dX3_total_35 (by decide) (fun h35 => ?_) (fun h35 => ?_)
        · refine zg_aload_n dX3_total_51 rfl ?_
          refine zg_getI E (ci := 3) (j := 6) dX3_total_52 rfl (congrArg Prod.fst (zl_at HX (k := 1) (t := (3, 7)) rfl (by decide) (by decide))) (by decide) (zl_lt HX (by decide)) (by decide) fl_X3_131 rfl ?_
          refine zg_v (x' := za_bit b) hX.2.2.1 ?_
          refine zg_if_eq (tgt := 62) dX3_total_55 (by decide) (fun h55 => ?_) (fun h55 => ?_)
          · refine zg_aload_n dX3_total_62 rfl ?_
            refine zg_iload_n dX3_total_63 rfl ?_
            refine zg_vrt (M := zm_X3_total) E (ci := 3) dX3_total_64 hc wd_X3_160 rfl (congrArg Prod.fst (zl_at HX (k := 1) (t := (3, 7)) rfl (by decide) (by decide))) (by decide) (zl_lt HX (by decide)) rfl dh_X3_mountedTotal dn_X3_mountedTotal (Nat.le_of_ble_eq_true rfl) (Nat.le_of_ble_eq_true rfl) (Nat.le_of_ble_eq_true rfl) (zl_cap HX) rfl (fun w64 g64 => ?_)
            subst w64
            exact zg_iret rfl dX3_total_67 ⟨rfl, zp_same hX⟩
          · exact absurd (by rw [hb]; rfl) h55
        · exact absurd h35 (fun z => absurd ((nI_eq (by omega) (by decide)).mp z) (by omega))
      · exact absurd h21 (nI_ne0 (by omega) (by omega))
    · exact absurd (nI_le (by omega) (by decide) : nI k ≤ nI 7) h7

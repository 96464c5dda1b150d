/-! The reference's commit and total. -/
set_option maxHeartbeats 4000000 in
set_option maxRecDepth 100000 in
theorem qc_3 {V : zv_V} (E : zv_OK V) {w : zw_W} (HM : zl_M w) {D : Nat → Nat → Nat} {H : za_H} {b : Bool} {L S : za_T} {C : za_C} {t : Bool} (hM : zu_X (zw_i w) D H b L S C t) (hb : b = false) (h0 : 0 < za_n C.1 16) {u : Int32} (wL : za_WT L) (wS : za_WT S) (wC : za_WC C) (hr : za_ff L S C.1 (-1)) : zg_C V zm_X4_commit yX4_commit 8 190 [.ref 156, .int u] w (zq_p (.inl (some (.int (nI 0)))) (zu_pub w D H b L S C t 1)) := by
  refine zg_of (by decide +kernel) rfl (Nat.le_of_ble_eq_true rfl) ?_
  show zg_G V zm_X4_commit 8 190 w.1 w.2.1 0 [] [(0, .ref 156), (1, .int u)] w _
  refine zg_aload_n dX4_commit_0 rfl ?_
  refine zg_aload_n dX4_commit_1 rfl ?_
  refine zg_getI E (ci := 4) (j := 7) dX4_commit_2 rfl (congrArg Prod.fst (zl_Mat HM (k := 156) (t := (4, 17)) rfl (by decide) (by decide))) (by decide) (zl_Mlt HM (by decide)) (by decide) fl_X4_64 rfl ?_
  refine zg_v (x' := za_bit b) hM.2.2.1 ?_
  refine zg_if_ne (tgt := 15) dX4_commit_5 (by decide) (fun h5 => ?_) (fun h5 => ?_)
  · exact absurd (by rw [hb]; rfl) h5
  · refine zg_aload_n dX4_commit_8 rfl ?_
    refine zg_getI E (ci := 4) (j := 8) dX4_commit_9 rfl (congrArg Prod.fst (zl_Mat HM (k := 156) (t := (4, 17)) rfl (by decide) (by decide))) (by decide) (zl_Mlt HM (by decide)) (by decide) fl_X4_61 rfl ?_
    refine zg_v (x' := za_bit (decide (0 < za_n C.1 16))) hM.2.2.2.2.2.1.1 ?_
    refine zg_if_ne (tgt := 19) dX4_commit_12 (by decide) (fun h12 => ?_) (fun h12 => ?_)
    · refine zg_iconst (v := nI 0) dX4_commit_19 (by decide) ?_
      refine zg_iconst (v := nI 1) dX4_commit_20 (by decide) ?_
      refine zg_vrt (M := zm_X4_commit) E (ci := 4) dX4_commit_21 (mt_fails (w := w) (z := false) (k := nI 1) E HM) wd_X4_102 rfl (congrArg Prod.fst (zl_Mat HM (k := 156) (t := (4, 17)) rfl (by decide) (by decide))) (by decide) (zl_Mlt HM (by decide)) rfl dh_X4_fails dn_X4_fails (Nat.le_of_ble_eq_true rfl) (Nat.le_of_ble_eq_true rfl) (Nat.le_of_ble_eq_true rfl) (zl_capM HM) rfl (fun w21 g21 => ?_)
      subst w21
      obtain ⟨J1, e1, r1, t1, f1⟩ := zu_th (w := w) hM (nI 0)
      refine zg_w e1.symm ?_
      refine zg_if_eq (tgt := 29) dX4_commit_24 (by decide) (fun h24 => ?_) (fun h24 => ?_)
      · refine zg_aload_n dX4_commit_29 rfl ?_
        refine zg_vrt (M := zm_X4_commit) E (ci := 4) dX4_commit_30 (mt_firstFree (w := zw_I w J1) E HM r1 wL wS wC hr) wd_X4_94 rfl (congrArg Prod.fst (zl_Mat HM (k := 156) (t := (4, 17)) rfl (by decide) (by decide))) (by decide) (zl_Mlt HM (by decide)) rfl dh_X4_firstFree dn_X4_firstFree (Nat.le_of_ble_eq_true rfl) (Nat.le_of_ble_eq_true rfl) (Nat.le_of_ble_eq_true rfl) (zl_capM HM) rfl (fun w30 g30 => ?_)
        subst w30
        refine zg_istore_n (lv' := [(2, .int ((-1))), (0, .ref 156), (1, .int u)]) dX4_commit_33 (by decide) rfl ?_
        refine zg_aload_n dX4_commit_34 rfl ?_
        refine zg_iload_n dX4_commit_35 rfl ?_
        refine zg_iconst (v := (-1)) dX4_commit_36 (by decide) ?_
        refine zg_icmp_ne (tgt := 44) dX4_commit_37 (by decide) (fun h37 => ?_) (fun h37 => ?_)
        · exact absurd rfl h37
        · refine zg_iconst (v := nI 1) dX4_commit_40 (by decide) ?_
          refine zg_goto (tgt := 45) dX4_commit_41 (by decide) ?_
          refine zg_iconst (v := nI 1) dX4_commit_45 (by decide) ?_
          refine zg_vrt (M := zm_X4_commit) E (ci := 4) dX4_commit_46 (mt_fails (w := zw_I w J1) (z := true) (k := nI 1) E HM) wd_X4_102 rfl (congrArg Prod.fst (zl_Mat HM (k := 156) (t := (4, 17)) rfl (by decide) (by decide))) (by decide) (zl_Mlt HM (by decide)) rfl dh_X4_fails dn_X4_fails (Nat.le_of_ble_eq_true rfl) (Nat.le_of_ble_eq_true rfl) (Nat.le_of_ble_eq_true rfl) (zl_capM HM) rfl (fun w46 g46 => ?_)
          subst w46
          obtain ⟨J2, e2, r2, t2, f2⟩ := zu_th (w := w) r1 (nI 1)
          refine zg_w e2.symm ?_
          refine zg_if_eq (tgt := 54) dX4_commit_49 (by decide) (fun h49 => ?_) (fun h49 => ?_)
          · exact absurd h49 (by decide)
          · refine zg_iconst (v := nI 0) dX4_commit_52 (by decide) ?_
            exact zg_iret rfl dX4_commit_53 ⟨rfl, J2, rfl, r2, t2, zu_frW (zu_frT f1 f2)⟩
      · exact absurd rfl h24
    · exact absurd h12 (by rw [decide_eq_true h0]; decide)
theorem zu_hi {I : Nat → Nat → Int32} {D : Nat → Nat → Nat} {H : za_H} {b : Bool} {L S : za_T} {C : za_C} {t : Bool} (h : zu_X I D H b L S C t) (w : H.1 ≤ 77) {J : Nat → Nat → Int32} (f : zu_fr [164] [] I J) (g : ∀ j, j < 1584 → J 164 j = I 164 j) : zu_X J D H b L S C t :=
  ⟨zu_fD h.1 f, ⟨zu_fs h.2.1.1 f, fun k hk => (f _ _ (by decide) (Or.inl (by decide))).trans (h.2.1.2.1 k hk), fun k hk i hi => (g _ (by omega)).trans (h.2.1.2.2 k hk i hi)⟩, zu_fs h.2.2.1 f, zu_fL h.2.2.2.1 f, zu_fS h.2.2.2.2.1 f, zu_fC h.2.2.2.2.2.1 f, zu_fs h.2.2.2.2.2.2 f⟩
theorem zu_cl {J K : Nat → Nat → Int32} {D : Nat → Nat → Nat} {H : za_H} {b : Bool} {L S : za_T} {C : za_C} {t : Bool} {a : Nat} {I : Nat → Nat → Int32} (h : zu_X I D H b L S C t) (f : zu_fr [158] [] I J) (g : ∀ p, p < 16 → J 158 p = nI (za_op L C p)) (e : K = zw_up (zw_up (zw_up J 156 3 (nI a)) 156 5 (zw_up J 156 3 (nI a) 156 5 + nI 1)) 156 8 (nI 0)) : zu_X K D H b (za_cL L C a) S za_C0 t ∧ zu_fr [158] [3, 5, 8] I K := by
  subst e
  have F := zu_frT (zu_frT (zu_frT f (zu_frS J 3 (nI a))) (zu_frS (zw_up J 156 3 (nI a)) 5 (zw_up J 156 3 (nI a) 156 5 + nI 1))) (zu_frS (zw_up (zw_up J 156 3 (nI a)) 156 5 (zw_up J 156 3 (nI a) 156 5 + nI 1)) 8 (nI 0))
  refine ⟨⟨zu_fD h.1 F, zu_fH h.2.1 F, zu_fs h.2.2.1 F, ⟨fun p hp => ?_, ?_, ?_⟩, zu_fS h.2.2.2.2.1 F, zu_c0 (zw_up_s _ _ _ _), zu_fs h.2.2.2.2.2.2 F⟩, zu_frW F⟩
  · rw [zw_up_n _ _ (Or.inl (by decide)), zw_up_n _ _ (Or.inl (by decide)), zw_up_n _ _ (Or.inl (by decide))]
    exact g p hp
  · rw [zw_up_n _ _ (by decide), zw_up_n _ _ (by decide), zw_up_s]
    rfl
  · rw [zw_up_n _ _ (by decide), zw_up_s, zw_up_n _ _ (by decide)]
    exact congrArg (· + nI 1) (zu_fs h.2.2.2.1.2.2 f)
theorem zu_tu {I : Nat → Nat → Int32} {D : Nat → Nat → Nat} {H : za_H} {b : Bool} {L S : za_T} {C : za_C} {t t' : Bool} (h : zu_X I D H b L S C t) : zu_X (zw_up I 156 15 (za_bit t')) D H b L S C t' := ⟨zu_fD h.1 (zu_frS I 15 _), zu_fH h.2.1 (zu_frS I 15 _), zu_fs h.2.2.1 (zu_frS I 15 _), zu_fL h.2.2.2.1 (zu_frS I 15 _), zu_fS h.2.2.2.2.1 (zu_frS I 15 _), zu_fC h.2.2.2.2.2.1 (zu_frS I 15 _), zw_up_s _ _ _ _⟩
set_option maxHeartbeats 4000000 in
set_option maxRecDepth 100000 in
theorem lm_c3 {V : zv_V} (E : zv_OK V) {w : zw_W} {n0 u0 : Nat} {Q : zg_O → zw_W → Prop} (HM : zl_M w) {D : Nat → Nat → Nat} {H : za_H} {b : Bool} {L S : za_T} {C : za_C} {t : Bool} {z : Bool} {a : Nat} (ha : a < 48) (wC : za_WC C) (h0 : 0 < za_n C.1 16) {I : Nat → Nat → Int32} (r0 : zu_X I (za_cD D L C H a) (0, (za_cH L C H a).2) b L (if t then L else S) C false) (hq : ∀ J, zu_X J (if z then za_car (za_cD D L C H a) (za_cM L C H a) za_all (za_cM L C H a).1 else za_cD D L C H a) (if z then (0, (za_cM L C H a).2) else za_cM L C H a) b (za_cL L C a) (if z then za_cL L C a else if t then L else S) za_C0 (!z) → zu_fr [157, 158, 159, 163, 164] [3, 4, 5, 6, 8, 14, 15] I J → Q (.inl (some (.int (L.2.2 + nI 1)))) (zw_I w J))  : ∀ (n i : Nat) (J : Nat → Nat → Int32), i ≤ 16 → 16 + 1 ≤ i + n → (∀ j, j < i → J 158 j = nI (za_op L C j)) → (∀ j, i ≤ j → J 158 j = I 158 j) → zu_fr [158] [] I J → zg_G V zm_X4_commit 8 190 n0 u0 171 [] [(3, .int (nI i)), (0, .ref 156), (1, .int (za_bit z)), (2, .int (nI a))] (zw_I w J) Q := by
  intro nn
  induction nn with
  | zero =>
    intro i J hii hnn
    exact absurd hnn (by omega)
  | succ nn ih =>
    intro i J hii hnn k0 k1 k2
    have hown : ∀ q, q < 16 → J 160 q = nI (C.1 q) := fun q hq => (k2 _ _ (by decide) (Or.inl (by decide))).trans (r0.2.2.2.2.2.1.2.1 h0 q hq)
    have hWM : za_WH (za_cM L C H a) := za_hold_W ⟨Nat.zero_le _, fun k hk => absurd hk (Nat.not_lt_zero k), fun k hk => absurd hk (Nat.not_lt_zero k)⟩ (by decide : (0 : Nat) < 77) (by decide) (fun i _ => za_ms_lt _ ha i)
    refine zg_iload_n dX4_commit_171 rfl ?_
    refine zg_bipush (v := nI 16) dX4_commit_172 (by decide) ?_
    refine zg_icmp_ge (tgt := 213) dX4_commit_174 (by decide) (fun h174 => ?_) (fun h174 => ?_)
    · obtain rfl : i = 16 := by have := zn_ge h174 (by omega) (by omega); omega
      refine zg_aload_n dX4_commit_213 rfl ?_
      refine zg_iload_n dX4_commit_214 rfl ?_
      refine zg_putI E (ci := 4) (j := 3) dX4_commit_215 rfl (congrArg Prod.fst (zl_Mat HM (k := 156) (t := (4, 17)) rfl (by decide) (by decide))) (by decide) (zl_Mlt HM (by decide)) (by decide) fl_X4_71 rfl rfl rfl rfl ?_
      refine zg_aload_n dX4_commit_218 rfl ?_
      refine zg_dup dX4_commit_219 rfl ?_
      refine zg_getI E (ci := 4) (j := 5) dX4_commit_220 rfl (congrArg Prod.fst (zl_Mat HM (k := 156) (t := (4, 17)) rfl (by decide) (by decide))) (by decide) (zl_Mlt HM (by decide)) (by decide) fl_X4_74 rfl ?_
      refine zg_iconst (v := nI 1) dX4_commit_223 (by decide) ?_
      refine zg_iadd dX4_commit_224 ?_
      refine zg_putI E (ci := 4) (j := 5) dX4_commit_225 rfl (congrArg Prod.fst (zl_Mat HM (k := 156) (t := (4, 17)) rfl (by decide) (by decide))) (by decide) (zl_Mlt HM (by decide)) (by decide) fl_X4_74 rfl rfl rfl rfl ?_
      refine zg_aload_n dX4_commit_228 rfl ?_
      refine zg_iconst (v := nI 0) dX4_commit_229 (by decide) ?_
      refine zg_putI E (ci := 4) (j := 8) dX4_commit_230 rfl (congrArg Prod.fst (zl_Mat HM (k := 156) (t := (4, 17)) rfl (by decide) (by decide))) (by decide) (zl_Mlt HM (by decide)) (by decide) fl_X4_61 rfl rfl rfl rfl ?_
      obtain ⟨J2, e2, x2, f2⟩ : ∃ K, zw_si (zw_si (zw_si (zw_I w J) 156 3 (nI a)) 156 5 ((zw_i (zw_si (zw_I w J) 156 3 (nI a)) 156 5) + (nI 1))) 156 8 (nI 0) = zw_I w K ∧ zu_X K (za_cD D L C H a) (0, (za_cH L C H a).2) b (za_cL L C a) (if t then L else S) za_C0 false ∧ zu_fr [158] [3, 5, 8] I K := ⟨_, rfl, (zu_cl r0 k2 k0 rfl).1, (zu_cl r0 k2 k0 rfl).2⟩
      refine zg_w e2.symm ?_
      refine zg_aload_n dX4_commit_233 rfl ?_
      refine zg_aload_n dX4_commit_234 rfl ?_
      refine zg_getR E (ci := 4) (j := 13) (r := 164) dX4_commit_235 rfl (congrArg Prod.fst (zl_Mat HM (k := 156) (t := (4, 17)) rfl (by decide) (by decide))) (by decide) (zl_Mlt HM (by decide)) (by decide) fl_X4_32 rfl (zl_Mrf HM rfl (by decide) (by decide)) ?_
      refine zg_sipush (v := nI 1584) dX4_commit_238 (by decide) ?_
      refine zg_aload_n dX4_commit_241 rfl ?_
      refine zg_getI E (ci := 4) (j := 5) dX4_commit_242 rfl (congrArg Prod.fst (zl_Mat HM (k := 156) (t := (4, 17)) rfl (by decide) (by decide))) (by decide) (zl_Mlt HM (by decide)) (by decide) fl_X4_74 rfl ?_
      refine zg_v (x' := L.2.2 + nI 1) x2.2.2.2.1.2.2 ?_
      refine zg_iload_n dX4_commit_245 rfl ?_
      refine zg_vrt (M := zm_X4_commit) E (ci := 4) dX4_commit_246 (mt_master (w := zw_I w J2) (k := 164) (n := 1600) (q := 1584) (a := a) (g := L.2.2 + nI 1) E HM (zl_Mat HM (k := 164) (t := (10, 1600)) rfl (by decide) (by decide)) (by decide) (zl_Mlt HM (by decide)) (by decide) (by decide) ha) wd_X4_47 rfl (congrArg Prod.fst (zl_Mat HM (k := 156) (t := (4, 17)) rfl (by decide) (by decide))) (by decide) (zl_Mlt HM (by decide)) rfl dh_X4_master dn_X4_master (Nat.le_of_ble_eq_true rfl) (Nat.le_of_ble_eq_true rfl) (Nat.le_of_ble_eq_true rfl) (zl_capM HM) rfl (fun w246 g246 => ?_)
      obtain ⟨J3, rfl, r3, f3⟩ := g246
      have x3 := zu_hi x2 (Nat.zero_le _) f3 (fun j hj => r3.2 j (Or.inl hj))
      refine zg_w (w' := zw_I w J3) rfl ?_
      refine zg_aload_n dX4_commit_249 rfl ?_
      refine zg_iconst (v := nI 0) dX4_commit_250 (by decide) ?_
      refine zg_aload_n dX4_commit_251 rfl ?_
      refine zg_getR E (ci := 4) (j := 13) (r := 164) dX4_commit_252 rfl (congrArg Prod.fst (zl_Mat HM (k := 156) (t := (4, 17)) rfl (by decide) (by decide))) (by decide) (zl_Mlt HM (by decide)) (by decide) fl_X4_32 rfl (zl_Mrf HM rfl (by decide) (by decide)) ?_
      refine zg_sipush (v := nI 1584) dX4_commit_255 (by decide) ?_
      refine zg_vrt (M := zm_X4_commit) E (ci := 4) dX4_commit_258 (mt_hold (w := zw_I w J3) (k := 164) (n := 1600) (q := 1584) (t := 0) (f := za_ms (L.2.2 + nI 1) a) E HM x3.2.1 (by decide : (0 : Nat) < 77) (zl_Mat HM (k := 164) (t := (10, 1600)) rfl (by decide) (by decide)) (by decide) (zl_Mlt HM (by decide)) (by decide) (by decide) (Or.inr ⟨rfl, by decide⟩) r3.1) wd_X4_114 rfl (congrArg Prod.fst (zl_Mat HM (k := 156) (t := (4, 17)) rfl (by decide) (by decide))) (by decide) (zl_Mlt HM (by decide)) rfl dh_X4_hold dn_X4_hold (Nat.le_of_ble_eq_true rfl) (Nat.le_of_ble_eq_true rfl) (Nat.le_of_ble_eq_true rfl) (zl_capM HM) rfl (fun w258 g258 => ?_)
      obtain ⟨J4, rfl, r4, f4⟩ := g258
      have x4 : zu_X J4 (za_cD D L C H a) (za_cM L C H a) b (za_cL L C a) (if t then L else S) za_C0 false := ⟨zu_fD x3.1 f4, r4, zu_fs x3.2.2.1 f4, zu_fL x3.2.2.2.1 f4, zu_fS x3.2.2.2.2.1 f4, zu_fC x3.2.2.2.2.2.1 f4, zu_fs x3.2.2.2.2.2.2 f4⟩
      have F4 := zu_frT (zu_frT f2 f3) f4
      refine zg_w (w' := zw_I w J4) rfl ?_
      refine zg_aload_n dX4_commit_261 rfl ?_
      refine zg_iconst (v := nI 1) dX4_commit_262 (by decide) ?_
      refine zg_putI E (ci := 4) (j := 15) dX4_commit_263 rfl (congrArg Prod.fst (zl_Mat HM (k := 156) (t := (4, 17)) rfl (by decide) (by decide))) (by decide) (zl_Mlt HM (by decide)) (by decide) fl_X4_57 rfl rfl rfl rfl ?_
      obtain ⟨J5, e5, x5, f5⟩ : ∃ K, zw_si (zw_I w J4) 156 15 (nI 1) = zw_I w K ∧ zu_X K (za_cD D L C H a) (za_cM L C H a) b (za_cL L C a) (if t then L else S) za_C0 true ∧ zu_fr [] [15] J4 K := ⟨_, rfl, zu_tu (t' := true) x4, zu_frS J4 15 _⟩
      refine zg_w e5.symm ?_
      refine zg_iload_n dX4_commit_266 rfl ?_
      refine zg_if_eq (tgt := 275) dX4_commit_267 (by decide) (fun h267 => ?_) (fun h267 => ?_)
      · have ez := za_bit0 h267
        subst ez
        refine zg_aload_n dX4_commit_275 rfl ?_
        refine zg_getI E (ci := 4) (j := 5) dX4_commit_276 rfl (congrArg Prod.fst (zl_Mat HM (k := 156) (t := (4, 17)) rfl (by decide) (by decide))) (by decide) (zl_Mlt HM (by decide)) (by decide) fl_X4_74 rfl ?_
        refine zg_v (x' := L.2.2 + nI 1) x5.2.2.2.1.2.2 ?_
        exact zg_iret rfl dX4_commit_279 (hq J5 x5 (zu_frW (zu_frT F4 f5)))
      · have ez := za_bit1 h267
        subst ez
        refine zg_aload_n dX4_commit_270 rfl ?_
        refine zg_vrt (M := zm_X4_commit) E (ci := 4) dX4_commit_271 (mt_flushed (w := zw_I w J5) E HM x5 hWM) wd_X4_118 rfl (congrArg Prod.fst (zl_Mat HM (k := 156) (t := (4, 17)) rfl (by decide) (by decide))) (by decide) (zl_Mlt HM (by decide)) rfl dh_X4_flushed dn_X4_flushed (Nat.le_of_ble_eq_true rfl) (Nat.le_of_ble_eq_true rfl) (Nat.le_of_ble_eq_true rfl) (zl_capM HM) rfl (fun w271 g271 => ?_)
        obtain ⟨J6, rfl, r6, f6⟩ := g271
        refine zg_w (w' := zw_I w J6) rfl ?_
        refine zg_pop dX4_commit_274 rfl ?_
        refine zg_aload_n dX4_commit_275 rfl ?_
        refine zg_getI E (ci := 4) (j := 5) dX4_commit_276 rfl (congrArg Prod.fst (zl_Mat HM (k := 156) (t := (4, 17)) rfl (by decide) (by decide))) (by decide) (zl_Mlt HM (by decide)) (by decide) fl_X4_74 rfl ?_
        refine zg_v (x' := L.2.2 + nI 1) r6.2.2.2.1.2.2 ?_
        exact zg_iret rfl dX4_commit_279 (hq J6 r6 (zu_frW (zu_frT (zu_frT F4 f5) f6)))
    · have hlt : i < 16 := zn_lt h174 (by omega) (by omega)
      refine zg_aload_n dX4_commit_177 rfl ?_
      refine zg_getR E (ci := 4) (j := 1) (r := 158) dX4_commit_178 rfl (congrArg Prod.fst (zl_Mat HM (k := 156) (t := (4, 17)) rfl (by decide) (by decide))) (by decide) (zl_Mlt HM (by decide)) (by decide) fl_X4_13 rfl (zl_Mrf HM rfl (by decide) (by decide)) ?_
      refine zg_iload_n dX4_commit_181 rfl ?_
      refine zg_aload_n dX4_commit_182 rfl ?_
      refine zg_getR E (ci := 4) (j := 9) (r := 160) dX4_commit_183 rfl (congrArg Prod.fst (zl_Mat HM (k := 156) (t := (4, 17)) rfl (by decide) (by decide))) (by decide) (zl_Mlt HM (by decide)) (by decide) fl_X4_19 rfl (zl_Mrf HM rfl (by decide) (by decide)) ?_
      refine zg_iload_n dX4_commit_186 rfl ?_
      refine zg_iald E (j := i) dX4_commit_187 (zl_Mat HM (k := 160) (t := (10, 16)) rfl (by decide) (by decide)) (by decide) (zl_Mlt HM (by decide)) rfl (by omega) (by decide) ?_
      refine zg_v (x' := nI (C.1 i)) (hown i hlt) ?_
      refine zg_if_le (tgt := 200) dX4_commit_188 (by decide) (fun h188 => ?_) (fun h188 => ?_)
      · have ez : C.1 i = 0 := Classical.byContradiction fun z => absurd h188 (nI_nle (by omega) (by have := wC.1 i hlt; omega))
        refine zg_aload_n dX4_commit_200 rfl ?_
        refine zg_getR E (ci := 4) (j := 1) (r := 158) dX4_commit_201 rfl (congrArg Prod.fst (zl_Mat HM (k := 156) (t := (4, 17)) rfl (by decide) (by decide))) (by decide) (zl_Mlt HM (by decide)) (by decide) fl_X4_13 rfl (zl_Mrf HM rfl (by decide) (by decide)) ?_
        refine zg_iload_n dX4_commit_204 rfl ?_
        refine zg_iald E (j := i) dX4_commit_205 (zl_Mat HM (k := 158) (t := (10, 16)) rfl (by decide) (by decide)) (by decide) (zl_Mlt HM (by decide)) rfl (by omega) (by decide) ?_
        refine zg_v (x' := nI (L.1 i)) ((k1 i (Nat.le_refl i)).trans (r0.2.2.2.1.1 i hlt)) ?_
        refine zg_v (x' := nI (za_op L C i)) (congrArg nI (if_pos ez).symm) ?_
        refine zg_iast E (j := i) dX4_commit_206 (zl_Mat HM (k := 158) (t := (10, 16)) rfl (by decide) (by decide)) (by decide) (zl_Mlt HM (by decide)) rfl (by omega) (by decide) ?_
        refine zg_iinc (v := nI (i + 1)) (lv' := [(3, .int (nI (i + 1))), (0, .ref 156), (1, .int (za_bit z)), (2, .int (nI a))]) dX4_commit_207 rfl (nI_1 i) (by decide) rfl ?_
        refine zg_goto (tgt := 171) dX4_commit_210 (by decide) ?_
        refine zg_l [0, 1, 2, 3] rfl ?_
        exact zg_s rfl rfl rfl (ih (i + 1) _ (by omega) (by omega) (fun j hj => (Nat.lt_or_ge j i).elim (fun z => (zw_up_n _ _ (Or.inr (by omega))).trans (k0 j z)) (fun z => by have e : j = i := (by omega); subst e; exact zw_up_s _ _ _ _)) (fun j hj => (zw_up_n _ _ (Or.inr (by omega))).trans (k1 j (by omega))) (fun a j h1 h2 => (zw_up_n _ _ (Or.inl (fun z => h1 (by rw [z]; decide)))).trans (k2 a j h1 h2)))
      · have ez : C.1 i ≠ 0 := fun z => h188 (by rw [z]; decide)
        refine zg_aload_n dX4_commit_191 rfl ?_
        refine zg_getR E (ci := 4) (j := 9) (r := 160) dX4_commit_192 rfl (congrArg Prod.fst (zl_Mat HM (k := 156) (t := (4, 17)) rfl (by decide) (by decide))) (by decide) (zl_Mlt HM (by decide)) (by decide) fl_X4_19 rfl (zl_Mrf HM rfl (by decide) (by decide)) ?_
        refine zg_iload_n dX4_commit_195 rfl ?_
        refine zg_iald E (j := i) dX4_commit_196 (zl_Mat HM (k := 160) (t := (10, 16)) rfl (by decide) (by decide)) (by decide) (zl_Mlt HM (by decide)) rfl (by omega) (by decide) ?_
        refine zg_v (x' := nI (C.1 i)) (hown i hlt) ?_
        refine zg_goto (tgt := 206) dX4_commit_197 (by decide) ?_
        refine zg_v (x' := nI (za_op L C i)) (congrArg nI (if_neg ez).symm) ?_
        refine zg_iast E (j := i) dX4_commit_206 (zl_Mat HM (k := 158) (t := (10, 16)) rfl (by decide) (by decide)) (by decide) (zl_Mlt HM (by decide)) rfl (by omega) (by decide) ?_
        refine zg_iinc (v := nI (i + 1)) (lv' := [(3, .int (nI (i + 1))), (0, .ref 156), (1, .int (za_bit z)), (2, .int (nI a))]) dX4_commit_207 rfl (nI_1 i) (by decide) rfl ?_
        refine zg_goto (tgt := 171) dX4_commit_210 (by decide) ?_
        refine zg_l [0, 1, 2, 3] rfl ?_
        exact zg_s rfl rfl rfl (ih (i + 1) _ (by omega) (by omega) (fun j hj => (Nat.lt_or_ge j i).elim (fun z => (zw_up_n _ _ (Or.inr (by omega))).trans (k0 j z)) (fun z => by have e : j = i := (by omega); subst e; exact zw_up_s _ _ _ _)) (fun j hj => (zw_up_n _ _ (Or.inr (by omega))).trans (k1 j (by omega))) (fun a j h1 h2 => (zw_up_n _ _ (Or.inl (fun z => h1 (by rw [z]; decide)))).trans (k2 a j h1 h2)))
set_option maxHeartbeats 4000000 in
set_option maxRecDepth 100000 in
theorem lm_c2 {V : zv_V} (E : zv_OK V) {w : zw_W} {n0 u0 : Nat} {Q : zg_O → zw_W → Prop} (HM : zl_M w) {D : Nat → Nat → Nat} {H : za_H} {b : Bool} {L S : za_T} {C : za_C} {t : Bool} {z : Bool} {a : Nat} (ha : a < 48) (hH : za_WH H) (h60 : H.1 ≤ 60) (wL : za_WT L) (wC : za_WC C) (h0 : 0 < za_n C.1 16) {I : Nat → Nat → Int32} (r0 : zu_X I D (za_un C H 16) b L S C t) (hq : ∀ J, zu_X J (if z then za_car (za_cD D L C H a) (za_cM L C H a) za_all (za_cM L C H a).1 else za_cD D L C H a) (if z then (0, (za_cM L C H a).2) else za_cM L C H a) b (za_cL L C a) (if z then za_cL L C a else if t then L else S) za_C0 (!z) → zu_fr [157, 158, 159, 163, 164] [3, 4, 5, 6, 8, 14, 15] I J → Q (.inl (some (.int (L.2.2 + nI 1)))) (zw_I w J))  : ∀ (n i : Nat) (J : Nat → Nat → Int32), i ≤ 16 → 16 + 1 ≤ i + n → (∀ j, j < i → J 164 (1584 + j) = nI (za_op L C j)) → (∀ j, j < 1584 → J 164 j = I 164 j) → zu_fr [164] [] I J → zg_G V zm_X4_commit 8 190 n0 u0 106 [] [(3, .int (nI i)), (0, .ref 156), (1, .int (za_bit z)), (2, .int (nI a))] (zw_I w J) Q := by
  intro nn
  induction nn with
  | zero =>
    intro i J hii hnn
    exact absurd hnn (by omega)
  | succ nn ih =>
    intro i J hii hnn k0 k1 k2
    have hle := za_un_le C H 16
    have xJ := zu_hi r0 (by omega) k2 k1
    have hown : ∀ q, q < 16 → J 160 q = nI (C.1 q) := fun q hq => (k2 _ _ (by decide) (Or.inl (by decide))).trans (r0.2.2.2.2.2.1.2.1 h0 q hq)
    refine zg_iload_n dX4_commit_106 rfl ?_
    refine zg_bipush (v := nI 16) dX4_commit_107 (by decide) ?_
    refine zg_icmp_ge (tgt := 152) dX4_commit_109 (by decide) (fun h109 => ?_) (fun h109 => ?_)
    · obtain rfl : i = 16 := by have := zn_ge h109 (by omega) (by omega); omega
      refine zg_aload_n dX4_commit_152 rfl ?_
      refine zg_iload_n dX4_commit_153 rfl ?_
      refine zg_aload_n dX4_commit_154 rfl ?_
      refine zg_getR E (ci := 4) (j := 13) (r := 164) dX4_commit_155 rfl (congrArg Prod.fst (zl_Mat HM (k := 156) (t := (4, 17)) rfl (by decide) (by decide))) (by decide) (zl_Mlt HM (by decide)) (by decide) fl_X4_32 rfl (zl_Mrf HM rfl (by decide) (by decide)) ?_
      refine zg_sipush (v := nI 1584) dX4_commit_158 (by decide) ?_
      refine zg_vrt (M := zm_X4_commit) E (ci := 4) dX4_commit_161 (mt_hold (w := zw_I w J) (k := 164) (n := 1600) (q := 1584) (t := a) (f := za_op L C) E HM xJ.2.1 (by omega) (zl_Mat HM (k := 164) (t := (10, 1600)) rfl (by decide) (by decide)) (by decide) (zl_Mlt HM (by decide)) (by decide) (by decide) (Or.inr ⟨rfl, by decide⟩) k0) wd_X4_114 rfl (congrArg Prod.fst (zl_Mat HM (k := 156) (t := (4, 17)) rfl (by decide) (by decide))) (by decide) (zl_Mlt HM (by decide)) rfl dh_X4_hold dn_X4_hold (Nat.le_of_ble_eq_true rfl) (Nat.le_of_ble_eq_true rfl) (Nat.le_of_ble_eq_true rfl) (zl_capM HM) rfl (fun w161 g161 => ?_)
      obtain ⟨J1, rfl, r1, f1⟩ := g161
      have x1 : zu_X J1 D (za_cH L C H a) b L S C t := ⟨zu_fD xJ.1 f1, r1, zu_fs xJ.2.2.1 f1, zu_fL xJ.2.2.2.1 f1, zu_fS xJ.2.2.2.2.1 f1, zu_fC xJ.2.2.2.2.2.1 f1, zu_fs xJ.2.2.2.2.2.2 f1⟩
      refine zg_w (w' := zw_I w J1) rfl ?_
      refine zg_aload_n dX4_commit_164 rfl ?_
      refine zg_vrt (M := zm_X4_commit) E (ci := 4) dX4_commit_165 (mt_flushed (w := zw_I w J1) (H := za_cH L C H a) E HM x1 (za_cH_W hH h60 wL wC ha)) wd_X4_118 rfl (congrArg Prod.fst (zl_Mat HM (k := 156) (t := (4, 17)) rfl (by decide) (by decide))) (by decide) (zl_Mlt HM (by decide)) rfl dh_X4_flushed dn_X4_flushed (Nat.le_of_ble_eq_true rfl) (Nat.le_of_ble_eq_true rfl) (Nat.le_of_ble_eq_true rfl) (zl_capM HM) rfl (fun w165 g165 => ?_)
      obtain ⟨J2, rfl, r2, f2⟩ := g165
      refine zg_w (w' := zw_I w J2) rfl ?_
      refine zg_pop dX4_commit_168 rfl ?_
      refine zg_iconst (v := nI 0) dX4_commit_169 (by decide) ?_
      refine zg_istore_n (lv' := [(3, .int (nI 0)), (0, .ref 156), (1, .int (za_bit z)), (2, .int (nI a))]) dX4_commit_170 (by decide) rfl ?_
      refine zg_l [0, 1, 2, 3] rfl ?_
      exact zg_s rfl rfl rfl (lm_c3 E HM ha wC h0 r2 (fun J h1 h2 => hq J h1 (zu_frW (zu_frT (zu_frT (zu_frT k2 f1) f2) h2))) 17 0 J2 (by omega) (by omega) (fun j hj => absurd hj (Nat.not_lt_zero j)) (fun _ _ => rfl) (zu_frn [158] []))
    · have hlt : i < 16 := zn_lt h109 (by omega) (by omega)
      refine zg_aload_n dX4_commit_112 rfl ?_
      refine zg_getR E (ci := 4) (j := 13) (r := 164) dX4_commit_113 rfl (congrArg Prod.fst (zl_Mat HM (k := 156) (t := (4, 17)) rfl (by decide) (by decide))) (by decide) (zl_Mlt HM (by decide)) (by decide) fl_X4_32 rfl (zl_Mrf HM rfl (by decide) (by decide)) ?_
      refine zg_sipush (v := nI 1584) dX4_commit_116 (by decide) ?_
      refine zg_iload_n dX4_commit_119 rfl ?_
      refine zg_iadd dX4_commit_120 ?_
      refine zg_v (x' := nI (1584 + i)) (nI_add _ _) ?_
      refine zg_aload_n dX4_commit_121 rfl ?_
      refine zg_getR E (ci := 4) (j := 9) (r := 160) dX4_commit_122 rfl (congrArg Prod.fst (zl_Mat HM (k := 156) (t := (4, 17)) rfl (by decide) (by decide))) (by decide) (zl_Mlt HM (by decide)) (by decide) fl_X4_19 rfl (zl_Mrf HM rfl (by decide) (by decide)) ?_
      refine zg_iload_n dX4_commit_125 rfl ?_
      refine zg_iald E (j := i) dX4_commit_126 (zl_Mat HM (k := 160) (t := (10, 16)) rfl (by decide) (by decide)) (by decide) (zl_Mlt HM (by decide)) rfl (by omega) (by decide) ?_
      refine zg_v (x' := nI (C.1 i)) (hown i hlt) ?_
      refine zg_if_le (tgt := 139) dX4_commit_127 (by decide) (fun h127 => ?_) (fun h127 => ?_)
      · have ez : C.1 i = 0 := Classical.byContradiction fun z => absurd h127 (nI_nle (by omega) (by have := wC.1 i hlt; omega))
        refine zg_aload_n dX4_commit_139 rfl ?_
        refine zg_getR E (ci := 4) (j := 1) (r := 158) dX4_commit_140 rfl (congrArg Prod.fst (zl_Mat HM (k := 156) (t := (4, 17)) rfl (by decide) (by decide))) (by decide) (zl_Mlt HM (by decide)) (by decide) fl_X4_13 rfl (zl_Mrf HM rfl (by decide) (by decide)) ?_
        refine zg_iload_n dX4_commit_143 rfl ?_
        refine zg_iald E (j := i) dX4_commit_144 (zl_Mat HM (k := 158) (t := (10, 16)) rfl (by decide) (by decide)) (by decide) (zl_Mlt HM (by decide)) rfl (by omega) (by decide) ?_
        refine zg_v (x' := nI (L.1 i)) ((k2 _ _ (by decide) (Or.inl (by decide))).trans (r0.2.2.2.1.1 i hlt)) ?_
        refine zg_v (x' := nI (za_op L C i)) (congrArg nI (if_pos ez).symm) ?_
        refine zg_iast E (j := 1584 + i) dX4_commit_145 (zl_Mat HM (k := 164) (t := (10, 1600)) rfl (by decide) (by decide)) (by decide) (zl_Mlt HM (by decide)) rfl (by omega) (by decide) ?_
        refine zg_iinc (v := nI (i + 1)) (lv' := [(3, .int (nI (i + 1))), (0, .ref 156), (1, .int (za_bit z)), (2, .int (nI a))]) dX4_commit_146 rfl (nI_1 i) (by decide) rfl ?_
        refine zg_goto (tgt := 106) dX4_commit_149 (by decide) ?_
        refine zg_l [0, 1, 2, 3] rfl ?_
        exact zg_s rfl rfl rfl (ih (i + 1) _ (by omega) (by omega) (fun j hj => (Nat.lt_or_ge j i).elim (fun z => (zw_up_n _ _ (Or.inr (by omega))).trans (k0 j z)) (fun z => by have e : j = i := (by omega); subst e; exact zw_up_s _ _ _ _)) (fun j hj => (zw_up_n _ _ (Or.inr (by omega))).trans (k1 j hj)) (fun a j h1 h2 => (zw_up_n _ _ (Or.inl (fun z => h1 (by rw [z]; decide)))).trans (k2 a j h1 h2)))
      · have ez : C.1 i ≠ 0 := fun z => h127 (by rw [z]; decide)
        refine zg_aload_n dX4_commit_130 rfl ?_
        refine zg_getR E (ci := 4) (j := 9) (r := 160) dX4_commit_131 rfl (congrArg Prod.fst (zl_Mat HM (k := 156) (t := (4, 17)) rfl (by decide) (by decide))) (by decide) (zl_Mlt HM (by decide)) (by decide) fl_X4_19 rfl (zl_Mrf HM rfl (by decide) (by decide)) ?_
        refine zg_iload_n dX4_commit_134 rfl ?_
        refine zg_iald E (j := i) dX4_commit_135 (zl_Mat HM (k := 160) (t := (10, 16)) rfl (by decide) (by decide)) (by decide) (zl_Mlt HM (by decide)) rfl (by omega) (by decide) ?_
        refine zg_v (x' := nI (C.1 i)) (hown i hlt) ?_
        refine zg_goto (tgt := 145) dX4_commit_136 (by decide) ?_
        refine zg_v (x' := nI (za_op L C i)) (congrArg nI (if_neg ez).symm) ?_
        refine zg_iast E (j := 1584 + i) dX4_commit_145 (zl_Mat HM (k := 164) (t := (10, 1600)) rfl (by decide) (by decide)) (by decide) (zl_Mlt HM (by decide)) rfl (by omega) (by decide) ?_
        refine zg_iinc (v := nI (i + 1)) (lv' := [(3, .int (nI (i + 1))), (0, .ref 156), (1, .int (za_bit z)), (2, .int (nI a))]) dX4_commit_146 rfl (nI_1 i) (by decide) rfl ?_
        refine zg_goto (tgt := 106) dX4_commit_149 (by decide) ?_
        refine zg_l [0, 1, 2, 3] rfl ?_
        exact zg_s rfl rfl rfl (ih (i + 1) _ (by omega) (by omega) (fun j hj => (Nat.lt_or_ge j i).elim (fun z => (zw_up_n _ _ (Or.inr (by omega))).trans (k0 j z)) (fun z => by have e : j = i := (by omega); subst e; exact zw_up_s _ _ _ _)) (fun j hj => (zw_up_n _ _ (Or.inr (by omega))).trans (k1 j hj)) (fun a j h1 h2 => (zw_up_n _ _ (Or.inl (fun z => h1 (by rw [z]; decide)))).trans (k2 a j h1 h2)))
set_option maxHeartbeats 4000000 in
set_option maxRecDepth 100000 in
theorem lm_c1 {V : zv_V} (E : zv_OK V) {w : zw_W} {n0 u0 : Nat} {Q : zg_O → zw_W → Prop} (HM : zl_M w) {D : Nat → Nat → Nat} {H : za_H} {b : Bool} {L S : za_T} {C : za_C} {t : Bool} {z : Bool} {a : Nat} (ha : a < 48) (hH : za_WH H) (h60 : H.1 ≤ 60) (wL : za_WT L) (wC : za_WC C) (h0 : 0 < za_n C.1 16) {I : Nat → Nat → Int32} (hq : ∀ J, zu_X J (if z then za_car (za_cD D L C H a) (za_cM L C H a) za_all (za_cM L C H a).1 else za_cD D L C H a) (if z then (0, (za_cM L C H a).2) else za_cM L C H a) b (za_cL L C a) (if z then za_cL L C a else if t then L else S) za_C0 (!z) → zu_fr [157, 158, 159, 163, 164] [3, 4, 5, 6, 8, 14, 15] I J → Q (.inl (some (.int (L.2.2 + nI 1)))) (zw_I w J))  : ∀ (n i : Nat) (J : Nat → Nat → Int32), i ≤ 16 → 16 + 1 ≤ i + n → zu_X J D (za_un C H i) b L S C t → zu_fr [163, 164] [14] I J → zg_G V zm_X4_commit 8 190 n0 u0 56 [] [(3, .int (nI i)), (0, .ref 156), (1, .int (za_bit z)), (2, .int (nI a))] (zw_I w J) Q := by
  intro nn
  induction nn with
  | zero =>
    intro i J hii hnn
    exact absurd hnn (by omega)
  | succ nn ih =>
    intro i J hii hnn k0 k1
    have hle := za_un_le C H i
    refine zg_iload_n dX4_commit_56 rfl ?_
    refine zg_bipush (v := nI 16) dX4_commit_57 (by decide) ?_
    refine zg_icmp_ge (tgt := 104) dX4_commit_59 (by decide) (fun h59 => ?_) (fun h59 => ?_)
    · obtain rfl : i = 16 := by have := zn_ge h59 (by omega) (by omega); omega
      refine zg_iconst (v := nI 0) dX4_commit_104 (by decide) ?_
      refine zg_istore_n (lv' := [(3, .int (nI 0)), (0, .ref 156), (1, .int (za_bit z)), (2, .int (nI a))]) dX4_commit_105 (by decide) rfl ?_
      refine zg_l [0, 1, 2, 3] rfl ?_
      exact zg_s rfl rfl rfl (lm_c2 E HM ha hH h60 wL wC h0 k0 (fun J h1 h2 => hq J h1 (zu_frW (zu_frT k1 h2))) 17 0 J (by omega) (by omega) (fun j hj => absurd hj (Nat.not_lt_zero j)) (fun _ _ => rfl) (zu_frn [164] []))
    · have hlt : i < 16 := zn_lt h59 (by omega) (by omega)
      refine zg_aload_n dX4_commit_62 rfl ?_
      refine zg_getR E (ci := 4) (j := 9) (r := 160) dX4_commit_63 rfl (congrArg Prod.fst (zl_Mat HM (k := 156) (t := (4, 17)) rfl (by decide) (by decide))) (by decide) (zl_Mlt HM (by decide)) (by decide) fl_X4_19 rfl (zl_Mrf HM rfl (by decide) (by decide)) ?_
      refine zg_iload_n dX4_commit_66 rfl ?_
      refine zg_iald E (j := i) dX4_commit_67 (zl_Mat HM (k := 160) (t := (10, 16)) rfl (by decide) (by decide)) (by decide) (zl_Mlt HM (by decide)) rfl (by omega) (by decide) ?_
      refine zg_v (x' := nI (C.1 i)) (k0.2.2.2.2.2.1.2.1 h0 i hlt) ?_
      refine zg_if_le (tgt := 98) dX4_commit_68 (by decide) (fun h68 => ?_) (fun h68 => ?_)
      · have ez : C.1 i = 0 := Classical.byContradiction fun z => absurd h68 (nI_nle (by omega) (by have := wC.1 i hlt; omega))
        have hun : za_un C H (i + 1) = za_un C H i := if_neg (fun z => z.1 ez)
        refine zg_iinc (v := nI (i + 1)) (lv' := [(3, .int (nI (i + 1))), (0, .ref 156), (1, .int (za_bit z)), (2, .int (nI a))]) dX4_commit_98 rfl (nI_1 i) (by decide) rfl ?_
        refine zg_goto (tgt := 56) dX4_commit_101 (by decide) ?_
        refine zg_l [0, 1, 2, 3] rfl ?_
        exact zg_s rfl rfl rfl (ih (i + 1) J (by omega) (by omega) (by rw [hun]; exact k0) k1)
      · have ez : C.1 i ≠ 0 := fun z => h68 (by rw [z]; decide)
        refine zg_aload_n dX4_commit_71 rfl ?_
        refine zg_getR E (ci := 4) (j := 10) (r := 161) dX4_commit_72 rfl (congrArg Prod.fst (zl_Mat HM (k := 156) (t := (4, 17)) rfl (by decide) (by decide))) (by decide) (zl_Mlt HM (by decide)) (by decide) fl_X4_22 rfl (zl_Mrf HM rfl (by decide) (by decide)) ?_
        refine zg_iload_n dX4_commit_75 rfl ?_
        refine zg_zald E (j := i) dX4_commit_76 (zl_Mat HM (k := 161) (t := (11, 16)) rfl (by decide) (by decide)) (by decide) (zl_Mlt HM (by decide)) rfl (by omega) (by decide) ?_
        refine zg_v (x' := za_bit (C.2.2 i)) ((k0.2.2.2.2.2.1.2.2 i hlt ez).2) ?_
        refine zg_if_ne (tgt := 98) dX4_commit_77 (by decide) (fun h77 => ?_) (fun h77 => ?_)
        · have hun : za_un C H (i + 1) = za_un C H i := if_neg (fun z => absurd (za_bit1 h77) (by rw [z.2]; decide))
          refine zg_iinc (v := nI (i + 1)) (lv' := [(3, .int (nI (i + 1))), (0, .ref 156), (1, .int (za_bit z)), (2, .int (nI a))]) dX4_commit_98 rfl (nI_1 i) (by decide) rfl ?_
          refine zg_goto (tgt := 56) dX4_commit_101 (by decide) ?_
          refine zg_l [0, 1, 2, 3] rfl ?_
          exact zg_s rfl rfl rfl (ih (i + 1) J (by omega) (by omega) (by rw [hun]; exact k0) k1)
        · have hun : za_un C H (i + 1) = za_hold (za_un C H i) (C.1 i) (C.2.1 i) := if_pos ⟨ez, za_bit0 h77⟩
          refine zg_aload_n dX4_commit_80 rfl ?_
          refine zg_aload_n dX4_commit_81 rfl ?_
          refine zg_getR E (ci := 4) (j := 9) (r := 160) dX4_commit_82 rfl (congrArg Prod.fst (zl_Mat HM (k := 156) (t := (4, 17)) rfl (by decide) (by decide))) (by decide) (zl_Mlt HM (by decide)) (by decide) fl_X4_19 rfl (zl_Mrf HM rfl (by decide) (by decide)) ?_
          refine zg_iload_n dX4_commit_85 rfl ?_
          refine zg_iald E (j := i) dX4_commit_86 (zl_Mat HM (k := 160) (t := (10, 16)) rfl (by decide) (by decide)) (by decide) (zl_Mlt HM (by decide)) rfl (by omega) (by decide) ?_
          refine zg_v (x' := nI (C.1 i)) (k0.2.2.2.2.2.1.2.1 h0 i hlt) ?_
          refine zg_aload_n dX4_commit_87 rfl ?_
          refine zg_getR E (ci := 4) (j := 11) (r := 162) dX4_commit_88 rfl (congrArg Prod.fst (zl_Mat HM (k := 156) (t := (4, 17)) rfl (by decide) (by decide))) (by decide) (zl_Mlt HM (by decide)) (by decide) fl_X4_26 rfl (zl_Mrf HM rfl (by decide) (by decide)) ?_
          refine zg_bipush (v := nI 16) dX4_commit_91 (by decide) ?_
          refine zg_iload_n dX4_commit_93 rfl ?_
          refine zg_imul dX4_commit_94 ?_
          refine zg_v (x' := nI (16 * i)) (pk_mul _ _) ?_
          refine zg_vrt (M := zm_X4_commit) E (ci := 4) dX4_commit_95 (mt_hold (w := zw_I w J) (k := 162) (n := 256) (q := 16 * i) (t := C.1 i) (f := C.2.1 i) E HM k0.2.1 (by omega) (zl_Mat HM (k := 162) (t := (10, 256)) rfl (by decide) (by decide)) (by decide) (zl_Mlt HM (by decide)) (by decide) (by omega) (Or.inl rfl) (fun j hj => (k0.2.2.2.2.2.1.2.2 i hlt ez).1 j hj)) wd_X4_114 rfl (congrArg Prod.fst (zl_Mat HM (k := 156) (t := (4, 17)) rfl (by decide) (by decide))) (by decide) (zl_Mlt HM (by decide)) rfl dh_X4_hold dn_X4_hold (Nat.le_of_ble_eq_true rfl) (Nat.le_of_ble_eq_true rfl) (Nat.le_of_ble_eq_true rfl) (zl_capM HM) rfl (fun w95 g95 => ?_)
          obtain ⟨J1, rfl, r1, f1⟩ := g95
          refine zg_w (w' := zw_I w J1) rfl ?_
          refine zg_iinc (v := nI (i + 1)) (lv' := [(3, .int (nI (i + 1))), (0, .ref 156), (1, .int (za_bit z)), (2, .int (nI a))]) dX4_commit_98 rfl (nI_1 i) (by decide) rfl ?_
          refine zg_goto (tgt := 56) dX4_commit_101 (by decide) ?_
          refine zg_l [0, 1, 2, 3] rfl ?_
          exact zg_s rfl rfl rfl (ih (i + 1) J1 (by omega) (by omega) (by rw [hun]; exact ⟨zu_fD k0.1 f1, r1, zu_fs k0.2.2.1 f1, zu_fL k0.2.2.2.1 f1, zu_fS k0.2.2.2.2.1 f1, zu_fC k0.2.2.2.2.2.1 f1, zu_fs k0.2.2.2.2.2.2 f1⟩) (zu_frW (zu_frT k1 f1)))
set_option maxHeartbeats 4000000 in
set_option maxRecDepth 100000 in
theorem qc_4 {V : zv_V} (E : zv_OK V) {w : zw_W} (HM : zl_M w) {D : Nat → Nat → Nat} {H : za_H} {b : Bool} {L S : za_T} {C : za_C} {t : Bool} (hM : zu_X (zw_i w) D H b L S C t) (hb : b = false) (h0 : 0 < za_n C.1 16) {z : Bool} {a : Nat} (wL : za_WT L) (wS : za_WT S) (wC : za_WC C) (ha : a < 48) (hH : za_WH H) (h60 : H.1 ≤ 60) (hr : za_ff L S C.1 (nI a)) : zg_C V zm_X4_commit yX4_commit 8 190 [.ref 156, .int (za_bit z)] w (zq_p (.inl (some (.int (L.2.2 + nI 1)))) (zu_pub w (if z then za_car (za_cD D L C H a) (za_cM L C H a) za_all (za_cM L C H a).1 else za_cD D L C H a) (if z then (0, (za_cM L C H a).2) else za_cM L C H a) b (za_cL L C a) (if z then za_cL L C a else if t then L else S) za_C0 (!z) 0)) := by
  refine zg_of (by decide +kernel) rfl (Nat.le_of_ble_eq_true rfl) ?_
  show zg_G V zm_X4_commit 8 190 w.1 w.2.1 0 [] [(0, .ref 156), (1, .int (za_bit z))] w _
  refine zg_aload_n dX4_commit_0 rfl ?_
  refine zg_aload_n dX4_commit_1 rfl ?_
  refine zg_getI E (ci := 4) (j := 7) dX4_commit_2 rfl (congrArg Prod.fst (zl_Mat HM (k := 156) (t := (4, 17)) rfl (by decide) (by decide))) (by decide) (zl_Mlt HM (by decide)) (by decide) fl_X4_64 rfl ?_
  refine zg_v (x' := za_bit b) hM.2.2.1 ?_
  refine zg_if_ne (tgt := 15) dX4_commit_5 (by decide) (fun h5 => ?_) (fun h5 => ?_)
  · exact absurd (by rw [hb]; rfl) h5
  · refine zg_aload_n dX4_commit_8 rfl ?_
    refine zg_getI E (ci := 4) (j := 8) dX4_commit_9 rfl (congrArg Prod.fst (zl_Mat HM (k := 156) (t := (4, 17)) rfl (by decide) (by decide))) (by decide) (zl_Mlt HM (by decide)) (by decide) fl_X4_61 rfl ?_
    refine zg_v (x' := za_bit (decide (0 < za_n C.1 16))) hM.2.2.2.2.2.1.1 ?_
    refine zg_if_ne (tgt := 19) dX4_commit_12 (by decide) (fun h12 => ?_) (fun h12 => ?_)
    · refine zg_iconst (v := nI 0) dX4_commit_19 (by decide) ?_
      refine zg_iconst (v := nI 1) dX4_commit_20 (by decide) ?_
      refine zg_vrt (M := zm_X4_commit) E (ci := 4) dX4_commit_21 (mt_fails (w := w) (z := false) (k := nI 1) E HM) wd_X4_102 rfl (congrArg Prod.fst (zl_Mat HM (k := 156) (t := (4, 17)) rfl (by decide) (by decide))) (by decide) (zl_Mlt HM (by decide)) rfl dh_X4_fails dn_X4_fails (Nat.le_of_ble_eq_true rfl) (Nat.le_of_ble_eq_true rfl) (Nat.le_of_ble_eq_true rfl) (zl_capM HM) rfl (fun w21 g21 => ?_)
      subst w21
      obtain ⟨J1, e1, r1, t1, f1⟩ := zu_th (w := w) hM (nI 0)
      refine zg_w e1.symm ?_
      refine zg_if_eq (tgt := 29) dX4_commit_24 (by decide) (fun h24 => ?_) (fun h24 => ?_)
      · refine zg_aload_n dX4_commit_29 rfl ?_
        refine zg_vrt (M := zm_X4_commit) E (ci := 4) dX4_commit_30 (mt_firstFree (w := zw_I w J1) E HM r1 wL wS wC hr) wd_X4_94 rfl (congrArg Prod.fst (zl_Mat HM (k := 156) (t := (4, 17)) rfl (by decide) (by decide))) (by decide) (zl_Mlt HM (by decide)) rfl dh_X4_firstFree dn_X4_firstFree (Nat.le_of_ble_eq_true rfl) (Nat.le_of_ble_eq_true rfl) (Nat.le_of_ble_eq_true rfl) (zl_capM HM) rfl (fun w30 g30 => ?_)
        subst w30
        refine zg_istore_n (lv' := [(2, .int (nI a)), (0, .ref 156), (1, .int (za_bit z))]) dX4_commit_33 (by decide) rfl ?_
        refine zg_aload_n dX4_commit_34 rfl ?_
        refine zg_iload_n dX4_commit_35 rfl ?_
        refine zg_iconst (v := (-1)) dX4_commit_36 (by decide) ?_
        refine zg_icmp_ne (tgt := 44) dX4_commit_37 (by decide) (fun h37 => ?_) (fun h37 => ?_)
        · refine zg_iconst (v := nI 0) dX4_commit_44 (by decide) ?_
          refine zg_iconst (v := nI 1) dX4_commit_45 (by decide) ?_
          refine zg_vrt (M := zm_X4_commit) E (ci := 4) dX4_commit_46 (mt_fails (w := zw_I w J1) (z := false) (k := nI 1) E HM) wd_X4_102 rfl (congrArg Prod.fst (zl_Mat HM (k := 156) (t := (4, 17)) rfl (by decide) (by decide))) (by decide) (zl_Mlt HM (by decide)) rfl dh_X4_fails dn_X4_fails (Nat.le_of_ble_eq_true rfl) (Nat.le_of_ble_eq_true rfl) (Nat.le_of_ble_eq_true rfl) (zl_capM HM) rfl (fun w46 g46 => ?_)
          subst w46
          obtain ⟨J2, e2, r2, t2, f2⟩ := zu_th (w := w) r1 (nI 0)
          refine zg_w e2.symm ?_
          refine zg_if_eq (tgt := 54) dX4_commit_49 (by decide) (fun h49 => ?_) (fun h49 => ?_)
          · refine zg_iconst (v := nI 0) dX4_commit_54 (by decide) ?_
            refine zg_istore_n (lv' := [(3, .int (nI 0)), (2, .int (nI a)), (0, .ref 156), (1, .int (za_bit z))]) dX4_commit_55 (by decide) rfl ?_
            refine zg_l [0, 2, 3, 1] rfl ?_
            exact zg_s rfl rfl rfl (lm_c1 E HM ha hH h60 wL wC h0 (fun J h1 h2 => ⟨rfl, J, rfl, h1, zu_fs t2 h2, zu_frW (zu_frT (zu_frT f1 f2) h2)⟩) 17 0 J2 (by omega) (by omega) r2 (zu_frn [163, 164] [14]))
          · exact absurd rfl h49
        · exact absurd h37 (fun z => absurd (z ▸ nI_pos (by omega : a < 2 ^ 31)) (by decide))
      · exact absurd rfl h24
    · exact absurd h12 (by rw [decide_eq_true h0]; decide)

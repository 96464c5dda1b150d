/-! The class's leaves as steps of the state. -/
theorem zg_Cm {V : zv_V} {M : zg_M} {y : MethodName} {fr lc : Nat} {args : List Value} {w : zw_W} {o : zg_O} {P P' : zw_W → Prop} (h : zg_C V M y fr lc args w (zq_p o P)) (k : ∀ w', P w' → P' w') : zg_C V M y fr lc args w (zq_p o P') := by
  intro rm r1 r2 r3 r4
  refine (h rm r1 r2 r3 r4).mono (fun _ _ z => z) (fun _ _ _ _ _ z => z) ?_
  rintro a s o t - ⟨o', w', L, g1, g2, g3, g4⟩
  exact ⟨o', w', L, g1, g2, ⟨g3.1, k _ g3.2⟩, g4⟩
/-- the ints of the cells lo .. hi - 1 alone have changed, and P holds of them -/
def zr_to (w : zw_W) (lo hi : Nat) (P : (Nat → Nat → Int32) → Prop) (w' : zw_W) : Prop := ∃ J, w' = zw_I w J ∧ P J ∧ ∀ a, a < lo ∨ hi ≤ a → J a = zw_i w a
section ZXU
variable {I J : Nat → Nat → Int32} {D D' : Nat → Nat → Nat} {H H' : za_H} {b b' : Bool} {L L' S S' : za_T} {C C' : za_C}
theorem zr_Xd (h : zr_X I D H b L S C) (w : H.1 ≤ 77) (g : zr_D J D') (e : ∀ a, a < 3 ∨ 51 ≤ a → J a = I a) : zr_X J D' H b L S C :=
  ⟨g, zr_He h.2.1 w (fun a _ _ i => congrFun (e a (by omega)) i), (congrFun (e 1 (by omega)) 6).trans h.2.2.1, zr_Te h.2.2.2.1 (fun i => congrFun (e 131 (by omega)) i) (fun i => congrFun (e 132 (by omega)) i), zr_Te h.2.2.2.2.1 (fun i => congrFun (e 133 (by omega)) i) (fun i => congrFun (e 134 (by omega)) i), zr_Ce h.2.2.2.2.2 (fun a _ _ i => congrFun (e a (by omega)) i)⟩
theorem zr_Xh (h : zr_X I D H b L S C) (g : zr_H J H') (e : ∀ a, a < 51 ∨ 131 ≤ a → J a = I a) : zr_X J D H' b L S C :=
  ⟨zr_De h.1 (fun a _ _ i _ => congrFun (e a (by omega)) i), g, (congrFun (e 1 (by omega)) 6).trans h.2.2.1, zr_Te h.2.2.2.1 (fun i => congrFun (e 131 (by omega)) i) (fun i => congrFun (e 132 (by omega)) i), zr_Te h.2.2.2.2.1 (fun i => congrFun (e 133 (by omega)) i) (fun i => congrFun (e 134 (by omega)) i), zr_Ce h.2.2.2.2.2 (fun a _ _ i => congrFun (e a (by omega)) i)⟩
theorem zr_Xb (h : zr_X I D H b L S C) (w : H.1 ≤ 77) (g : J 1 6 = za_bit b') (e : ∀ a, a < 1 ∨ 2 ≤ a → J a = I a) : zr_X J D H b' L S C :=
  ⟨zr_De h.1 (fun a _ _ i _ => congrFun (e a (by omega)) i), zr_He h.2.1 w (fun a _ _ i => congrFun (e a (by omega)) i), g, zr_Te h.2.2.2.1 (fun i => congrFun (e 131 (by omega)) i) (fun i => congrFun (e 132 (by omega)) i), zr_Te h.2.2.2.2.1 (fun i => congrFun (e 133 (by omega)) i) (fun i => congrFun (e 134 (by omega)) i), zr_Ce h.2.2.2.2.2 (fun a _ _ i => congrFun (e a (by omega)) i)⟩
theorem zr_Xl (h : zr_X I D H b L S C) (w : H.1 ≤ 77) (g : zr_T 131 132 J L') (e : ∀ a, a < 131 ∨ 133 ≤ a → J a = I a) : zr_X J D H b L' S C :=
  ⟨zr_De h.1 (fun a _ _ i _ => congrFun (e a (by omega)) i), zr_He h.2.1 w (fun a _ _ i => congrFun (e a (by omega)) i), (congrFun (e 1 (by omega)) 6).trans h.2.2.1, g, zr_Te h.2.2.2.2.1 (fun i => congrFun (e 133 (by omega)) i) (fun i => congrFun (e 134 (by omega)) i), zr_Ce h.2.2.2.2.2 (fun a _ _ i => congrFun (e a (by omega)) i)⟩
theorem zr_Xs (h : zr_X I D H b L S C) (w : H.1 ≤ 77) (g : zr_T 133 134 J S') (e : ∀ a, a < 133 ∨ 135 ≤ a → J a = I a) : zr_X J D H b L S' C :=
  ⟨zr_De h.1 (fun a _ _ i _ => congrFun (e a (by omega)) i), zr_He h.2.1 w (fun a _ _ i => congrFun (e a (by omega)) i), (congrFun (e 1 (by omega)) 6).trans h.2.2.1, zr_Te h.2.2.2.1 (fun i => congrFun (e 131 (by omega)) i) (fun i => congrFun (e 132 (by omega)) i), g, zr_Ce h.2.2.2.2.2 (fun a _ _ i => congrFun (e a (by omega)) i)⟩
theorem zr_Xc (h : zr_X I D H b L S C) (w : H.1 ≤ 77) (g : zr_C J C') (e : ∀ a, a < 135 ∨ 155 ≤ a → J a = I a) : zr_X J D H b L S C' :=
  ⟨zr_De h.1 (fun a _ _ i _ => congrFun (e a (by omega)) i), zr_He h.2.1 w (fun a _ _ i => congrFun (e a (by omega)) i), (congrFun (e 1 (by omega)) 6).trans h.2.2.1, zr_Te h.2.2.2.1 (fun i => congrFun (e 131 (by omega)) i) (fun i => congrFun (e 132 (by omega)) i), zr_Te h.2.2.2.2.1 (fun i => congrFun (e 133 (by omega)) i) (fun i => congrFun (e 134 (by omega)) i), g⟩
theorem zr_Xf (h : zr_X I D H b L S C) (w : H.1 ≤ 77) (e : ∀ a, a < 155 ∨ 156 ≤ a → J a = I a) : zr_X J D H b L S C := zr_Xe h w (fun a _ _ i => congrFun (e a (by omega)) i)
end ZXU
theorem kt_close {V : zv_V} (E : zv_OK V) {w : zw_W} (HX : zl_X w) : zg_C V zm_X0_close yX0_close 1 23 [.ref 135] w (zq_p (.inl none) (zr_to w 135 155 (zr_C · za_C0))) := by
  refine zg_Cm (ct_close E HX) ?_
  rintro _ rfl
  dsimp only [zw_i, zw_si, zw_sa]
  refine ⟨_, rfl, ⟨fun p hp => ?_, ?_, fun p hp h => absurd rfl h⟩, fun a ha => ?_⟩
  · rw [zw_up_row _ _ _ (by decide), zw_ro_s, zs_win _ _ hp]
    rfl
  · rw [zw_up_s, za_n_0 (O := za_C0.1) (fun p _ => rfl)]
  · rw [zw_up_row _ _ _ (by omega), zw_ro_n _ _ (by omega)]
theorem kt_become {V : zv_V} (E : zv_OK V) {w : zw_W} (HX : zl_X w) {L : za_T} (hL : zr_T 131 132 (zw_i w) L) : zg_C V zm_X2_become yX2_become 1 100 [.ref 133, .ref 131] w (zq_p (.inl none) (zr_to w 133 135 (zr_T 133 134 · L))) := by
  refine zg_Cm (ct_become E HX) ?_
  rintro _ rfl
  dsimp only [zw_i, zw_si, zw_sa]
  refine ⟨_, rfl, ⟨fun p hp => ?_, ?_, ?_⟩, fun a ha => ?_⟩
  · rw [zw_up_row _ _ _ (by decide), zw_up_row _ _ _ (by decide), zw_ro_s, zs_win _ _ hp]
    exact hL.1 p hp
  · rw [zw_up_n _ _ (by decide), zw_up_s]
    exact hL.2.1
  · rw [zw_up_s]
    exact hL.2.2
  · rw [zw_up_row _ _ _ (by omega), zw_up_row _ _ _ (by omega), zw_ro_n _ _ (by omega)]
theorem kt_rowadd {V : zv_V} (E : zv_OK V) {w : zw_W} (HX : zl_X w) {H : za_H} {k t : Nat} {b : Nat → Nat} (hH : zr_H (zw_i w) H) (h77 : H.1 < 77) (ht : zw_t w k = (10, 16)) (hk : 1 ≤ k) (hkn : k < w.1) (hk2 : k < 51 ∨ 131 ≤ k) (hb : ∀ i, i < 16 → zw_i w k i = nI (b i)) :
    zg_C V zm_X1_add yX1_add 1 100 [.ref 51, .int (nI t), .ref k] w (zq_p (.inl none) (zr_to w 51 131 (zr_H · (za_hold H t b)))) := by
  refine zg_Cm (ct_rowadd E HX h77 hH.1 ht hk hkn) ?_
  rintro _ rfl
  dsimp only [zw_i, zw_si, zw_sa]
  refine ⟨_, rfl, ⟨?_, fun q hq => ?_, fun q hq i hi => ?_⟩, fun a ha => ?_⟩
  · rw [zw_up_s, zw_ro_n _ _ (by omega), zw_up_n _ _ (Or.inl (by decide))]
    exact (congrArg (· + nI 1) hH.1).trans (nI_1 H.1)
  · rw [zw_up_n _ _ (Or.inl (by decide)), zw_ro_n _ _ (by omega)]
    show zw_up w.2.2.2.2.1 52 H.1 (nI t) 52 q = nI (zw_ro H.2.1 H.1 t q)
    by_cases e : q = H.1
    · rw [e, zw_up_s, zw_ro_s]
    · rw [zw_up_n _ _ (Or.inr e), zw_ro_n _ _ e]
      exact hH.2.1 q (Nat.lt_of_le_of_ne (Nat.le_of_lt_succ hq) e)
  · rw [zw_up_n _ _ (Or.inl (by omega))]
    show zw_ro (zw_up w.2.2.2.2.1 52 H.1 (nI t)) (54 + H.1) _ (54 + q) i = nI (zw_ro H.2.2 H.1 b q i)
    by_cases e : q = H.1
    · rw [e, zw_ro_s, zw_ro_s, zs_win _ _ hi]
      show zw_up w.2.2.2.2.1 52 H.1 (nI t) k i = _
      rw [zw_up_n _ _ (Or.inl (by omega))]
      exact hb i hi
    · rw [zw_ro_n _ _ (by omega), zw_ro_n _ _ e, zw_up_n _ _ (Or.inl (by omega))]
      exact hH.2.2 q (Nat.lt_of_le_of_ne (Nat.le_of_lt_succ hq) e) i hi
  · rw [zw_up_row _ _ _ (by omega), zw_ro_n _ _ (by omega), zw_up_row _ _ _ (by omega)]
theorem kt_carry {V : zv_V} (E : zv_OK V) {w : zw_W} (HX : zl_X w) {D : Nat → Nat → Nat} {H : za_H} {k : Nat} (hD : zr_D (zw_i w) D) (hH : zr_H (zw_i w) H) (hW : za_WH H) (hk : k < H.1) :
    zg_C V zm_X1_carryOut yX1_carryOut 1 100 [.ref 51, .int (nI k), .ref 2] w (zq_p (.inl none) (zr_to w 3 51 (zr_D · (zw_ro D (H.2.1 k) (H.2.2 k))))) := by
  have h77 := hW.1
  have ht := hW.2.1 k hk
  refine zg_Cm (ct_carry E HX (by omega) ht (hH.2.1 k hk)) ?_
  rintro _ rfl
  dsimp only [zw_i, zw_si, zw_sa]
  refine ⟨_, rfl, fun s hs i hi => ?_, fun a ha => ?_⟩
  · by_cases e : s = H.2.1 k
    · rw [e, zw_ro_s, zw_ro_s, zs_win _ _ hi]
      exact hH.2.2 k hk i hi
    · rw [zw_ro_n _ _ (by omega), zw_ro_n _ _ e]
      exact hD s hs i hi
  · rw [zw_ro_n _ _ (by omega)]
/-- whether a held write is the master's -/
def za_z (H : za_H) : Nat → Bool
  | 0 => false
  | n + 1 => za_z H n || decide (H.2.1 n = 0)
def za_all (_ : Nat) : Bool := true
set_option maxHeartbeats 4000000 in
set_option maxRecDepth 100000 in
theorem lp_carryOutAll {V : zv_V} (E : zv_OK V) {w : zw_W} {n0 u0 : Nat} {Q : zg_O → zw_W → Prop} (HX : zl_X w) {D : Nat → Nat → Nat} {H : za_H} {b : Bool} {L S : za_T} {C : za_C} (hW : za_WH H) (hq : ∀ J, zr_X J (za_car D H za_all H.1) (0, H.2) b L (if za_z H H.1 then L else S) C → (∀ a, 156 ≤ a → J a = zw_i w a) → Q (.inl (some (.int (nI H.1)))) (zw_I w J)) : ∀ (n i : Nat) (J : Nat → Nat → Int32), i ≤ H.1 → H.1 + 1 ≤ i + n → zr_X J (za_car D H za_all i) H b L (if za_z H i then L else S) C → (∀ a, 156 ≤ a → J a = zw_i w a) → zg_G V zm_X3_carryOutAll 2 130 n0 u0 10 [] [(2, .int (nI i)), (1, .int (nI H.1)), (0, .ref 1)] (zw_I w J) Q := by
  intro n
  induction n with
  | zero =>
    intro i J hi hn
    exact absurd hn (by omega)
  | succ n ih =>
    intro i J hi hn k0 k1
    have h77 := hW.1
    refine zg_iload_n dX3_carryOutAll_10 rfl ?_
    refine zg_iload_n dX3_carryOutAll_11 rfl ?_
    refine zg_icmp_ge (tgt := 56) dX3_carryOutAll_12 (by decide) (fun h12 => ?_) (fun h12 => ?_)
    · obtain rfl : i = H.1 := by have := zn_ge h12 (by omega) (by omega); omega
      refine zg_aload_n dX3_carryOutAll_56 rfl ?_
      refine zg_getR E (ci := 3) (j := 1) (r := 51) dX3_carryOutAll_57 rfl (congrArg Prod.fst (zl_at HX (k := 1) (t := (3, 7)) rfl (by decide) (by decide))) (by decide) (zl_lt HX (by decide)) (by decide) fl_X3_17 rfl (zl_rf HX rfl (by decide) (by decide)) ?_
      refine zg_iconst (v := nI 0) dX3_carryOutAll_60 (by decide) ?_
      refine zg_putI E (ci := 1) (j := 2) dX3_carryOutAll_61 rfl (congrArg Prod.fst (zl_at HX (k := 51) (t := (1, 3)) rfl (by decide) (by decide))) (by decide) (zl_lt HX (by decide)) (by decide) fl_X3_86 rfl rfl rfl rfl ?_
      refine zg_iload_n dX3_carryOutAll_64 rfl ?_
      exact zg_iret rfl dX3_carryOutAll_65 (hq _ (zr_Xh k0 ⟨zw_up_s _ _ _ _, fun k hk => absurd hk (Nat.not_lt_zero k), fun k hk => absurd hk (Nat.not_lt_zero k)⟩ (fun a ha => zw_up_row _ _ _ (by omega))) (fun a ha => (zw_up_row _ _ _ (by omega)).trans (k1 a ha)))
    · have hlt : i < H.1 := zn_lt h12 (by omega) (by omega)
      refine zg_aload_n dX3_carryOutAll_15 rfl ?_
      refine zg_getR E (ci := 3) (j := 1) (r := 51) dX3_carryOutAll_16 rfl (congrArg Prod.fst (zl_at HX (k := 1) (t := (3, 7)) rfl (by decide) (by decide))) (by decide) (zl_lt HX (by decide)) (by decide) fl_X3_17 rfl (zl_rf HX rfl (by decide) (by decide)) ?_
      refine zg_iload_n dX3_carryOutAll_19 rfl ?_
      refine zg_aload_n dX3_carryOutAll_20 rfl ?_
      refine zg_getR E (ci := 3) (j := 0) (r := 2) dX3_carryOutAll_21 rfl (congrArg Prod.fst (zl_at HX (k := 1) (t := (3, 7)) rfl (by decide) (by decide))) (by decide) (zl_lt HX (by decide)) (by decide) fl_X3_11 rfl (zl_rf HX rfl (by decide) (by decide)) ?_
      refine zg_vrt (M := zm_X3_carryOutAll) E (ci := 1) dX3_carryOutAll_24 (kt_carry (w := zw_I w J) E HX k0.1 k0.2.1 hW hlt) wd_X3_124 rfl (congrArg Prod.fst (zl_at HX (k := 51) (t := (1, 3)) rfl (by decide) (by decide))) (by decide) (zl_lt HX (by decide)) rfl dh_X1_carryOut dn_X1_carryOut (Nat.le_of_ble_eq_true rfl) (Nat.le_of_ble_eq_true rfl) (Nat.le_of_ble_eq_true rfl) (zl_cap HX) rfl (fun w24 g24 => ?_)
      obtain ⟨J1, rfl, r1, f1⟩ := g24
      have hx1 := zr_Xd k0 hW.1 r1 f1
      have hF1 : ∀ a, 156 ≤ a → J1 a = zw_i w a := fun a ha => (f1 a (by omega)).trans (k1 a ha)
      refine zg_w (w' := zw_I w J1) rfl ?_
      refine zg_aload_n dX3_carryOutAll_27 rfl ?_
      refine zg_getR E (ci := 3) (j := 1) (r := 51) dX3_carryOutAll_28 rfl (congrArg Prod.fst (zl_at HX (k := 1) (t := (3, 7)) rfl (by decide) (by decide))) (by decide) (zl_lt HX (by decide)) (by decide) fl_X3_17 rfl (zl_rf HX rfl (by decide) (by decide)) ?_
      refine zg_getR E (ci := 1) (j := 0) (r := 52) dX3_carryOutAll_31 rfl (congrArg Prod.fst (zl_at HX (k := 51) (t := (1, 3)) rfl (by decide) (by decide))) (by decide) (zl_lt HX (by decide)) (by decide) fl_X3_154 rfl (zl_rf HX rfl (by decide) (by decide)) ?_
      refine zg_iload_n dX3_carryOutAll_34 rfl ?_
      refine zg_iald E (j := i) dX3_carryOutAll_35 (zl_at HX (k := 52) (t := (10, 77)) rfl (by decide) (by decide)) (by decide) (zl_lt HX (by decide)) rfl (by omega) (by decide) ?_
      refine zg_v (x' := nI (H.2.1 i)) (hx1.2.1.2.1 i hlt) ?_
      refine zg_if_ne (tgt := 50) dX3_carryOutAll_36 (by decide) (fun h36 => ?_) (fun h36 => ?_)
      · have hX1 : zr_X J1 (za_car D H za_all (i + 1)) H b L (if za_z H (i + 1) then L else S) C := by
          have e : H.2.1 i ≠ 0 := fun z => h36 (congrArg nI z)
          unfold za_z za_car
          simp only [e, decide_false, Bool.or_false]
          exact hx1
        refine zg_iinc (v := nI (i + 1)) (lv' := [(2, .int (nI (i + 1))), (1, .int (nI H.1)), (0, .ref 1)]) dX3_carryOutAll_50 rfl (nI_1 i) (by decide) rfl ?_
        refine zg_goto (tgt := 10) dX3_carryOutAll_53 (by decide) ?_
        refine zg_l [0, 1, 2] rfl ?_
        exact zg_s rfl rfl rfl (ih (i + 1) _ (by omega) (by omega) hX1 hF1)
      · have e : H.2.1 i = 0 := (nI_eq (by have := hW.2.1 i hlt; omega) (by decide)).mp h36
        refine zg_aload_n dX3_carryOutAll_39 rfl ?_
        refine zg_getR E (ci := 3) (j := 3) (r := 133) dX3_carryOutAll_40 rfl (congrArg Prod.fst (zl_at HX (k := 1) (t := (3, 7)) rfl (by decide) (by decide))) (by decide) (zl_lt HX (by decide)) (by decide) fl_X3_28 rfl (zl_rf HX rfl (by decide) (by decide)) ?_
        refine zg_aload_n dX3_carryOutAll_43 rfl ?_
        refine zg_getR E (ci := 3) (j := 2) (r := 131) dX3_carryOutAll_44 rfl (congrArg Prod.fst (zl_at HX (k := 1) (t := (3, 7)) rfl (by decide) (by decide))) (by decide) (zl_lt HX (by decide)) (by decide) fl_X3_24 rfl (zl_rf HX rfl (by decide) (by decide)) ?_
        refine zg_vrt (M := zm_X3_carryOutAll) E (ci := 2) dX3_carryOutAll_47 (kt_become (w := zw_I w J1) E HX hx1.2.2.2.1) wd_X3_210 rfl (congrArg Prod.fst (zl_at HX (k := 133) (t := (2, 3)) rfl (by decide) (by decide))) (by decide) (zl_lt HX (by decide)) rfl dh_X2_become dn_X2_become (Nat.le_of_ble_eq_true rfl) (Nat.le_of_ble_eq_true rfl) (Nat.le_of_ble_eq_true rfl) (zl_cap HX) rfl (fun w47 g47 => ?_)
        obtain ⟨J2, rfl, r2, f2⟩ := g47
        have hX2 : zr_X J2 (za_car D H za_all (i + 1)) H b L (if za_z H (i + 1) then L else S) C := by
          unfold za_z za_car
          rw [show (za_z H i || decide (H.2.1 i = 0)) = true by rw [e]; simp, if_pos rfl]
          exact zr_Xs hx1 hW.1 r2 f2
        have hF2 : ∀ a, 156 ≤ a → J2 a = zw_i w a := fun a ha => (f2 a (by omega)).trans (hF1 a ha)
        refine zg_w (w' := zw_I w J2) rfl ?_
        refine zg_iinc (v := nI (i + 1)) (lv' := [(2, .int (nI (i + 1))), (1, .int (nI H.1)), (0, .ref 1)]) dX3_carryOutAll_50 rfl (nI_1 i) (by decide) rfl ?_
        refine zg_goto (tgt := 10) dX3_carryOutAll_53 (by decide) ?_
        refine zg_l [0, 1, 2] rfl ?_
        exact zg_s rfl rfl rfl (ih (i + 1) _ (by omega) (by omega) hX2 hF2)
set_option maxHeartbeats 4000000 in
set_option maxRecDepth 100000 in
theorem kt_carryOutAll {V : zv_V} (E : zv_OK V) {w : zw_W} (HX : zl_X w) {D : Nat → Nat → Nat} {H : za_H} {b : Bool} {L S : za_T} {C : za_C} (hX : zr_X (zw_i w) D H b L S C) (hW : za_WH H) : zg_C V zm_X3_carryOutAll yX3_carryOutAll 2 130 [.ref 1] w (zq_p (.inl (some (.int (nI H.1)))) (zr_to w 0 156 (zr_X · (za_car D H za_all H.1) (0, H.2) b L (if za_z H H.1 then L else S) C))) := by
  refine zg_of (by decide +kernel) rfl (Nat.le_of_ble_eq_true rfl) ?_
  show zg_G V zm_X3_carryOutAll 2 130 w.1 w.2.1 0 [] [(0, .ref 1)] w _
  refine zg_aload_n dX3_carryOutAll_0 rfl ?_
  refine zg_getR E (ci := 3) (j := 1) (r := 51) dX3_carryOutAll_1 rfl (congrArg Prod.fst (zl_at HX (k := 1) (t := (3, 7)) rfl (by decide) (by decide))) (by decide) (zl_lt HX (by decide)) (by decide) fl_X3_17 rfl (zl_rf HX rfl (by decide) (by decide)) ?_
  refine zg_getI E (ci := 1) (j := 2) dX3_carryOutAll_4 rfl (congrArg Prod.fst (zl_at HX (k := 51) (t := (1, 3)) rfl (by decide) (by decide))) (by decide) (zl_lt HX (by decide)) (by decide) fl_X3_86 rfl ?_
  refine zg_v (x' := nI H.1) hX.2.1.1 ?_
  refine zg_istore_n (lv' := [(1, .int (nI H.1)), (0, .ref 1)]) dX3_carryOutAll_7 (by decide) rfl ?_
  refine zg_iconst (v := nI 0) dX3_carryOutAll_8 (by decide) ?_
  refine zg_istore_n (lv' := [(2, .int (nI 0)), (1, .int (nI H.1)), (0, .ref 1)]) dX3_carryOutAll_9 (by decide) rfl ?_
  refine zg_l [0, 1, 2] rfl ?_
  exact zg_s rfl rfl rfl (lp_carryOutAll E HX hW (fun J h1 h2 => ⟨rfl, J, rfl, h1, fun a ha => (ha.elim (fun z => absurd z (Nat.not_lt_zero _)) (h2 a) : J a = zw_i w a)⟩) (H.1 + 1) 0 (zw_i w) (by omega) (by omega) hX (fun a _ => rfl))

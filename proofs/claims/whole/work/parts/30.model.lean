/-! The reference's mount. -/
theorem zu_m0 {I K : Nat → Nat → Int32} {D : Nat → Nat → Nat} {H : za_H} {b : Bool} {L S : za_T} {C : za_C} {t : Bool} (h : zu_X I D H b L S C t) (e : K = zw_up (zw_up (zw_up (zw_up I 156 14 (nI 0)) 156 15 (nI 0)) 156 8 (nI 0)) 156 7 (nI 1)) : zu_X K D (0, H.2) true L S za_C0 false ∧ zu_fr [] [7, 8, 14, 15] I K := by
  subst e
  have F := zu_frT (zu_frT (zu_frT (zu_frS I 14 (nI 0)) (zu_frS _ 15 (nI 0))) (zu_frS _ 8 (nI 0))) (zu_frS _ 7 (nI 1))
  refine ⟨⟨zu_fD h.1 F, ⟨?_, fun k hk => absurd hk (Nat.not_lt_zero k), fun k hk => absurd hk (Nat.not_lt_zero k)⟩, zw_up_s _ _ _ _, zu_fL h.2.2.2.1 F, zu_fS h.2.2.2.2.1 F, ⟨?_, fun o => absurd o (by rw [za_n_0 (O := za_C0.1) (fun _ _ => rfl)]; decide), fun p _ e => absurd rfl e⟩, ?_⟩, zu_frW F⟩
  · rw [zw_up_n _ _ (by decide), zw_up_n _ _ (by decide), zw_up_n _ _ (by decide), zw_up_s]
  · rw [zw_up_n _ _ (by decide), zw_up_s, za_n_0 (O := za_C0.1) (fun _ _ => rfl)]
    rfl
  · rw [zw_up_n _ _ (by decide), zw_up_n _ _ (by decide), zw_up_s]
    rfl
theorem zu_ml {J0 J K : Nat → Nat → Int32} {D : Nat → Nat → Nat} {H : za_H} {L S : za_T} (r0 : zu_X J0 D (0, H.2) true L S za_C0 false) (f : zu_fr [158] [3, 5, 7] J0 J) (k1 : J 156 7 = za_bit false) (kf : zu_fr [159] [4, 6, 15] J K) (ks : zu_S K (za_mt D)) (kt : K 156 15 = nI 0) (kl : zu_L J (za_mt D)) : zu_X K D (0, H.2) false (za_mt D) (za_mt D) za_C0 false :=
  ⟨zu_fD (zu_fD r0.1 f) kf, zu_fH (zu_fH r0.2.1 f) kf, zu_fs k1 kf, zu_fL kl kf, ks, zu_fC (zu_fC r0.2.2.2.2.2.1 f) kf, kt⟩
def zu_tr (D : Nat → Nat → Nat) (i : Nat) : Prop := ∀ p, p < i → D (D 0 4) p < 48 ∧ D (D 0 4) p ≠ D 0 4 ∧ (D (D 0 4) p ≠ 0 → ∀ q, q < p → D (D 0 4) q ≠ D (D 0 4) p)
set_option maxHeartbeats 4000000 in
set_option maxRecDepth 100000 in
theorem lm_m1 {V : zv_V} (E : zv_OK V) {w : zw_W} {n0 u0 : Nat} {Q : zg_O → zw_W → Prop} (HM : zl_M w) {D : Nat → Nat → Nat} {H : za_H} {L S : za_T} {c : Int32} (hW : za_WD D) {J0 : Nat → Nat → Int32} (r0 : zu_X J0 D (0, H.2) true L S za_C0 false) (hqn : ¬ (za_mr D ∧ za_tr D) → Q (.inl none) (zw_I w J0)) (hqy : za_mr D → za_tr D → ∀ J, zu_X J D (0, H.2) false (za_mt D) (za_mt D) za_C0 false → zu_fr [158, 159] [3, 4, 5, 6, 7, 15] J0 J → Q (.inl none) (zw_I w J)) (h1 : za_mr D) (h2 : za_tr D)  : ∀ (n i : Nat) (J : Nat → Nat → Int32), i ≤ 16 → 16 + 1 ≤ i + n → (∀ j, j < i → J 158 j = nI (D (D 0 4) j)) → J 156 3 = nI (D 0 4) → J 156 5 = za_gen D → J 156 7 = za_bit false → zu_fr [158] [3, 5, 7] J0 J → zg_G V zm_X4_mount 1 30 n0 u0 233 [] [(3, .int (nI i)), (0, .ref 156), (1, .int c), (2, .int (nI (D 0 4)))] (zw_I w J) Q := by
  intro nn
  induction nn with
  | zero =>
    intro i J hii hnn
    exact absurd hnn (by omega)
  | succ nn ih =>
    intro i J hii hnn k0 k1 k2 k3 k4
    have h48 := h2.2.1
    refine zg_iload_n dX4_mount_233 rfl ?_
    refine zg_bipush (v := nI 16) dX4_mount_234 (by decide) ?_
    refine zg_icmp_ge (tgt := 262) dX4_mount_236 (by decide) (fun h236 => ?_) (fun h236 => ?_)
    · obtain rfl : i = 16 := by have := zn_ge h236 (by omega) (by omega); omega
      refine zg_aload_n dX4_mount_262 rfl ?_
      refine zg_vrt (M := zm_X4_mount) E (ci := 4) dX4_mount_263 (mt_settle (w := zw_I w J) (L := za_mt D) E HM ⟨k0, k1, k2⟩) wd_X4_77 rfl (congrArg Prod.fst (zl_Mat HM (k := 156) (t := (4, 17)) rfl (by decide) (by decide))) (by decide) (zl_Mlt HM (by decide)) rfl dh_X4_settle dn_X4_settle (Nat.le_of_ble_eq_true rfl) (Nat.le_of_ble_eq_true rfl) (Nat.le_of_ble_eq_true rfl) (zl_capM HM) rfl (fun w263 g263 => ?_)
      obtain ⟨J5, rfl, r5, f5⟩ := g263
      refine zg_w (w' := zw_I w J5) rfl ?_
      exact zg_vret rfl dX4_mount_266 (hqy h1 h2 J5 (zu_ml r0 k4 k3 f5 r5.1 r5.2 ⟨k0, k1, k2⟩) (zu_frW (zu_frT k4 f5)))
    · have hlt : i < 16 := zn_lt h236 (by omega) (by omega)
      refine zg_aload_n dX4_mount_239 rfl ?_
      refine zg_getR E (ci := 4) (j := 1) (r := 158) dX4_mount_240 rfl (congrArg Prod.fst (zl_Mat HM (k := 156) (t := (4, 17)) rfl (by decide) (by decide))) (by decide) (zl_Mlt HM (by decide)) (by decide) fl_X4_13 rfl (zl_Mrf HM rfl (by decide) (by decide)) ?_
      refine zg_iload_n dX4_mount_243 rfl ?_
      refine zg_aload_n dX4_mount_244 rfl ?_
      refine zg_getR E (ci := 4) (j := 0) (r := 157) dX4_mount_245 rfl (congrArg Prod.fst (zl_Mat HM (k := 156) (t := (4, 17)) rfl (by decide) (by decide))) (by decide) (zl_Mlt HM (by decide)) (by decide) fl_X4_7 rfl (zl_Mrf HM rfl (by decide) (by decide)) ?_
      refine zg_bipush (v := nI 16) dX4_mount_248 (by decide) ?_
      refine zg_iload_n dX4_mount_250 rfl ?_
      refine zg_imul dX4_mount_251 ?_
      refine zg_v (x' := nI (16 * (D 0 4))) (pk_mul _ _) ?_
      refine zg_iload_n dX4_mount_252 rfl ?_
      refine zg_iadd dX4_mount_253 ?_
      refine zg_v (x' := nI ((16 * (D 0 4)) + i)) (nI_add _ _) ?_
      refine zg_iald E (j := (16 * (D 0 4)) + i) dX4_mount_254 (zl_Mat HM (k := 157) (t := (10, 768)) rfl (by decide) (by decide)) (by decide) (zl_Mlt HM (by decide)) rfl (by omega) (by decide) ?_
      refine zg_v (x' := nI (D (D 0 4) i)) ((zu_fD r0.1 k4) (D 0 4) h2.2.1 i hlt) ?_
      refine zg_iast E (j := i) dX4_mount_255 (zl_Mat HM (k := 158) (t := (10, 16)) rfl (by decide) (by decide)) (by decide) (zl_Mlt HM (by decide)) rfl (by omega) (by decide) ?_
      refine zg_iinc (v := nI (i + 1)) (lv' := [(3, .int (nI (i + 1))), (0, .ref 156), (1, .int c), (2, .int (nI (D 0 4)))]) dX4_mount_256 rfl (nI_1 i) (by decide) rfl ?_
      refine zg_goto (tgt := 233) dX4_mount_259 (by decide) ?_
      refine zg_l [0, 1, 2, 3] rfl ?_
      exact zg_s rfl rfl rfl (ih (i + 1) _ (by omega) (by omega) (fun j hj => (Nat.lt_or_ge j i).elim (fun z => (zw_up_n _ _ (Or.inr (by omega))).trans (k0 j z)) (fun z => by have e : j = i := (by omega); subst e; exact zw_up_s _ _ _ _)) ((zw_up_n _ _ (Or.inl (by decide))).trans k1) ((zw_up_n _ _ (Or.inl (by decide))).trans k2) ((zw_up_n _ _ (Or.inl (by decide))).trans k3) (fun a j h1 h2 => (zw_up_n _ _ (Or.inl (fun z => h1 (by rw [z]; decide)))).trans (k4 a j h1 h2)))
set_option maxHeartbeats 4000000 in
set_option maxRecDepth 100000 in
theorem lm_m2 {V : zv_V} (E : zv_OK V) {w : zw_W} {n0 u0 : Nat} {Q : zg_O → zw_W → Prop} (HM : zl_M w) {D : Nat → Nat → Nat} {H : za_H} {L S : za_T} {c : Int32} (hW : za_WD D) {J0 : Nat → Nat → Int32} (r0 : zu_X J0 D (0, H.2) true L S za_C0 false) (hqn : ¬ (za_mr D ∧ za_tr D) → Q (.inl none) (zw_I w J0)) (hqy : za_mr D → za_tr D → ∀ J, zu_X J D (0, H.2) false (za_mt D) (za_mt D) za_C0 false → zu_fr [158, 159] [3, 4, 5, 6, 7, 15] J0 J → Q (.inl none) (zw_I w J)) {p : Nat} (hp : p < 16) (ha : D 0 4 < 48) (hk : (D (D 0 4) p ≠ 0 → ∀ j, j < p → D (D 0 4) j ≠ D (D 0 4) p) → zg_G V zm_X4_mount 1 30 n0 u0 175 [] [(3, .int (nI p)), (0, .ref 156), (1, .int c), (2, .int (nI (D 0 4)))] (zw_I w J0) Q)  : ∀ (n i : Nat) , i ≤ p → p + 1 ≤ i + n → (D (D 0 4) p ≠ 0 → ∀ j, j < i → D (D 0 4) j ≠ D (D 0 4) p) → zg_G V zm_X4_mount 1 30 n0 u0 140 [] [(5, .int (nI i)), (4, .int (nI (D (D 0 4) p))), (3, .int (nI p)), (0, .ref 156), (1, .int c), (2, .int (nI (D 0 4)))] (zw_I w J0) Q := by
  intro nn
  induction nn with
  | zero =>
    intro i hii hnn
    exact absurd hnn (by omega)
  | succ nn ih =>
    intro i hii hnn k0
    refine zg_iload dX4_mount_140 rfl ?_
    refine zg_iload_n dX4_mount_142 rfl ?_
    refine zg_icmp_ge (tgt := 175) dX4_mount_143 (by decide) (fun h143 => ?_) (fun h143 => ?_)
    · obtain rfl : i = p := by have := zn_ge h143 (by omega) (by omega); omega
      refine zg_l [2, 3, 4, 5] rfl ?_
      exact hk k0
    · have hlt : i < p := zn_lt h143 (by omega) (by omega)
      refine zg_iload dX4_mount_146 rfl ?_
      refine zg_if_eq (tgt := 169) dX4_mount_148 (by decide) (fun h148 => ?_) (fun h148 => ?_)
      · have hne : D (D 0 4) p ≠ 0 → D (D 0 4) i ≠ D (D 0 4) p := fun z => absurd ((nI_eq (by have := hW _ ha p hp; omega) (by decide)).mp h148) z
        refine zg_iinc (v := nI (i + 1)) (lv' := [(5, .int (nI (i + 1))), (4, .int (nI (D (D 0 4) p))), (3, .int (nI p)), (0, .ref 156), (1, .int c), (2, .int (nI (D 0 4)))]) dX4_mount_169 rfl (nI_1 i) (by decide) rfl ?_
        refine zg_goto (tgt := 140) dX4_mount_172 (by decide) ?_
        refine zg_l [0, 1, 2, 3, 4, 5] rfl ?_
        exact zg_s rfl rfl rfl (ih (i + 1) (by omega) (by omega) (fun h0 j hj => (Nat.lt_or_ge j i).elim (k0 h0 j) (fun z => (show j = i by omega) ▸ hne h0)))
      · have hs0 : D (D 0 4) p ≠ 0 := fun z => h148 (congrArg nI z)
        refine zg_aload_n dX4_mount_151 rfl ?_
        refine zg_getR E (ci := 4) (j := 0) (r := 157) dX4_mount_152 rfl (congrArg Prod.fst (zl_Mat HM (k := 156) (t := (4, 17)) rfl (by decide) (by decide))) (by decide) (zl_Mlt HM (by decide)) (by decide) fl_X4_7 rfl (zl_Mrf HM rfl (by decide) (by decide)) ?_
        refine zg_bipush (v := nI 16) dX4_mount_155 (by decide) ?_
        refine zg_iload_n dX4_mount_157 rfl ?_
        refine zg_imul dX4_mount_158 ?_
        refine zg_v (x' := nI (16 * (D 0 4))) (pk_mul _ _) ?_
        refine zg_iload dX4_mount_159 rfl ?_
        refine zg_iadd dX4_mount_161 ?_
        refine zg_v (x' := nI ((16 * (D 0 4)) + i)) (nI_add _ _) ?_
        refine zg_iald E (j := (16 * (D 0 4)) + i) dX4_mount_162 (zl_Mat HM (k := 157) (t := (10, 768)) rfl (by decide) (by decide)) (by decide) (zl_Mlt HM (by decide)) rfl (by omega) (by decide) ?_
        refine zg_v (x' := nI (D (D 0 4) i)) (r0.1 (D 0 4) ha i (by omega)) ?_
        refine zg_iload dX4_mount_163 rfl ?_
        refine zg_icmp_ne (tgt := 169) dX4_mount_165 (by decide) (fun h165 => ?_) (fun h165 => ?_)
        · have hne : D (D 0 4) p ≠ 0 → D (D 0 4) i ≠ D (D 0 4) p := fun _ z => h165 (congrArg nI z)
          refine zg_iinc (v := nI (i + 1)) (lv' := [(5, .int (nI (i + 1))), (4, .int (nI (D (D 0 4) p))), (3, .int (nI p)), (0, .ref 156), (1, .int c), (2, .int (nI (D 0 4)))]) dX4_mount_169 rfl (nI_1 i) (by decide) rfl ?_
          refine zg_goto (tgt := 140) dX4_mount_172 (by decide) ?_
          refine zg_l [0, 1, 2, 3, 4, 5] rfl ?_
          exact zg_s rfl rfl rfl (ih (i + 1) (by omega) (by omega) (fun h0 j hj => (Nat.lt_or_ge j i).elim (k0 h0 j) (fun z => (show j = i by omega) ▸ hne h0)))
        · have he : D (D 0 4) i = D (D 0 4) p := (nI_eq (by have := hW _ ha i (by omega); omega) (by have := hW _ ha p hp; omega)).mp h165
          exact zg_vret rfl dX4_mount_168 (hqn (fun z => (z.2.2.2 p hp).2.2 hs0 i hlt he))
set_option maxHeartbeats 400000 in
set_option maxRecDepth 100000 in
theorem lm_m3 {V : zv_V} (E : zv_OK V) {w : zw_W} {n0 u0 : Nat} {Q : zg_O → zw_W → Prop} (HM : zl_M w) {D : Nat → Nat → Nat} {H : za_H} {L S : za_T} {c : Int32} (hW : za_WD D) {J0 : Nat → Nat → Int32} (r0 : zu_X J0 D (0, H.2) true L S za_C0 false) (hqn : ¬ (za_mr D ∧ za_tr D) → Q (.inl none) (zw_I w J0)) (hqy : za_mr D → za_tr D → ∀ J, zu_X J D (0, H.2) false (za_mt D) (za_mt D) za_C0 false → zu_fr [158, 159] [3, 4, 5, 6, 7, 15] J0 J → Q (.inl none) (zw_I w J)) (h1 : za_mr D) (g1 : 1 ≤ D 0 4) (ha : D 0 4 < 48)  : ∀ (n i : Nat) , i ≤ 16 → 16 + 1 ≤ i + n → zu_tr D i → zg_G V zm_X4_mount 1 30 n0 u0 104 [] [(3, .int (nI i)), (0, .ref 156), (1, .int c), (2, .int (nI (D 0 4)))] (zw_I w J0) Q := by
  intro nn
  induction nn with
  | zero =>
    intro i hii hnn
    exact absurd hnn (by omega)
  | succ nn ih =>
    intro i hii hnn k0
    refine zg_iload_n dX4_mount_104 rfl ?_
    refine zg_bipush (v := nI 16) dX4_mount_105 (by decide) ?_
    refine zg_icmp_ge (tgt := 181) dX4_mount_107 (by decide) (fun h107 => ?_) (fun h107 => ?_)
    · obtain rfl : i = 16 := by have := zn_ge h107 (by omega) (by omega); omega
      have htr : za_tr D := ⟨g1, ha, k0⟩
      have hdk : ∀ j, j < 16 → zw_up (zw_up J0 156 7 (nI 0)) 156 3 (nI (D 0 4)) 157 j = nI (D 0 j) := fun j hj => (zw_up_n _ _ (Or.inl (by decide))).trans ((zw_up_n _ _ (Or.inl (by decide))).trans ((congrArg (J0 157) (by omega : j = 16 * 0 + j)).trans (r0.1 0 (by omega) j hj)))
      refine zg_aload_n dX4_mount_181 rfl ?_
      refine zg_iconst (v := nI 0) dX4_mount_182 (by decide) ?_
      refine zg_putI E (ci := 4) (j := 7) dX4_mount_183 rfl (congrArg Prod.fst (zl_Mat HM (k := 156) (t := (4, 17)) rfl (by decide) (by decide))) (by decide) (zl_Mlt HM (by decide)) (by decide) fl_X4_64 rfl rfl rfl rfl ?_
      refine zg_aload_n dX4_mount_186 rfl ?_
      refine zg_iload_n dX4_mount_187 rfl ?_
      refine zg_putI E (ci := 4) (j := 3) dX4_mount_188 rfl (congrArg Prod.fst (zl_Mat HM (k := 156) (t := (4, 17)) rfl (by decide) (by decide))) (by decide) (zl_Mlt HM (by decide)) (by decide) fl_X4_71 rfl rfl rfl rfl ?_
      refine zg_aload_n dX4_mount_191 rfl ?_
      refine zg_aload_n dX4_mount_192 rfl ?_
      refine zg_getR E (ci := 4) (j := 0) (r := 157) dX4_mount_193 rfl (congrArg Prod.fst (zl_Mat HM (k := 156) (t := (4, 17)) rfl (by decide) (by decide))) (by decide) (zl_Mlt HM (by decide)) (by decide) fl_X4_7 rfl (zl_Mrf HM rfl (by decide) (by decide)) ?_
      refine zg_iconst (v := nI 0) dX4_mount_196 (by decide) ?_
      refine zg_iald E (j := 0) dX4_mount_197 (zl_Mat HM (k := 157) (t := (10, 768)) rfl (by decide) (by decide)) (by decide) (zl_Mlt HM (by decide)) rfl (by omega) (by decide) ?_
      refine zg_v (x' := nI (D 0 0)) (hdk 0 (by omega)) ?_
      refine zg_bipush (v := nI 24) dX4_mount_198 (by decide) ?_
      refine zg_ishl dX4_mount_200 ?_
      refine zg_aload_n dX4_mount_201 rfl ?_
      refine zg_getR E (ci := 4) (j := 0) (r := 157) dX4_mount_202 rfl (congrArg Prod.fst (zl_Mat HM (k := 156) (t := (4, 17)) rfl (by decide) (by decide))) (by decide) (zl_Mlt HM (by decide)) (by decide) fl_X4_7 rfl (zl_Mrf HM rfl (by decide) (by decide)) ?_
      refine zg_iconst (v := nI 1) dX4_mount_205 (by decide) ?_
      refine zg_iald E (j := 1) dX4_mount_206 (zl_Mat HM (k := 157) (t := (10, 768)) rfl (by decide) (by decide)) (by decide) (zl_Mlt HM (by decide)) rfl (by omega) (by decide) ?_
      refine zg_v (x' := nI (D 0 1)) (hdk 1 (by omega)) ?_
      refine zg_bipush (v := nI 16) dX4_mount_207 (by decide) ?_
      refine zg_ishl dX4_mount_209 ?_
      refine zg_ior dX4_mount_210 ?_
      refine zg_aload_n dX4_mount_211 rfl ?_
      refine zg_getR E (ci := 4) (j := 0) (r := 157) dX4_mount_212 rfl (congrArg Prod.fst (zl_Mat HM (k := 156) (t := (4, 17)) rfl (by decide) (by decide))) (by decide) (zl_Mlt HM (by decide)) (by decide) fl_X4_7 rfl (zl_Mrf HM rfl (by decide) (by decide)) ?_
      refine zg_iconst (v := nI 2) dX4_mount_215 (by decide) ?_
      refine zg_iald E (j := 2) dX4_mount_216 (zl_Mat HM (k := 157) (t := (10, 768)) rfl (by decide) (by decide)) (by decide) (zl_Mlt HM (by decide)) rfl (by omega) (by decide) ?_
      refine zg_v (x' := nI (D 0 2)) (hdk 2 (by omega)) ?_
      refine zg_bipush (v := nI 8) dX4_mount_217 (by decide) ?_
      refine zg_ishl dX4_mount_219 ?_
      refine zg_ior dX4_mount_220 ?_
      refine zg_aload_n dX4_mount_221 rfl ?_
      refine zg_getR E (ci := 4) (j := 0) (r := 157) dX4_mount_222 rfl (congrArg Prod.fst (zl_Mat HM (k := 156) (t := (4, 17)) rfl (by decide) (by decide))) (by decide) (zl_Mlt HM (by decide)) (by decide) fl_X4_7 rfl (zl_Mrf HM rfl (by decide) (by decide)) ?_
      refine zg_iconst (v := nI 3) dX4_mount_225 (by decide) ?_
      refine zg_iald E (j := 3) dX4_mount_226 (zl_Mat HM (k := 157) (t := (10, 768)) rfl (by decide) (by decide)) (by decide) (zl_Mlt HM (by decide)) rfl (by omega) (by decide) ?_
      refine zg_v (x' := nI (D 0 3)) (hdk 3 (by omega)) ?_
      refine zg_ior dX4_mount_227 ?_
      refine zg_v (x' := za_gen D) rfl ?_
      refine zg_putI E (ci := 4) (j := 5) dX4_mount_228 rfl (congrArg Prod.fst (zl_Mat HM (k := 156) (t := (4, 17)) rfl (by decide) (by decide))) (by decide) (zl_Mlt HM (by decide)) (by decide) fl_X4_74 rfl rfl rfl rfl ?_
      refine zg_iconst (v := nI 0) dX4_mount_231 (by decide) ?_
      refine zg_istore_n (lv' := [(3, .int (nI 0)), (0, .ref 156), (1, .int c), (2, .int (nI (D 0 4)))]) dX4_mount_232 (by decide) rfl ?_
      refine zg_l [0, 1, 2, 3] rfl ?_
      exact zg_s rfl rfl rfl (lm_m1 (c := c) E HM hW r0 hqn hqy h1 htr 17 0 (zw_up (zw_up (zw_up J0 156 7 (nI 0)) 156 3 (nI (D 0 4))) 156 5 (za_gen D)) (by omega) (by omega) (fun j hj => absurd hj (Nat.not_lt_zero j)) ((zw_up_n _ _ (by decide)).trans (zw_up_s _ _ _ _)) (zw_up_s _ _ _ _) ((zw_up_n _ _ (by decide)).trans ((zw_up_n _ _ (by decide)).trans (zw_up_s _ _ _ _))) (zu_frW (zu_frT (zu_frT (zu_frS J0 7 _) (zu_frS _ 3 _)) (zu_frS _ 5 _))))
    · have hlt : i < 16 := zn_lt h107 (by omega) (by omega)
      have hb := hW _ ha i hlt
      refine zg_aload_n dX4_mount_110 rfl ?_
      refine zg_getR E (ci := 4) (j := 0) (r := 157) dX4_mount_111 rfl (congrArg Prod.fst (zl_Mat HM (k := 156) (t := (4, 17)) rfl (by decide) (by decide))) (by decide) (zl_Mlt HM (by decide)) (by decide) fl_X4_7 rfl (zl_Mrf HM rfl (by decide) (by decide)) ?_
      refine zg_bipush (v := nI 16) dX4_mount_114 (by decide) ?_
      refine zg_iload_n dX4_mount_116 rfl ?_
      refine zg_imul dX4_mount_117 ?_
      refine zg_v (x' := nI (16 * (D 0 4))) (pk_mul _ _) ?_
      refine zg_iload_n dX4_mount_118 rfl ?_
      refine zg_iadd dX4_mount_119 ?_
      refine zg_v (x' := nI ((16 * (D 0 4)) + i)) (nI_add _ _) ?_
      refine zg_iald E (j := (16 * (D 0 4)) + i) dX4_mount_120 (zl_Mat HM (k := 157) (t := (10, 768)) rfl (by decide) (by decide)) (by decide) (zl_Mlt HM (by decide)) rfl (by omega) (by decide) ?_
      refine zg_v (x' := nI (D (D 0 4) i)) (r0.1 (D 0 4) ha i hlt) ?_
      refine zg_istore (lv' := [(4, .int (nI (D (D 0 4) i))), (3, .int (nI i)), (0, .ref 156), (1, .int c), (2, .int (nI (D 0 4)))]) dX4_mount_121 (by decide) rfl ?_
      refine zg_iload dX4_mount_123 rfl ?_
      refine zg_bipush (v := nI 48) dX4_mount_125 (by decide) ?_
      refine zg_icmp_ge (tgt := 136) dX4_mount_127 (by decide) (fun h127 => ?_) (fun h127 => ?_)
      · have hn : ¬ (za_mr D ∧ za_tr D) := fun z => absurd (z.2.2.2 i hlt).1 (by have := zn_ge h127 (by omega) (by omega); omega)
        exact zg_vret rfl dX4_mount_136 (hqn hn)
      · have hs : D (D 0 4) i < 48 := zn_lt h127 (by omega) (by omega)
        refine zg_iload dX4_mount_130 rfl ?_
        refine zg_iload_n dX4_mount_132 rfl ?_
        refine zg_icmp_ne (tgt := 137) dX4_mount_133 (by decide) (fun h133 => ?_) (fun h133 => ?_)
        · have hne : D (D 0 4) i ≠ D 0 4 := fun z => h133 (congrArg nI z)
          refine zg_iconst (v := nI 0) dX4_mount_137 (by decide) ?_
          refine zg_istore (lv' := [(5, .int (nI 0)), (4, .int (nI (D (D 0 4) i))), (3, .int (nI i)), (0, .ref 156), (1, .int c), (2, .int (nI (D 0 4)))]) dX4_mount_138 (by decide) rfl ?_
          refine zg_l [0, 1, 2, 3, 4, 5] rfl ?_
          refine zg_s rfl rfl rfl (lm_m2 (c := c) E HM hW r0 hqn hqy hlt ha (fun hd => ?_) (i + 1) 0 (by omega) (by omega) (fun _ j hj => absurd hj (Nat.not_lt_zero j)))
          refine zg_iinc (v := nI (i + 1)) (lv' := [(3, .int (nI (i + 1))), (0, .ref 156), (1, .int c), (2, .int (nI (D 0 4)))]) dX4_mount_175 rfl (nI_1 i) (by decide) rfl ?_
          refine zg_goto (tgt := 104) dX4_mount_178 (by decide) ?_
          refine zg_l [0, 1, 2, 3] rfl ?_
          exact zg_s rfl rfl rfl (ih (i + 1) (by omega) (by omega) (fun p hp => (Nat.lt_or_ge p i).elim (k0 p) (fun z => by have e : p = i := (by omega); subst e; exact ⟨hs, hne, hd⟩)))
        · have hn : ¬ (za_mr D ∧ za_tr D) := fun z => (z.2.2.2 i hlt).2.1 ((nI_eq (by omega) (by omega)).mp h133)
          exact zg_vret rfl dX4_mount_136 (hqn hn)
set_option maxHeartbeats 4000000 in
set_option maxRecDepth 100000 in
theorem lm_m4 {V : zv_V} (E : zv_OK V) {w : zw_W} {n0 u0 : Nat} {Q : zg_O → zw_W → Prop} (HM : zl_M w) {D : Nat → Nat → Nat} {H : za_H} {L S : za_T} {c : Int32} (hW : za_WD D) {J0 : Nat → Nat → Int32} (r0 : zu_X J0 D (0, H.2) true L S za_C0 false) (hqn : ¬ (za_mr D ∧ za_tr D) → Q (.inl none) (zw_I w J0)) (hqy : za_mr D → za_tr D → ∀ J, zu_X J D (0, H.2) false (za_mt D) (za_mt D) za_C0 false → zu_fr [158, 159] [3, 4, 5, 6, 7, 15] J0 J → Q (.inl none) (zw_I w J)) (hck : D 0 14 * 256 + D 0 15 = za_ck (D 0) 14)  : ∀ (n i : Nat) , i ≤ 14 → 14 + 1 ≤ i + n → 5 ≤ i → (∀ j, 5 ≤ j → j < i → D 0 j = 0) → zg_G V zm_X4_mount 1 30 n0 u0 62 [] [(2, .int (nI i)), (0, .ref 156), (1, .int c)] (zw_I w J0) Q := by
  intro nn
  induction nn with
  | zero =>
    intro i hii hnn
    exact absurd hnn (by omega)
  | succ nn ih =>
    intro i hii hnn k0 k1
    refine zg_iload_n dX4_mount_62 rfl ?_
    refine zg_bipush (v := nI 14) dX4_mount_63 (by decide) ?_
    refine zg_icmp_ge (tgt := 84) dX4_mount_65 (by decide) (fun h65 => ?_) (fun h65 => ?_)
    · obtain rfl : i = 14 := by have := zn_ge h65 (by omega) (by omega); omega
      have hmr : za_mr D := ⟨k1, hck⟩
      obtain ⟨z, hz⟩ := zb_ex (nI 1 ≤ nI (D 0 4) ∧ nI (D 0 4) ≤ nI 47)
      have hb4 := hW 0 (by omega) 4 (by omega)
      refine zg_aload_n dX4_mount_84 rfl ?_
      refine zg_getR E (ci := 4) (j := 0) (r := 157) dX4_mount_85 rfl (congrArg Prod.fst (zl_Mat HM (k := 156) (t := (4, 17)) rfl (by decide) (by decide))) (by decide) (zl_Mlt HM (by decide)) (by decide) fl_X4_7 rfl (zl_Mrf HM rfl (by decide) (by decide)) ?_
      refine zg_iconst (v := nI 4) dX4_mount_88 (by decide) ?_
      refine zg_iald E (j := 4) dX4_mount_89 (zl_Mat HM (k := 157) (t := (10, 768)) rfl (by decide) (by decide)) (by decide) (zl_Mlt HM (by decide)) rfl (by omega) (by decide) ?_
      refine zg_v (x' := nI (D 0 4)) (r0.1 0 (by omega) 4 (by omega)) ?_
      refine zg_istore_n (lv' := [(2, .int (nI (D 0 4))), (0, .ref 156), (1, .int c)]) dX4_mount_90 (by decide) rfl ?_
      refine zg_iload_n dX4_mount_91 rfl ?_
      refine zg_iconst (v := nI 1) dX4_mount_92 (by decide) ?_
      refine zg_bipush (v := nI 47) dX4_mount_93 (by decide) ?_
      refine zg_sret (M := zm_X4_mount) E dX4_mount_95 (mt_within (w := zw_I w J0) E hz) wd_X4_67 dh_X4_within dn_X4_within (Nat.le_of_ble_eq_true rfl) (Nat.le_of_ble_eq_true rfl) (Nat.le_of_ble_eq_true rfl) (zl_capM HM) rfl (fun w95 g95 => ?_)
      subst w95
      refine zg_if_ne (tgt := 102) dX4_mount_98 (by decide) (fun h98 => ?_) (fun h98 => ?_)
      · have hw := hz.mp (za_bit1 h98)
        have g1 : 1 ≤ D 0 4 := (nI_leI (by decide) (by omega)).mp hw.1
        have ha : D 0 4 < 48 := Nat.lt_succ_of_le ((nI_leI (by omega) (by decide)).mp hw.2)
        refine zg_iconst (v := nI 0) dX4_mount_102 (by decide) ?_
        refine zg_istore_n (lv' := [(3, .int (nI 0)), (2, .int (nI (D 0 4))), (0, .ref 156), (1, .int c)]) dX4_mount_103 (by decide) rfl ?_
        refine zg_l [0, 2, 3, 1] rfl ?_
        exact zg_s rfl rfl rfl (lm_m3 (c := c) E HM hW r0 hqn hqy hmr g1 ha 17 0 (by omega) (by omega) (fun p hp => absurd hp (Nat.not_lt_zero p)))
      · have hw : ¬ (za_mr D ∧ za_tr D) := fun q => absurd (hz.mpr ⟨nI_le q.2.1 (by omega), nI_le (Nat.le_of_lt_succ q.2.2.1) (by decide)⟩) (by rw [za_bit0 h98]; decide)
        exact zg_vret rfl dX4_mount_101 (hqn hw)
    · have hlt : i < 14 := zn_lt h65 (by omega) (by omega)
      have hb := hW 0 (by omega) i (by omega)
      refine zg_aload_n dX4_mount_68 rfl ?_
      refine zg_getR E (ci := 4) (j := 0) (r := 157) dX4_mount_69 rfl (congrArg Prod.fst (zl_Mat HM (k := 156) (t := (4, 17)) rfl (by decide) (by decide))) (by decide) (zl_Mlt HM (by decide)) (by decide) fl_X4_7 rfl (zl_Mrf HM rfl (by decide) (by decide)) ?_
      refine zg_iload_n dX4_mount_72 rfl ?_
      refine zg_iald E (j := i) dX4_mount_73 (zl_Mat HM (k := 157) (t := (10, 768)) rfl (by decide) (by decide)) (by decide) (zl_Mlt HM (by decide)) rfl (by omega) (by decide) ?_
      refine zg_v (x' := nI (D 0 i)) ((congrArg (J0 157) (by omega : i = 16 * 0 + i)).trans (r0.1 0 (by omega) i (by omega))) ?_
      refine zg_if_eq (tgt := 78) dX4_mount_74 (by decide) (fun h74 => ?_) (fun h74 => ?_)
      · have hz : D 0 i = 0 := (nI_eq (by omega) (by decide)).mp h74
        refine zg_iinc (v := nI (i + 1)) (lv' := [(2, .int (nI (i + 1))), (0, .ref 156), (1, .int c)]) dX4_mount_78 rfl (nI_1 i) (by decide) rfl ?_
        refine zg_goto (tgt := 62) dX4_mount_81 (by decide) ?_
        refine zg_l [0, 1, 2] rfl ?_
        exact zg_s rfl rfl rfl (ih (i + 1) (by omega) (by omega) (by omega) (fun j h1 h2 => (Nat.lt_or_ge j i).elim (k1 j h1) (fun z => (show j = i by omega) ▸ hz)))
      · have hz : D 0 i ≠ 0 := fun z => h74 (congrArg nI z)
        exact zg_vret rfl dX4_mount_77 (hqn (fun z => hz (z.1.1 i k0 hlt)))
set_option maxHeartbeats 4000000 in
set_option maxRecDepth 100000 in
theorem mt_mount {V : zv_V} (E : zv_OK V) {w : zw_W} (HM : zl_M w) {D : Nat → Nat → Nat} {H : za_H} {b : Bool} {L S : za_T} {C : za_C} {t : Bool} (hM : zu_X (zw_i w) D H b L S C t) (hD : za_WD D) {ok : Bool} (hok : ok = true ↔ za_mr D ∧ za_tr D)  : zg_C V zm_X4_mount yX4_mount 1 30 [.ref 156] w (zq_p (.inl none) (zu_to w [158, 159] [3, 4, 5, 6, 7, 8, 14, 15] (zu_X · D (0, H.2) (!ok) (if ok then za_mt D else L) (if ok then za_mt D else S) za_C0 false))) := by
  refine zg_of (by decide +kernel) rfl (Nat.le_of_ble_eq_true rfl) ?_
  show zg_G V zm_X4_mount 1 30 w.1 w.2.1 0 [] [(0, .ref 156)] w _
  refine zg_aload_n dX4_mount_0 rfl ?_
  refine zg_iconst (v := nI 0) dX4_mount_1 (by decide) ?_
  refine zg_putI E (ci := 4) (j := 14) dX4_mount_2 rfl (congrArg Prod.fst (zl_Mat HM (k := 156) (t := (4, 17)) rfl (by decide) (by decide))) (by decide) (zl_Mlt HM (by decide)) (by decide) fl_X4_54 rfl rfl rfl rfl ?_
  refine zg_aload_n dX4_mount_5 rfl ?_
  refine zg_iconst (v := nI 0) dX4_mount_6 (by decide) ?_
  refine zg_putI E (ci := 4) (j := 15) dX4_mount_7 rfl (congrArg Prod.fst (zl_Mat HM (k := 156) (t := (4, 17)) rfl (by decide) (by decide))) (by decide) (zl_Mlt HM (by decide)) (by decide) fl_X4_57 rfl rfl rfl rfl ?_
  refine zg_aload_n dX4_mount_10 rfl ?_
  refine zg_iconst (v := nI 0) dX4_mount_11 (by decide) ?_
  refine zg_putI E (ci := 4) (j := 8) dX4_mount_12 rfl (congrArg Prod.fst (zl_Mat HM (k := 156) (t := (4, 17)) rfl (by decide) (by decide))) (by decide) (zl_Mlt HM (by decide)) (by decide) fl_X4_61 rfl rfl rfl rfl ?_
  refine zg_aload_n dX4_mount_15 rfl ?_
  refine zg_iconst (v := nI 1) dX4_mount_16 (by decide) ?_
  refine zg_putI E (ci := 4) (j := 7) dX4_mount_17 rfl (congrArg Prod.fst (zl_Mat HM (k := 156) (t := (4, 17)) rfl (by decide) (by decide))) (by decide) (zl_Mlt HM (by decide)) (by decide) fl_X4_64 rfl rfl rfl rfl ?_
  obtain ⟨J0, e0, r0, f0⟩ : ∃ J, zw_si (zw_si (zw_si (zw_si w 156 14 (nI 0)) 156 15 (nI 0)) 156 8 (nI 0)) 156 7 (nI 1) = zw_I w J ∧ zu_X J D (0, H.2) true L S za_C0 false ∧ zu_fr [] [7, 8, 14, 15] (zw_i w) J := ⟨_, rfl, (zu_m0 hM rfl).1, (zu_m0 hM rfl).2⟩
  refine zg_w e0.symm ?_
  have hck := za_ck_lt (D 0) 14
  have h14 := hD 0 (by omega) 14 (by omega)
  have h15 := hD 0 (by omega) 15 (by omega)
  have hqn : ¬ (za_mr D ∧ za_tr D) → zq_p (.inl none) (zu_to w [158, 159] [3, 4, 5, 6, 7, 8, 14, 15] (zu_X · D (0, H.2) (!ok) (if ok then za_mt D else L) (if ok then za_mt D else S) za_C0 false)) (.inl none) (zw_I w J0) := fun z => ⟨rfl, J0, rfl, by rw [zb_ff hok z]; exact r0, zu_frW f0⟩
  refine zg_aload_n dX4_mount_20 rfl ?_
  refine zg_aload_n dX4_mount_21 rfl ?_
  refine zg_getR E (ci := 4) (j := 0) (r := 157) dX4_mount_22 rfl (congrArg Prod.fst (zl_Mat HM (k := 156) (t := (4, 17)) rfl (by decide) (by decide))) (by decide) (zl_Mlt HM (by decide)) (by decide) fl_X4_7 rfl (zl_Mrf HM rfl (by decide) (by decide)) ?_
  refine zg_iconst (v := nI 0) dX4_mount_25 (by decide) ?_
  refine zg_vrt (M := zm_X4_mount) E (ci := 4) dX4_mount_26 (mt_checkOf (w := zw_I w J0) (g := D 0) (q := 0) E HM (zl_Mat HM (k := 157) (t := (10, 768)) rfl (by decide) (by decide)) (by decide) (zl_Mlt HM (by decide)) (by decide) (by decide) (fun i hi => (congrArg (J0 157) (by omega : 0 + i = 16 * 0 + i)).trans (r0.1 0 (by omega) i (by omega))) (fun i hi => hD 0 (by omega) i (by omega))) wd_X4_43 rfl (congrArg Prod.fst (zl_Mat HM (k := 156) (t := (4, 17)) rfl (by decide) (by decide))) (by decide) (zl_Mlt HM (by decide)) rfl dh_X4_checkOf dn_X4_checkOf (Nat.le_of_ble_eq_true rfl) (Nat.le_of_ble_eq_true rfl) (Nat.le_of_ble_eq_true rfl) (zl_capM HM) rfl (fun w26 g26 => ?_)
  subst w26
  refine zg_istore_n (lv' := [(1, .int (nI (za_ck (D 0) 14))), (0, .ref 156)]) dX4_mount_29 (by decide) rfl ?_
  refine zg_aload_n dX4_mount_30 rfl ?_
  refine zg_getR E (ci := 4) (j := 0) (r := 157) dX4_mount_31 rfl (congrArg Prod.fst (zl_Mat HM (k := 156) (t := (4, 17)) rfl (by decide) (by decide))) (by decide) (zl_Mlt HM (by decide)) (by decide) fl_X4_7 rfl (zl_Mrf HM rfl (by decide) (by decide)) ?_
  refine zg_bipush (v := nI 14) dX4_mount_34 (by decide) ?_
  refine zg_iald E (j := 14) dX4_mount_36 (zl_Mat HM (k := 157) (t := (10, 768)) rfl (by decide) (by decide)) (by decide) (zl_Mlt HM (by decide)) rfl (by omega) (by decide) ?_
  refine zg_v (x' := nI (D 0 14)) (r0.1 0 (by omega) 14 (by omega)) ?_
  refine zg_iload_n dX4_mount_37 rfl ?_
  refine zg_bipush (v := nI 8) dX4_mount_38 (by decide) ?_
  refine zg_ishr dX4_mount_40 ?_
  refine zg_v (x' := nI (za_ck (D 0) 14 / 256)) (pk_shrN (by omega) (nI 8 &&& 31) 8 (by decide)) ?_
  refine zg_icmp_ne (tgt := 59) dX4_mount_41 (by decide) (fun h41 => ?_) (fun h41 => ?_)
  · have hn : ¬ (za_mr D ∧ za_tr D) := fun z => h41 (congrArg nI (by have := z.1.2; omega))
    exact zg_vret rfl dX4_mount_59 (hqn hn)
  · have q1 : D 0 14 = za_ck (D 0) 14 / 256 := (nI_eq (by omega) (by omega)).mp h41
    refine zg_aload_n dX4_mount_44 rfl ?_
    refine zg_getR E (ci := 4) (j := 0) (r := 157) dX4_mount_45 rfl (congrArg Prod.fst (zl_Mat HM (k := 156) (t := (4, 17)) rfl (by decide) (by decide))) (by decide) (zl_Mlt HM (by decide)) (by decide) fl_X4_7 rfl (zl_Mrf HM rfl (by decide) (by decide)) ?_
    refine zg_bipush (v := nI 15) dX4_mount_48 (by decide) ?_
    refine zg_iald E (j := 15) dX4_mount_50 (zl_Mat HM (k := 157) (t := (10, 768)) rfl (by decide) (by decide)) (by decide) (zl_Mlt HM (by decide)) rfl (by omega) (by decide) ?_
    refine zg_v (x' := nI (D 0 15)) (r0.1 0 (by omega) 15 (by omega)) ?_
    refine zg_iload_n dX4_mount_51 rfl ?_
    refine zg_sipush (v := nI 255) dX4_mount_52 (by decide) ?_
    refine zg_iand dX4_mount_55 ?_
    refine zg_v (x' := nI (za_ck (D 0) 14 % 256)) (pk_andN (by omega) 8 (by decide)) ?_
    refine zg_icmp_eq (tgt := 60) dX4_mount_56 (by decide) (fun h56 => ?_) (fun h56 => ?_)
    · have q2 : D 0 15 = za_ck (D 0) 14 % 256 := (nI_eq (by omega) (by omega)).mp h56
      refine zg_iconst (v := nI 5) dX4_mount_60 (by decide) ?_
      refine zg_istore_n (lv' := [(2, .int (nI 5)), (1, .int (nI (za_ck (D 0) 14))), (0, .ref 156)]) dX4_mount_61 (by decide) rfl ?_
      refine zg_l [0, 2, 1] rfl ?_
      exact zg_s rfl rfl rfl (lm_m4 E HM hD r0 hqn (fun a b J h1 h2 => ⟨rfl, J, rfl, by rw [hok.mpr ⟨a, b⟩]; exact h1, zu_frW (zu_frT f0 h2)⟩) (by omega) 10 5 (by omega) (by omega) (by omega) (fun j h1 h2 => absurd h1 (by omega)))
    · have hn : ¬ (za_mr D ∧ za_tr D) := fun z => h56 (congrArg nI (by have := z.1.2; omega))
      exact zg_vret rfl dX4_mount_59 (hqn hn)
theorem zu_d0 {I J : Nat → Nat → Int32} (h0 : ∀ j, j < 768 → I 157 j = nI 0) (h1 : ∀ i, i < 16 → J 157 (0 + i) = nI (za_ms 0 1 i)) (h2 : ∀ j, (j < 0 ∨ 0 + 16 ≤ j) → J 157 j = I 157 j) : zu_D J za_D0 := by
  intro s hs i hi
  unfold za_D0
  by_cases e : s = 0
  · subst e
    rw [if_pos rfl, ← h1 i hi]
  · rw [if_neg e, h2 _ (by omega)]
    exact h0 _ (by omega)
set_option maxHeartbeats 4000000 in
set_option maxRecDepth 100000 in
theorem lm_clear {V : zv_V} (E : zv_OK V) {w : zw_W} {n0 u0 : Nat} {Q : zg_O → zw_W → Prop} (HM : zl_M w) {D : Nat → Nat → Nat} {H : za_H} {b : Bool} {L S : za_T} {C : za_C} {t : Bool} (hM : zu_X (zw_i w) D H b L S C t) (hq : ∀ J, zu_X J za_D0 (0, H.2) false (za_mt za_D0) (za_mt za_D0) za_C0 false → zu_fr [157, 158, 159] [3, 4, 5, 6, 7, 8, 14, 15] (zw_i w) J → Q (.inl none) (zw_I w J))  : ∀ (n i : Nat) (J : Nat → Nat → Int32), i ≤ 768 → 768 + 1 ≤ i + n → (∀ j, j < i → J 157 j = nI 0) → zu_fr [157] [] (zw_i w) J → zg_G V zm_X4_clear 2 60 n0 u0 2 [] [(1, .int (nI i)), (0, .ref 156)] (zw_I w J) Q := by
  intro nn
  induction nn with
  | zero =>
    intro i J hii hnn
    exact absurd hnn (by omega)
  | succ nn ih =>
    intro i J hii hnn k0 k1
    refine zg_iload_n dX4_clear_2 rfl ?_
    refine zg_sipush (v := nI 768) dX4_clear_3 (by decide) ?_
    refine zg_icmp_ge (tgt := 22) dX4_clear_6 (by decide) (fun h6 => ?_) (fun h6 => ?_)
    · obtain rfl : i = 768 := by have := zn_ge h6 (by omega) (by omega); omega
      refine zg_aload_n dX4_clear_22 rfl ?_
      refine zg_aload_n dX4_clear_23 rfl ?_
      refine zg_getR E (ci := 4) (j := 0) (r := 157) dX4_clear_24 rfl (congrArg Prod.fst (zl_Mat HM (k := 156) (t := (4, 17)) rfl (by decide) (by decide))) (by decide) (zl_Mlt HM (by decide)) (by decide) fl_X4_7 rfl (zl_Mrf HM rfl (by decide) (by decide)) ?_
      refine zg_iconst (v := nI 0) dX4_clear_27 (by decide) ?_
      refine zg_iconst (v := nI 0) dX4_clear_28 (by decide) ?_
      refine zg_iconst (v := nI 1) dX4_clear_29 (by decide) ?_
      refine zg_vrt (M := zm_X4_clear) E (ci := 4) dX4_clear_30 (mt_master (w := zw_I w J) (k := 157) (n := 768) (q := 0) (a := 1) (g := nI 0) E HM (zl_Mat HM (k := 157) (t := (10, 768)) rfl (by decide) (by decide)) (by decide) (zl_Mlt HM (by decide)) (by decide) (by decide) (by decide)) wd_X4_47 rfl (congrArg Prod.fst (zl_Mat HM (k := 156) (t := (4, 17)) rfl (by decide) (by decide))) (by decide) (zl_Mlt HM (by decide)) rfl dh_X4_master dn_X4_master (Nat.le_of_ble_eq_true rfl) (Nat.le_of_ble_eq_true rfl) (Nat.le_of_ble_eq_true rfl) (zl_capM HM) rfl (fun w30 g30 => ?_)
      obtain ⟨J1, rfl, r1, f1⟩ := g30
      have F := zu_frT k1 f1
      have hx : zu_X J1 za_D0 H b L S C t := ⟨zu_d0 k0 r1.1 r1.2, zu_fH hM.2.1 F, zu_fs hM.2.2.1 F, zu_fL hM.2.2.2.1 F, zu_fS hM.2.2.2.2.1 F, zu_fC hM.2.2.2.2.2.1 F, zu_fs hM.2.2.2.2.2.2 F⟩
      refine zg_w (w' := zw_I w J1) rfl ?_
      refine zg_aload_n dX4_clear_33 rfl ?_
      refine zg_vrt (M := zm_X4_clear) E (ci := 4) dX4_clear_34 (mt_mount (w := zw_I w J1) E HM hx za_D0_W (ok := true) ⟨fun _ => ⟨za_D0_m, za_D0_t⟩, fun _ => rfl⟩) wd_X4_51 rfl (congrArg Prod.fst (zl_Mat HM (k := 156) (t := (4, 17)) rfl (by decide) (by decide))) (by decide) (zl_Mlt HM (by decide)) rfl dh_X4_mount dn_X4_mount (Nat.le_of_ble_eq_true rfl) (Nat.le_of_ble_eq_true rfl) (Nat.le_of_ble_eq_true rfl) (zl_capM HM) rfl (fun w34 g34 => ?_)
      obtain ⟨J2, rfl, r2, f2⟩ := g34
      refine zg_w (w' := zw_I w J2) rfl ?_
      exact zg_vret rfl dX4_clear_37 (hq J2 r2 (zu_frW (zu_frT F f2)))
    · have hlt : i < 768 := zn_lt h6 (by omega) (by omega)
      refine zg_aload_n dX4_clear_9 rfl ?_
      refine zg_getR E (ci := 4) (j := 0) (r := 157) dX4_clear_10 rfl (congrArg Prod.fst (zl_Mat HM (k := 156) (t := (4, 17)) rfl (by decide) (by decide))) (by decide) (zl_Mlt HM (by decide)) (by decide) fl_X4_7 rfl (zl_Mrf HM rfl (by decide) (by decide)) ?_
      refine zg_iload_n dX4_clear_13 rfl ?_
      refine zg_iconst (v := nI 0) dX4_clear_14 (by decide) ?_
      refine zg_iast E (j := i) dX4_clear_15 (zl_Mat HM (k := 157) (t := (10, 768)) rfl (by decide) (by decide)) (by decide) (zl_Mlt HM (by decide)) rfl (by omega) (by decide) ?_
      refine zg_iinc (v := nI (i + 1)) (lv' := [(1, .int (nI (i + 1))), (0, .ref 156)]) dX4_clear_16 rfl (nI_1 i) (by decide) rfl ?_
      refine zg_goto (tgt := 2) dX4_clear_19 (by decide) ?_
      refine zg_l [0, 1] rfl ?_
      exact zg_s rfl rfl rfl (ih (i + 1) _ (by omega) (by omega) (fun j hj => (Nat.lt_or_ge j i).elim (fun z => (zw_up_n _ _ (Or.inr (by omega))).trans (k0 j z)) (fun z => by have e : j = i := (by omega); subst e; exact zw_up_s _ _ _ _)) (fun a j h1 h2 => (zw_up_n _ _ (Or.inl (fun z => h1 (by rw [z]; decide)))).trans (k1 a j h1 h2)))
set_option maxHeartbeats 4000000 in
set_option maxRecDepth 100000 in
theorem mt_clear {V : zv_V} (E : zv_OK V) {w : zw_W} (HM : zl_M w) {D : Nat → Nat → Nat} {H : za_H} {b : Bool} {L S : za_T} {C : za_C} {t : Bool} (hM : zu_X (zw_i w) D H b L S C t)  : zg_C V zm_X4_clear yX4_clear 2 60 [.ref 156] w (zq_p (.inl none) (zu_to w [157, 158, 159] [3, 4, 5, 6, 7, 8, 14, 15] (zu_X · za_D0 (0, H.2) false (za_mt za_D0) (za_mt za_D0) za_C0 false))) := by
  refine zg_of (by decide +kernel) rfl (Nat.le_of_ble_eq_true rfl) ?_
  show zg_G V zm_X4_clear 2 60 w.1 w.2.1 0 [] [(0, .ref 156)] w _
  refine zg_iconst (v := nI 0) dX4_clear_0 (by decide) ?_
  refine zg_istore_n (lv' := [(1, .int (nI 0)), (0, .ref 156)]) dX4_clear_1 (by decide) rfl ?_
  exact zg_s rfl rfl rfl (lm_clear E HM hM (fun J h1 h2 => ⟨rfl, J, rfl, h1, h2⟩) 769 0 (zw_i w) (by omega) (by omega) (fun j hj => absurd hj (Nat.not_lt_zero j)) (zu_frn [157] []))

/-! The reference's constructor. -/
def zj_end (w : zw_W) (D : Nat → Nat → Nat) (H : za_H) (b : Bool) (L S : za_T) (C : za_C) (w' : zw_W) : Prop := zl_X w' ∧ zr_X (zw_i w') D H b L S C ∧ zl_M w' ∧ zu_X (zw_i w') za_D0 (0, fun _ => 0, fun _ _ => 0) false (za_mt za_D0) (za_mt za_D0) za_C0 false ∧ w'.1 = 165 ∧ w'.2.1 ≤ w.2.1 + 5000
theorem zj_no {k j : Nat} (h1 : 157 ≤ k) (h2 : k < 165) : zl_r k j = none := by
  unfold zl_r
  rw [if_neg (by omega), if_neg (by omega), if_neg (by omega), if_neg (by omega), if_neg (by omega), if_neg (by omega), if_neg (by omega), if_neg (by omega), if_neg (by omega)]
set_option maxHeartbeats 2000000 in
set_option maxRecDepth 100000 in
theorem ct_X4_init {V : zv_V} (E : zv_OK V) {w : zw_W} (HX : zl_X w) {D : Nat → Nat → Nat} {H : za_H} {b : Bool} {L S : za_T} {C : za_C} (hX : zr_X (zw_i w) D H b L S C) (hH : H.1 ≤ 77) (hn : w.1 = 157) (ht : zw_t w 156 = (4, 17)) (hi : zw_i w 156 = fun _ => 0) (hcs : w.2.1 + 30000 ≤ zc_cs) : zg_C V zm_X4_init yX4_init 4 190 [.ref 156] w (zq_p (.inl none) (zj_end w D H b L S C)) := by
  refine zh_of (by decide +kernel) rfl (Nat.le_of_ble_eq_true rfl) rfl ?_
  show zh_G V zm_X4_init 4 190 w.1 w.2.1 0 [] [(0, .ref 156)] w _
  obtain ⟨n, u, tt, rr, ii, ll⟩ := w
  obtain rfl : n = 157 := hn
  have hcs : u + 30000 ≤ zc_cs := hcs
  have P0 : zj_P 157 156 ((157, u, tt, rr, ii, ll) : zw_W) ((157, u, tt, rr, ii, ll) : zw_W) := ⟨rfl, fun k g1 g2 => by
    have q : k = 156 := by omega
    subst q
    exact ⟨ht, hi⟩, fun j r e f => absurd (zj_d e).2.1 (by omega), fun _ _ => ⟨rfl, rfl, rfl⟩⟩
  refine zh_aload_n dX4_init_0 rfl ?_
  refine zh_obj0 E dX4_init_1 (by decide +kernel) (Nat.le_of_ble_eq_true rfl) (Nat.le_of_ble_eq_true rfl) ?_
  refine zh_aload_n dX4_init_4 rfl ?_
  refine zh_sipush (v := nI 768) dX4_init_5 (by decide) ?_
  refine zh_newI E (n := 768) dX4_init_8 (by show 1 ≤ 157; decide) rfl (by decide) (by show 157 + 1 ≤ zc_cn; decide) (by show u + 768 ≤ zc_cs; omega) ?_
  have P1 : zj_P 158 156 ((157, u, tt, rr, ii, ll) : zw_W) (zw_nw (((157, u, tt, rr, ii, ll) : zw_W)) (10, 768)) := zj_nw P0 (by decide) rfl
  refine zh_putR E (ci := 4) (j := 0) (r := 157) dX4_init_10 rfl (congrArg Prod.fst (P1.2.1 156 (by decide) (by decide)).1) (by decide) (by show 156 < 158; decide) (by decide) fl_X4_7 rfl rfl rfl (fun _ => rfl) (fun _ => rfl) ?_
  have P2 : zj_P 158 157 ((157, u, tt, rr, ii, ll) : zw_W) (zw_sr (zw_nw (((157, u, tt, rr, ii, ll) : zw_W)) (10, 768)) 156 0 (some 157)) := zj_sr P1 rfl
  refine zh_aload_n dX4_init_13 rfl ?_
  refine zh_bipush (v := nI 16) dX4_init_14 (by decide) ?_
  refine zh_newI E (n := 16) dX4_init_16 (by show 1 ≤ 158; decide) rfl (by decide) (by show 158 + 1 ≤ zc_cn; decide) (by show u + 768 + 16 ≤ zc_cs; omega) ?_
  have P3 : zj_P 159 157 ((157, u, tt, rr, ii, ll) : zw_W) (zw_nw (zw_sr (zw_nw (((157, u, tt, rr, ii, ll) : zw_W)) (10, 768)) 156 0 (some 157)) (10, 16)) := zj_nw P2 (by decide) rfl
  refine zh_putR E (ci := 4) (j := 1) (r := 158) dX4_init_18 rfl (congrArg Prod.fst (P3.2.1 156 (by decide) (by decide)).1) (by decide) (by show 156 < 159; decide) (by decide) fl_X4_13 rfl rfl rfl (fun _ => rfl) (fun _ => rfl) ?_
  have P4 : zj_P 159 158 ((157, u, tt, rr, ii, ll) : zw_W) (zw_sr (zw_nw (zw_sr (zw_nw (((157, u, tt, rr, ii, ll) : zw_W)) (10, 768)) 156 0 (some 157)) (10, 16)) 156 1 (some 158)) := zj_sr P3 rfl
  refine zh_aload_n dX4_init_21 rfl ?_
  refine zh_bipush (v := nI 16) dX4_init_22 (by decide) ?_
  refine zh_newI E (n := 16) dX4_init_24 (by show 1 ≤ 159; decide) rfl (by decide) (by show 159 + 1 ≤ zc_cn; decide) (by show u + 768 + 16 + 16 ≤ zc_cs; omega) ?_
  have P5 : zj_P 160 158 ((157, u, tt, rr, ii, ll) : zw_W) (zw_nw (zw_sr (zw_nw (zw_sr (zw_nw (((157, u, tt, rr, ii, ll) : zw_W)) (10, 768)) 156 0 (some 157)) (10, 16)) 156 1 (some 158)) (10, 16)) := zj_nw P4 (by decide) rfl
  refine zh_putR E (ci := 4) (j := 2) (r := 159) dX4_init_26 rfl (congrArg Prod.fst (P5.2.1 156 (by decide) (by decide)).1) (by decide) (by show 156 < 160; decide) (by decide) fl_X4_16 rfl rfl rfl (fun _ => rfl) (fun _ => rfl) ?_
  have P6 : zj_P 160 159 ((157, u, tt, rr, ii, ll) : zw_W) (zw_sr (zw_nw (zw_sr (zw_nw (zw_sr (zw_nw (((157, u, tt, rr, ii, ll) : zw_W)) (10, 768)) 156 0 (some 157)) (10, 16)) 156 1 (some 158)) (10, 16)) 156 2 (some 159)) := zj_sr P5 rfl
  refine zh_aload_n dX4_init_29 rfl ?_
  refine zh_bipush (v := nI 16) dX4_init_30 (by decide) ?_
  refine zh_newI E (n := 16) dX4_init_32 (by show 1 ≤ 160; decide) rfl (by decide) (by show 160 + 1 ≤ zc_cn; decide) (by show u + 768 + 16 + 16 + 16 ≤ zc_cs; omega) ?_
  have P7 : zj_P 161 159 ((157, u, tt, rr, ii, ll) : zw_W) (zw_nw (zw_sr (zw_nw (zw_sr (zw_nw (zw_sr (zw_nw (((157, u, tt, rr, ii, ll) : zw_W)) (10, 768)) 156 0 (some 157)) (10, 16)) 156 1 (some 158)) (10, 16)) 156 2 (some 159)) (10, 16)) := zj_nw P6 (by decide) rfl
  refine zh_putR E (ci := 4) (j := 9) (r := 160) dX4_init_34 rfl (congrArg Prod.fst (P7.2.1 156 (by decide) (by decide)).1) (by decide) (by show 156 < 161; decide) (by decide) fl_X4_19 rfl rfl rfl (fun _ => rfl) (fun _ => rfl) ?_
  have P8 : zj_P 161 160 ((157, u, tt, rr, ii, ll) : zw_W) (zw_sr (zw_nw (zw_sr (zw_nw (zw_sr (zw_nw (zw_sr (zw_nw (((157, u, tt, rr, ii, ll) : zw_W)) (10, 768)) 156 0 (some 157)) (10, 16)) 156 1 (some 158)) (10, 16)) 156 2 (some 159)) (10, 16)) 156 9 (some 160)) := zj_sr P7 rfl
  refine zh_aload_n dX4_init_37 rfl ?_
  refine zh_bipush (v := nI 16) dX4_init_38 (by decide) ?_
  refine zh_newZ E (n := 16) dX4_init_40 (by show 1 ≤ 161; decide) rfl (by decide) (by show 161 + 1 ≤ zc_cn; decide) (by show u + 768 + 16 + 16 + 16 + 16 ≤ zc_cs; omega) ?_
  have P9 : zj_P 162 160 ((157, u, tt, rr, ii, ll) : zw_W) (zw_nw (zw_sr (zw_nw (zw_sr (zw_nw (zw_sr (zw_nw (zw_sr (zw_nw (((157, u, tt, rr, ii, ll) : zw_W)) (10, 768)) 156 0 (some 157)) (10, 16)) 156 1 (some 158)) (10, 16)) 156 2 (some 159)) (10, 16)) 156 9 (some 160)) (11, 16)) := zj_nw P8 (by decide) rfl
  refine zh_putR E (ci := 4) (j := 10) (r := 161) dX4_init_42 rfl (congrArg Prod.fst (P9.2.1 156 (by decide) (by decide)).1) (by decide) (by show 156 < 162; decide) (by decide) fl_X4_22 rfl rfl rfl (fun _ => rfl) (fun _ => rfl) ?_
  have P10 : zj_P 162 161 ((157, u, tt, rr, ii, ll) : zw_W) (zw_sr (zw_nw (zw_sr (zw_nw (zw_sr (zw_nw (zw_sr (zw_nw (zw_sr (zw_nw (((157, u, tt, rr, ii, ll) : zw_W)) (10, 768)) 156 0 (some 157)) (10, 16)) 156 1 (some 158)) (10, 16)) 156 2 (some 159)) (10, 16)) 156 9 (some 160)) (11, 16)) 156 10 (some 161)) := zj_sr P9 rfl
  refine zh_aload_n dX4_init_45 rfl ?_
  refine zh_sipush (v := nI 256) dX4_init_46 (by decide) ?_
  refine zh_newI E (n := 256) dX4_init_49 (by show 1 ≤ 162; decide) rfl (by decide) (by show 162 + 1 ≤ zc_cn; decide) (by show u + 768 + 16 + 16 + 16 + 16 + 256 ≤ zc_cs; omega) ?_
  have P11 : zj_P 163 161 ((157, u, tt, rr, ii, ll) : zw_W) (zw_nw (zw_sr (zw_nw (zw_sr (zw_nw (zw_sr (zw_nw (zw_sr (zw_nw (zw_sr (zw_nw (((157, u, tt, rr, ii, ll) : zw_W)) (10, 768)) 156 0 (some 157)) (10, 16)) 156 1 (some 158)) (10, 16)) 156 2 (some 159)) (10, 16)) 156 9 (some 160)) (11, 16)) 156 10 (some 161)) (10, 256)) := zj_nw P10 (by decide) rfl
  refine zh_putR E (ci := 4) (j := 11) (r := 162) dX4_init_51 rfl (congrArg Prod.fst (P11.2.1 156 (by decide) (by decide)).1) (by decide) (by show 156 < 163; decide) (by decide) fl_X4_26 rfl rfl rfl (fun _ => rfl) (fun _ => rfl) ?_
  have P12 : zj_P 163 162 ((157, u, tt, rr, ii, ll) : zw_W) (zw_sr (zw_nw (zw_sr (zw_nw (zw_sr (zw_nw (zw_sr (zw_nw (zw_sr (zw_nw (zw_sr (zw_nw (((157, u, tt, rr, ii, ll) : zw_W)) (10, 768)) 156 0 (some 157)) (10, 16)) 156 1 (some 158)) (10, 16)) 156 2 (some 159)) (10, 16)) 156 9 (some 160)) (11, 16)) 156 10 (some 161)) (10, 256)) 156 11 (some 162)) := zj_sr P11 rfl
  refine zh_aload_n dX4_init_54 rfl ?_
  refine zh_bipush (v := nI 100) dX4_init_55 (by decide) ?_
  refine zh_newI E (n := 100) dX4_init_57 (by show 1 ≤ 163; decide) rfl (by decide) (by show 163 + 1 ≤ zc_cn; decide) (by show u + 768 + 16 + 16 + 16 + 16 + 256 + 100 ≤ zc_cs; omega) ?_
  have P13 : zj_P 164 162 ((157, u, tt, rr, ii, ll) : zw_W) (zw_nw (zw_sr (zw_nw (zw_sr (zw_nw (zw_sr (zw_nw (zw_sr (zw_nw (zw_sr (zw_nw (zw_sr (zw_nw (((157, u, tt, rr, ii, ll) : zw_W)) (10, 768)) 156 0 (some 157)) (10, 16)) 156 1 (some 158)) (10, 16)) 156 2 (some 159)) (10, 16)) 156 9 (some 160)) (11, 16)) 156 10 (some 161)) (10, 256)) 156 11 (some 162)) (10, 100)) := zj_nw P12 (by decide) rfl
  refine zh_putR E (ci := 4) (j := 12) (r := 163) dX4_init_59 rfl (congrArg Prod.fst (P13.2.1 156 (by decide) (by decide)).1) (by decide) (by show 156 < 164; decide) (by decide) fl_X4_29 rfl rfl rfl (fun _ => rfl) (fun _ => rfl) ?_
  have P14 : zj_P 164 163 ((157, u, tt, rr, ii, ll) : zw_W) (zw_sr (zw_nw (zw_sr (zw_nw (zw_sr (zw_nw (zw_sr (zw_nw (zw_sr (zw_nw (zw_sr (zw_nw (zw_sr (zw_nw (((157, u, tt, rr, ii, ll) : zw_W)) (10, 768)) 156 0 (some 157)) (10, 16)) 156 1 (some 158)) (10, 16)) 156 2 (some 159)) (10, 16)) 156 9 (some 160)) (11, 16)) 156 10 (some 161)) (10, 256)) 156 11 (some 162)) (10, 100)) 156 12 (some 163)) := zj_sr P13 rfl
  refine zh_aload_n dX4_init_62 rfl ?_
  refine zh_sipush (v := nI 1600) dX4_init_63 (by decide) ?_
  refine zh_newI E (n := 1600) dX4_init_66 (by show 1 ≤ 164; decide) rfl (by decide) (by show 164 + 1 ≤ zc_cn; decide) (by show u + 768 + 16 + 16 + 16 + 16 + 256 + 100 + 1600 ≤ zc_cs; omega) ?_
  have P15 : zj_P 165 163 ((157, u, tt, rr, ii, ll) : zw_W) (zw_nw (zw_sr (zw_nw (zw_sr (zw_nw (zw_sr (zw_nw (zw_sr (zw_nw (zw_sr (zw_nw (zw_sr (zw_nw (zw_sr (zw_nw (((157, u, tt, rr, ii, ll) : zw_W)) (10, 768)) 156 0 (some 157)) (10, 16)) 156 1 (some 158)) (10, 16)) 156 2 (some 159)) (10, 16)) 156 9 (some 160)) (11, 16)) 156 10 (some 161)) (10, 256)) 156 11 (some 162)) (10, 100)) 156 12 (some 163)) (10, 1600)) := zj_nw P14 (by decide) rfl
  refine zh_putR E (ci := 4) (j := 13) (r := 164) dX4_init_68 rfl (congrArg Prod.fst (P15.2.1 156 (by decide) (by decide)).1) (by decide) (by show 156 < 165; decide) (by decide) fl_X4_32 rfl rfl rfl (fun _ => rfl) (fun _ => rfl) ?_
  have P16 : zj_P 165 164 ((157, u, tt, rr, ii, ll) : zw_W) (zw_sr (zw_nw (zw_sr (zw_nw (zw_sr (zw_nw (zw_sr (zw_nw (zw_sr (zw_nw (zw_sr (zw_nw (zw_sr (zw_nw (zw_sr (zw_nw (((157, u, tt, rr, ii, ll) : zw_W)) (10, 768)) 156 0 (some 157)) (10, 16)) 156 1 (some 158)) (10, 16)) 156 2 (some 159)) (10, 16)) 156 9 (some 160)) (11, 16)) 156 10 (some 161)) (10, 256)) 156 11 (some 162)) (10, 100)) 156 12 (some 163)) (10, 1600)) 156 13 (some 164)) := zj_sr P15 rfl
  refine zh_aload_n dX4_init_71 rfl ?_
  have HM : zl_M (zw_sr (zw_nw (zw_sr (zw_nw (zw_sr (zw_nw (zw_sr (zw_nw (zw_sr (zw_nw (zw_sr (zw_nw (zw_sr (zw_nw (zw_sr (zw_nw (((157, u, tt, rr, ii, ll) : zw_W)) (10, 768)) 156 0 (some 157)) (10, 16)) 156 1 (some 158)) (10, 16)) 156 2 (some 159)) (10, 16)) 156 9 (some 160)) (11, 16)) 156 10 (some 161)) (10, 256)) 156 11 (some 162)) (10, 100)) 156 12 (some 163)) (10, 1600)) 156 13 (some 164)) := ⟨Nat.le_refl _, fun k h1 h2 => ⟨(P16.2.1 k h1 h2).1, fun j r h => by
    by_cases q : k = 156
    · subst q
      exact P16.2.2.1 j r h (zj_d h).2.2
    · exact absurd h (by rw [zj_no (by omega) (by omega)]; exact (fun z => nomatch z))⟩, by show 165 + 2000 ≤ zc_cn; decide, by show u + 768 + 16 + 16 + 16 + 16 + 256 + 100 + 1600 + 20000 ≤ zc_cs; omega⟩
  have HX9 : zl_X (zw_sr (zw_nw (zw_sr (zw_nw (zw_sr (zw_nw (zw_sr (zw_nw (zw_sr (zw_nw (zw_sr (zw_nw (zw_sr (zw_nw (zw_sr (zw_nw (((157, u, tt, rr, ii, ll) : zw_W)) (10, 768)) 156 0 (some 157)) (10, 16)) 156 1 (some 158)) (10, 16)) 156 2 (some 159)) (10, 16)) 156 9 (some 160)) (11, 16)) 156 10 (some 161)) (10, 256)) 156 11 (some 162)) (10, 100)) 156 12 (some 163)) (10, 1600)) 156 13 (some 164)) := ⟨by show 156 ≤ 165; decide, fun k h1 h2 => ⟨(P16.2.2.2 k h2).1.trans (HX.2.1 k h1 h2).1, fun j r h => (congrFun (P16.2.2.2 k h2).2.1 j).trans ((HX.2.1 k h1 h2).2 j r h)⟩, by show 165 + 2000 ≤ zc_cn; decide, by show u + 768 + 16 + 16 + 16 + 16 + 256 + 100 + 1600 + 20000 ≤ zc_cs; omega⟩
  have hX9 : zr_X (zw_i (zw_sr (zw_nw (zw_sr (zw_nw (zw_sr (zw_nw (zw_sr (zw_nw (zw_sr (zw_nw (zw_sr (zw_nw (zw_sr (zw_nw (zw_sr (zw_nw (((157, u, tt, rr, ii, ll) : zw_W)) (10, 768)) 156 0 (some 157)) (10, 16)) 156 1 (some 158)) (10, 16)) 156 2 (some 159)) (10, 16)) 156 9 (some 160)) (11, 16)) 156 10 (some 161)) (10, 256)) 156 11 (some 162)) (10, 100)) 156 12 (some 163)) (10, 1600)) 156 13 (some 164))) D H b L S C := zr_Xe hX hH (fun a _ ha i => congrFun (P16.2.2.2 a (by omega)).2.2 i)
  have hM := zj_z (I := zw_i (zw_sr (zw_nw (zw_sr (zw_nw (zw_sr (zw_nw (zw_sr (zw_nw (zw_sr (zw_nw (zw_sr (zw_nw (zw_sr (zw_nw (zw_sr (zw_nw (((157, u, tt, rr, ii, ll) : zw_W)) (10, 768)) 156 0 (some 157)) (10, 16)) 156 1 (some 158)) (10, 16)) 156 2 (some 159)) (10, 16)) 156 9 (some 160)) (11, 16)) 156 10 (some 161)) (10, 256)) 156 11 (some 162)) (10, 100)) 156 12 (some 163)) (10, 1600)) 156 13 (some 164))) (fun k h1 h2 => (P16.2.1 k h1 h2).2)
  refine zh_vrt (M := zm_X4_init) E (ci := 4) dX4_init_72 (mt_clear (w := zw_sr (zw_nw (zw_sr (zw_nw (zw_sr (zw_nw (zw_sr (zw_nw (zw_sr (zw_nw (zw_sr (zw_nw (zw_sr (zw_nw (zw_sr (zw_nw (((157, u, tt, rr, ii, ll) : zw_W)) (10, 768)) 156 0 (some 157)) (10, 16)) 156 1 (some 158)) (10, 16)) 156 2 (some 159)) (10, 16)) 156 9 (some 160)) (11, 16)) 156 10 (some 161)) (10, 256)) 156 11 (some 162)) (10, 100)) 156 12 (some 163)) (10, 1600)) 156 13 (some 164)) E HM hM) wd_X4_35 rfl (congrArg Prod.fst (P16.2.1 156 (by decide) (by decide)).1) (by decide) (by show 156 < 165; decide) rfl dh_X4_clear dn_X4_clear (Nat.le_of_ble_eq_true rfl) (Nat.le_of_ble_eq_true rfl) (Nat.le_of_ble_eq_true rfl) (zl_capM HM) rfl (fun w9 g9 => ?_)
  obtain ⟨J, rfl, r9, f9⟩ := g9
  exact zh_as (zg_vret rfl dX4_init_75 ⟨rfl, HX9, zr_Xe hX9 hH (fun a _ ha i => f9 a i (by simp; omega) (Or.inl (by omega))), HM, r9, rfl, by show u + 768 + 16 + 16 + 16 + 16 + 256 + 100 + 1600 ≤ u + 5000; omega⟩)

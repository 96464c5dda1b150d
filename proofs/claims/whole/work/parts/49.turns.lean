/-! The turns, method by method. -/
set_option maxHeartbeats 1000000 in
theorem sp_write {V : zv_V} (E : zv_OK V) {n : Nat} {w : zw_W} (hI : zy_I n w) (hn : n ≤ 600) (x u v : Int32) : zy_S V zm_L_write yL_write zm_X4_write yX4_write [.ref 1, .int x, .int u, .int v, .ref 165] [.ref 156, .int x, .int u, .int v] (fun _ => True) n w := by
  obtain ⟨D, H, b, L, S, C, HL, hX, hM, hB⟩ := hI
  obtain ⟨wD, wH, h60, wL, wS, wC⟩ := id hB
  rcases zy_ii x 16 with ⟨p, hp, rfl⟩ | hx
  · rcases zy_ii u 16 with ⟨i, hi, rfl⟩ | hu
    · rcases zy_ii v 256 with ⟨y, hy, rfl⟩ | hv
      · rcases zy_b b with hb | hb
        · exact zy_thr (kd := 2) HL hn hM hB (Or.inr rfl) trivial (lt_write_21 E HL.1 (pw_4 E HL.1 hX wH hp hi hy hb)) (fun w1 h1 h2 => qw_4 E h1 h2 hp hi hy hb)
        · rcases za_ch_ex D L S C p with ⟨C1, hc⟩ | ⟨h0, hr⟩
          · exact zy_ret HL hn hM ⟨wD, wH, h60, wL, wS, za_put_W (za_chg_W hp wD wL wC hc) (za_chg_0 hc) hy⟩ rfl trivial (lr_write E HL.1 (pw_6 E HL.1 hX wH hp hi hy hb (za_chg_0 hc) (kt_chy E HL.1 hX wH hp wL wS wC hc))) (fun w1 h1 h2 => qw_6 E h1 h2 hp hi hy hb wL wS wC hc)
          · exact zy_thr (kd := 2) HL hn hM hB (Or.inr rfl) trivial (lt_write_21 E HL.1 (pw_5 E HL.1 hX wH hp hi hy hb (kt_change_n E HL.1 hp hX wH h0 wL wS wC hr))) (fun w1 h1 h2 => qw_5 E h1 h2 hp hi hy hb wL wS wC h0 hr)
      · exact zy_thr (kd := 1) HL hn hM hB (Or.inl rfl) trivial (lt_write_20 E HL.1 (pw_3 E HL.1 hX wH hp hi hv)) (fun w1 h1 h2 => qw_3 E h1 h2 hp hi hv)
    · exact zy_thr (kd := 1) HL hn hM hB (Or.inl rfl) trivial (lt_write_20 E HL.1 (pw_2 E HL.1 hX wH hp hu)) (fun w1 h1 h2 => qw_2 E h1 h2 hp hu)
  · exact zy_thr (kd := 1) HL hn hM hB (Or.inl rfl) trivial (lt_write_20 E HL.1 (pw_1 E HL.1 hX wH hx)) (fun w1 h1 h2 => qw_1 E h1 h2 hx)
set_option maxHeartbeats 1000000 in
theorem sp_fill {V : zv_V} (E : zv_OK V) {n : Nat} {w : zw_W} (hI : zy_I n w) (hn : n ≤ 600) (x : Int32) (u v : Int64) : zy_S V zm_L_fill yL_fill zm_X4_fill yX4_fill [.ref 1, .int x, .long u, .long v, .ref 165] [.ref 156, .int x, .long u, .long v] (fun _ => True) n w := by
  obtain ⟨D, H, b, L, S, C, HL, hX, hM, hB⟩ := hI
  obtain ⟨wD, wH, h60, wL, wS, wC⟩ := id hB
  rcases zy_ii x 16 with ⟨p, hp, rfl⟩ | hx
  · rcases zy_b b with hb | hb
    · exact zy_thr (kd := 2) HL hn hM hB (Or.inr rfl) trivial (lt_fill_21 E HL.1 (pi_2 E HL.1 hX wH hp hb)) (fun w1 h1 h2 => qi_2 E h1 h2 hp hb)
    · rcases za_ch_ex D L S C p with ⟨C1, hc⟩ | ⟨h0, hr⟩
      · exact zy_ret HL hn hM ⟨wD, wH, h60, wL, wS, za_fil_W (za_chg_W hp wD wL wC hc) (za_fb_lt u v)⟩ rfl trivial (lr_fill E HL.1 (pi_4 E HL.1 hX wH hp hb (za_chg_0 hc) (kt_chy E HL.1 hX wH hp wL wS wC hc))) (fun w1 h1 h2 => qi_4 E h1 h2 hp hb wL wS wC hc (za_chg_W hp wD wL wC hc).1)
      · exact zy_thr (kd := 2) HL hn hM hB (Or.inr rfl) trivial (lt_fill_21 E HL.1 (pi_3 E HL.1 hX wH hp hb (kt_change_n E HL.1 hp hX wH h0 wL wS wC hr))) (fun w1 h1 h2 => qi_3 E h1 h2 hp hb wL wS wC h0 hr)
  · exact zy_thr (kd := 1) HL hn hM hB (Or.inl rfl) trivial (lt_fill_20 E HL.1 (pi_1 E HL.1 hX wH hx)) (fun w1 h1 h2 => qi_1 E h1 h2 hx)
set_option maxHeartbeats 1000000 in
theorem sp_read {V : zv_V} (E : zv_OK V) {n : Nat} {w : zw_W} (hI : zy_I n w) (hn : n ≤ 600) (x u : Int32) (z : Bool) : zy_S V zm_L_read yL_read zm_X4_read yX4_read [.ref 1, .int x, .int u, .int (za_bit z), .ref 165] [.ref 156, .int x, .int u, .int (za_bit z)] (fun _ => True) n w := by
  obtain ⟨D, H, b, L, S, C, HL, hX, hM, hB⟩ := hI
  obtain ⟨wD, wH, h60, wL, wS, wC⟩ := id hB
  rcases zy_ii x 16 with ⟨p, hp, rfl⟩ | hx
  · rcases zy_ii u 16 with ⟨i, hi, rfl⟩ | hu
    · rcases zy_b b with hb | hb
      · exact zy_thr (kd := 2) HL hn hM hB (Or.inr rfl) trivial (lt_read_21 E HL.1 (pr_3 E HL.1 hX wH hp hi hb)) (fun w1 h1 h2 => qr_3 E h1 h2 hp hi hb)
      · rcases zy_b z with rfl | rfl
        · exact zy_ret HL hn hM hB rfl trivial (lr_read E HL.1 (pr_5 E HL.1 hX wH hp hi hb wL wC rfl)) (fun w1 h1 h2 => qr_5 E h1 h2 hp hi hb wL (Or.inl rfl))
        · by_cases h0 : C.1 p = 0
          · exact zy_ret HL hn hM hB rfl trivial (lr_read E HL.1 (pr_6 E HL.1 hX wH hp hi hb wL wC rfl h0)) (fun w1 h1 h2 => qr_5 E h1 h2 hp hi hb wL (Or.inr h0))
          · exact zy_ret HL hn hM hB rfl trivial (lr_read E HL.1 (pr_4 E HL.1 hX wH hp hi hb wL wC rfl h0)) (fun w1 h1 h2 => qr_4 E h1 h2 hp hi hb wC h0)
    · exact zy_thr (kd := 1) HL hn hM hB (Or.inl rfl) trivial (lt_read_20 E HL.1 (pr_2 E HL.1 hX wH hp hu)) (fun w1 h1 h2 => qr_2 E h1 h2 hp hu)
  · exact zy_thr (kd := 1) HL hn hM hB (Or.inl rfl) trivial (lt_read_20 E HL.1 (pr_1 E HL.1 hX wH hx)) (fun w1 h1 h2 => qr_1 E h1 h2 hx)
set_option maxHeartbeats 1000000 in
theorem sp_spill {V : zv_V} (E : zv_OK V) {n : Nat} {w : zw_W} (hI : zy_I n w) (hn : n ≤ 600) (x : Int32) : zy_S V zm_L_spill yL_spill zm_X4_spill yX4_spill [.ref 1, .int x, .ref 165] [.ref 156, .int x] (fun _ => True) n w := by
  obtain ⟨D, H, b, L, S, C, HL, hX, hM, hB⟩ := hI
  obtain ⟨wD, wH, h60, wL, wS, wC⟩ := id hB
  rcases zy_ii x 16 with ⟨p, hp, rfl⟩ | hx
  · by_cases h0 : C.1 p = 0
    · exact zy_thr (kd := 1) HL hn hM hB (Or.inl rfl) trivial (lt_spill_20 E HL.1 (ps_2 E HL.1 hX wH hp wC h0)) (fun w1 h1 h2 => qs_2 E h1 h2 hp h0)
    · rcases zy_b (C.2.2 p) with hz | hz
      · exact zy_thr (kd := 1) HL hn hM hB (Or.inl rfl) trivial (lt_spill_20 E HL.1 (ps_3 E HL.1 hX wH hp wC h0 hz)) (fun w1 h1 h2 => qs_3 E h1 h2 hp wC h0 hz)
      · rcases Nat.lt_or_ge H.1 60 with g | g
        · exact zy_ret HL hn hM ⟨wD, za_hold_W wH (by omega) (wC.1 p hp) (wC.2 p hp h0), g, wL, wS, (show za_WC (za_spl C p true) from wC)⟩ (za_z_n h0).symm trivial (lr_spill E HL.1 (ps_5 E HL.1 hX wH hp wC h0 hz g)) (fun w1 h1 h2 => qs_5 E h1 h2 hp wC h0 hz g wH)
        · exact zy_thr (kd := 2) HL hn hM hB (Or.inr rfl) trivial (lt_spill_21 E HL.1 (ps_4 E HL.1 hX wH hp wC h0 hz g)) (fun w1 h1 h2 => qs_4 E h1 h2 hp wC h0 hz g wH)
  · exact zy_thr (kd := 1) HL hn hM hB (Or.inl rfl) trivial (lt_spill_20 E HL.1 (ps_1 E HL.1 hX wH hx)) (fun w1 h1 h2 => qs_1 E h1 h2 hx)
set_option maxHeartbeats 1000000 in
theorem sp_commit {V : zv_V} (E : zv_OK V) {n : Nat} {w : zw_W} (hI : zy_I n w) (hn : n ≤ 600) (z : Bool) : zy_S V zm_L_commit yL_commit zm_X4_commit yX4_commit [.ref 1, .int (za_bit z), .ref 165] [.ref 156, .int (za_bit z)] (fun _ => True) n w := by
  obtain ⟨D, H, b, L, S, C, HL, hX, hM, hB⟩ := hI
  obtain ⟨wD, wH, h60, wL, wS, wC⟩ := id hB
  have wT : za_WT (if za_z H H.1 then L else S) := by
    split
    · exact wL
    · exact wS
  rcases zy_b b with hb | hb
  · exact zy_thr (kd := 1) HL hn hM hB (Or.inl rfl) trivial (lt_commit_21 E HL.1 (pc_1 E HL.1 hX wH hb)) (fun w1 h1 h2 => qc_1 E h1 h2 hb)
  · rcases Nat.eq_zero_or_pos (za_n C.1 16) with h0 | h0
    · exact zy_thr (kd := 1) HL hn hM hB (Or.inl rfl) trivial (lt_commit_21 E HL.1 (pc_2 E HL.1 hX wH hb h0)) (fun w1 h1 h2 => qc_2 E h1 h2 hb h0)
    · rcases za_ff_c L S C.1 with hr | ⟨t, ht, ht0, hr⟩
      · exact zy_thr (kd := 1) HL hn hM hB (Or.inl rfl) trivial (lt_commit_21 E HL.1 (pc_3 E HL.1 hX wH hb h0 wL wS wC hr)) (fun w1 h1 h2 => qc_3 E h1 h2 hb h0 wL wS wC hr)
      · have wcH := za_cH_W (t := t) wH h60 wL wC ht
        have wcM := za_cM_W wcH ht
        have wcD : za_WD (za_cD D L C H t) := za_car_W za_all wD wcH _ (Nat.le_refl _)
        have wcL := za_cL_W (t := t) wL wC ht
        rcases zy_b z with rfl | rfl
        · have e1 : (if za_z (za_cM L C H t) (za_cM L C H t).1 then za_cL L C t else za_cS L S C H t) = za_cL L C t := by rw [za_z_m]; rfl
          have p9 := pc_5 E HL.1 hX wH hb h0 h60 wL wS wC ht hr
          rw [e1] at p9
          exact zy_ret (t' := false) HL hn hM ⟨za_car_W za_all wcD wcM _ (Nat.le_refl _), za_H0_W _, Nat.zero_le _, wcL, wcL, za_C0_W⟩ rfl trivial (lr_commit E HL.1 p9) (fun w1 h1 h2 => qc_4 (z := true) E h1 h2 hb h0 wL wS wC ht wH h60 hr)
        · have p9 := pc_4 E HL.1 hX wH hb h0 h60 wL wS wC ht hr
          rw [za_cS_e ht0] at p9
          exact zy_ret (t' := true) HL hn hM ⟨wcD, wcM, (by decide : (1 : Nat) ≤ 60), wcL, wT, za_C0_W⟩ (za_z_m L C H t).symm trivial (lr_commit E HL.1 p9) (fun w1 h1 h2 => qc_4 (z := false) E h1 h2 hb h0 wL wS wC ht wH h60 hr)
set_option maxHeartbeats 1000000 in
theorem sp_abort {V : zv_V} (E : zv_OK V) {n : Nat} {w : zw_W} (hI : zy_I n w) (hn : n ≤ 600)  : zy_S V zm_L_abort yL_abort zm_X4_abort yX4_abort [.ref 1, .ref 165] [.ref 156] (fun _ => True) n w := by
  obtain ⟨D, H, b, L, S, C, HL, hX, hM, hB⟩ := hI
  obtain ⟨wD, wH, h60, wL, wS, wC⟩ := id hB
  rcases zy_b b with hb | hb
  · exact zy_thr (kd := 1) HL hn hM hB (Or.inl rfl) trivial (lt_abort_21 E HL.1 (pa_1 E HL.1 hX wH hb)) (fun w1 h1 h2 => qa_1 E h1 h2 hb)
  · rcases Nat.eq_zero_or_pos (za_n C.1 16) with h0 | h0
    · exact zy_thr (kd := 1) HL hn hM hB (Or.inl rfl) trivial (lt_abort_21 E HL.1 (pa_2 E HL.1 hX wH hb h0)) (fun w1 h1 h2 => qa_2 E h1 h2 hb h0)
    · exact zy_ret HL hn hM ⟨wD, wH, h60, wL, wS, za_C0_W⟩ rfl trivial (lr_abort E HL.1 (pa_3 E HL.1 hX wH hb h0)) (fun w1 h1 h2 => qa_3 E h1 h2 hb h0 wC)
set_option maxHeartbeats 1000000 in
theorem sp_flush {V : zv_V} (E : zv_OK V) {n : Nat} {w : zw_W} (hI : zy_I n w) (hn : n ≤ 600)  : zy_S V zm_L_flush yL_flush zm_X4_flush yX4_flush [.ref 1, .ref 165] [.ref 156] (fun _ => True) n w := by
  obtain ⟨D, H, b, L, S, C, HL, hX, hM, hB⟩ := hI
  obtain ⟨wD, wH, h60, wL, wS, wC⟩ := id hB
  have wT : za_WT (if za_z H H.1 then L else S) := by
    split
    · exact wL
    · exact wS
  rcases zy_b b with hb | hb
  · exact zy_thr (kd := 1) HL hn hM hB (Or.inl rfl) trivial (lt_flush_21 E HL.1 (pl_1 E HL.1 hX wH hb)) (fun w1 h1 h2 => ql_1 E h1 h2 hb)
  · exact zy_ret HL hn hM ⟨za_car_W za_all wD wH _ (Nat.le_refl _), za_H0_W _, Nat.zero_le _, wL, wT, wC⟩ rfl trivial (lr_flush E HL.1 (pl_2 E HL.1 hX wH hb)) (fun w1 h1 h2 => ql_2 E h1 h2 hb wH)
set_option maxHeartbeats 1000000 in
theorem sp_damage {V : zv_V} (E : zv_OK V) {n : Nat} {w : zw_W} (hI : zy_I n w) (hn : n ≤ 600) (x u v : Int32) : zy_S V zm_L_damage yL_damage zm_X4_damage yX4_damage [.ref 1, .int x, .int u, .int v, .ref 165] [.ref 156, .int x, .int u, .int v] (fun _ => True) n w := by
  obtain ⟨D, H, b, L, S, C, HL, hX, hM, hB⟩ := hI
  obtain ⟨wD, wH, h60, wL, wS, wC⟩ := id hB
  rcases zy_ii x 48 with ⟨p, hp, rfl⟩ | hx
  · rcases zy_ii u 16 with ⟨i, hi, rfl⟩ | hu
    · rcases zy_ii v 256 with ⟨y, hy, rfl⟩ | hv
      · exact zy_ret HL hn hM ⟨za_dam_W wD hy, wH, h60, wL, wS, wC⟩ rfl trivial (lr_damage E HL.1 (pd_4 E HL.1 hX wH hp hi hy)) (fun w1 h1 h2 => qd_4 E h1 h2 hp hi hy)
      · exact zy_thr (kd := 1) HL hn hM hB (Or.inl rfl) trivial (lt_damage_20 E HL.1 (pd_3 E HL.1 hX wH hp hi hv)) (fun w1 h1 h2 => qd_3 E h1 h2 hp hi hv)
    · exact zy_thr (kd := 1) HL hn hM hB (Or.inl rfl) trivial (lt_damage_20 E HL.1 (pd_2 E HL.1 hX wH hp hu)) (fun w1 h1 h2 => qd_2 E h1 h2 hp hu)
  · exact zy_thr (kd := 1) HL hn hM hB (Or.inl rfl) trivial (lt_damage_20 E HL.1 (pd_1 E HL.1 hX wH hx)) (fun w1 h1 h2 => qd_1 E h1 h2 hx)
set_option maxHeartbeats 1000000 in
theorem sp_disk {V : zv_V} (E : zv_OK V) {n : Nat} {w : zw_W} (hI : zy_I n w) (hn : n ≤ 600) (x u : Int32) : zy_S V zm_L_disk yL_disk zm_X4_disk yX4_disk [.ref 1, .int x, .int u, .ref 165] [.ref 156, .int x, .int u] (fun _ => True) n w := by
  obtain ⟨D, H, b, L, S, C, HL, hX, hM, hB⟩ := hI
  obtain ⟨wD, wH, h60, wL, wS, wC⟩ := id hB
  rcases zy_ii x 48 with ⟨p, hp, rfl⟩ | hx
  · rcases zy_ii u 16 with ⟨i, hi, rfl⟩ | hu
    · exact zy_ret HL hn hM hB rfl trivial (lr_disk E HL.1 (pk_3 E HL.1 hX wH hp hi)) (fun w1 h1 h2 => qk_3 E h1 h2 hp hi)
    · exact zy_thr (kd := 1) HL hn hM hB (Or.inl rfl) trivial (lt_disk_20 E HL.1 (pk_2 E HL.1 hX wH hp hu)) (fun w1 h1 h2 => qk_2 E h1 h2 hp hu)
  · exact zy_thr (kd := 1) HL hn hM hB (Or.inl rfl) trivial (lt_disk_20 E HL.1 (pk_1 E HL.1 hX wH hx)) (fun w1 h1 h2 => qk_1 E h1 h2 hx)
set_option maxHeartbeats 1000000 in
theorem sp_place {V : zv_V} (E : zv_OK V) {n : Nat} {w : zw_W} (hI : zy_I n w) (hn : n ≤ 600) (x u : Int32) : zy_S V zm_L_place yL_place zm_X4_place yX4_place [.ref 1, .int x, .int u, .ref 165] [.ref 156, .int x, .int u] (fun _ => True) n w := by
  obtain ⟨D, H, b, L, S, C, HL, hX, hM, hB⟩ := hI
  obtain ⟨wD, wH, h60, wL, wS, wC⟩ := id hB
  rcases zy_ii x 16 with ⟨p, hp, rfl⟩ | hx
  · rcases zy_ii u 3 with ⟨k, hk, rfl⟩ | hu
    · rcases zy_b b with hb | hb
      · exact zy_thr (kd := 2) HL hn hM hB (Or.inr rfl) trivial (lt_place_21 E HL.1 (pp_3 E HL.1 hX wH hp hk hb)) (fun w1 h1 h2 => qp_3 E h1 h2 hp hk hb)
      · exact zy_ret HL hn hM hB rfl trivial (lr_place E HL.1 (pp_4 E HL.1 hX wH hp hk hb wC)) (fun w1 h1 h2 => qp_4 E h1 h2 hp hk hb wC)
    · exact zy_thr (kd := 1) HL hn hM hB (Or.inl rfl) trivial (lt_place_20 E HL.1 (pp_2 E HL.1 hX wH hp hu)) (fun w1 h1 h2 => qp_2 E h1 h2 hp hu)
  · exact zy_thr (kd := 1) HL hn hM hB (Or.inl rfl) trivial (lt_place_20 E HL.1 (pp_1 E HL.1 hX wH hx)) (fun w1 h1 h2 => qp_1 E h1 h2 hx)
set_option maxHeartbeats 1000000 in
theorem sp_free {V : zv_V} (E : zv_OK V) {n : Nat} {w : zw_W} (hI : zy_I n w) (hn : n ≤ 600) (x : Int32) : zy_S V zm_L_free yL_free zm_X4_free yX4_free [.ref 1, .int x, .ref 165] [.ref 156, .int x] (fun a => ∃ z : Bool, a = za_bit z) n w := by
  obtain ⟨D, H, b, L, S, C, HL, hX, hM, hB⟩ := hI
  obtain ⟨wD, wH, h60, wL, wS, wC⟩ := id hB
  rcases zy_ii x 48 with ⟨s, hs, rfl⟩ | hx
  · rcases zy_b b with hb | hb
    · exact zy_thr (kd := 2) HL hn hM hB (Or.inr rfl) ⟨false, rfl⟩ (lt_free_21 E HL.1 (pf_2 E HL.1 hX wH hs hb)) (fun w1 h1 h2 => qf_2 E h1 h2 hs hb)
    · obtain ⟨z, hz⟩ : ∃ z : Bool, z = true ↔ ¬ za_us L S C.1 s := by
        classical
        exact ⟨decide (¬ za_us L S C.1 s), decide_eq_true_iff⟩
      exact zy_ret HL hn hM hB rfl ⟨z, rfl⟩ (lr_free E HL.1 (pf_3 E HL.1 hX wH hs hb wL wS wC hz)) (fun w1 h1 h2 => qf_3 E h1 h2 hs hb wL wS wC hz)
  · exact zy_thr (kd := 1) HL hn hM hB (Or.inl rfl) ⟨false, rfl⟩ (lt_free_20 E HL.1 (pf_1 E HL.1 hX wH hx)) (fun w1 h1 h2 => qf_1 E h1 h2 hx)
set_option maxHeartbeats 1000000 in
theorem sp_held {V : zv_V} (E : zv_OK V) {n : Nat} {w : zw_W} (hI : zy_I n w) (hn : n ≤ 600) (x u : Int32) : zy_S V zm_L_held yL_held zm_X4_held yX4_held [.ref 1, .int x, .int u, .ref 165] [.ref 156, .int x, .int u] (fun _ => True) n w := by
  obtain ⟨D, H, b, L, S, C, HL, hX, hM, hB⟩ := hI
  obtain ⟨wD, wH, h60, wL, wS, wC⟩ := id hB
  rcases zy_ii x H.1 with ⟨k, hk, rfl⟩ | hx
  · by_cases hm : u = (-1)
    · subst hm
      exact zy_ret HL hn hM hB rfl trivial (lr_held E HL.1 (ph_2 E HL.1 hX wH hk)) (fun w1 h1 h2 => qh_2 E h1 h2 wH hk)
    · rcases zy_ii u 16 with ⟨i, hi, rfl⟩ | hu
      · exact zy_ret HL hn hM hB rfl trivial (lr_held E HL.1 (ph_4 E HL.1 hX wH hk hi)) (fun w1 h1 h2 => qh_4 E h1 h2 wH hk hi)
      · exact zy_thr (kd := 1) HL hn hM hB (Or.inl rfl) trivial (lt_held_20 E HL.1 (ph_3 E HL.1 hX wH hk hu hm)) (fun w1 h1 h2 => qh_3 E h1 h2 wH hk hu hm)
  · exact zy_thr (kd := 1) HL hn hM hB (Or.inl rfl) trivial (lt_held_20 E HL.1 (ph_1 E HL.1 hX wH hx)) (fun w1 h1 h2 => qh_1 E h1 h2 wH hx)
set_option maxHeartbeats 1000000 in
theorem sp_total {V : zv_V} (E : zv_OK V) {n : Nat} {w : zw_W} (hI : zy_I n w) (hn : n ≤ 600) (x : Int32) : zy_S V zm_L_total yL_total zm_X4_total yX4_total [.ref 1, .int x, .ref 165] [.ref 156, .int x] (fun _ => True) n w := by
  obtain ⟨D, H, b, L, S, C, HL, hX, hM, hB⟩ := hI
  obtain ⟨wD, wH, h60, wL, wS, wC⟩ := id hB
  rcases zy_ii x 8 with ⟨k, hk, rfl⟩ | hx
  · by_cases k0 : k = 0
    · subst k0
      exact zy_ret HL hn hM hB rfl trivial (lr_total E HL.1 (pt_2 E HL.1 hX wH)) (fun w1 h1 h2 => qt_2 E h1 h2)
    · by_cases k7 : k = 7
      · subst k7
        exact zy_ret HL hn hM hB rfl trivial (lr_total E HL.1 (pt_3 E HL.1 hX wH)) (fun w1 h1 h2 => qt_3 E h1 h2)
      · rcases zy_b b with hb | hb
        · exact zy_ret HL hn hM hB rfl trivial (lr_total E HL.1 (pt_4 E HL.1 hX wH (k := k) (by omega) (by omega) hb)) (fun w1 h1 h2 => qt_4 E h1 h2 (k := k) (by omega) (by omega) hb)
        · obtain rfl | rfl | rfl | rfl | rfl | rfl : k = 1 ∨ k = 2 ∨ k = 3 ∨ k = 4 ∨ k = 5 ∨ k = 6 := by omega
          · rcases Nat.eq_zero_or_pos (za_n C.1 16) with h0 | h0
            · exact zy_ret HL hn hM hB rfl trivial (lr_total E HL.1 (pt_5 (k := 1) E HL.1 hX wH (by decide) (by decide) hb (kt_mt1n E HL.1 hX h0))) (fun w1 h1 h2 => qt_6 E h1 h2 hb h0)
            · exact zy_ret HL hn hM hB rfl trivial (lr_total E HL.1 (pt_5 (k := 1) E HL.1 hX wH (by decide) (by decide) hb (kt_mt1y E HL.1 hX h0))) (fun w1 h1 h2 => qt_5 E h1 h2 hb h0 wC)
          · obtain ⟨f, hf⟩ : ∃ f : Nat → Bool, ∀ s, s < 48 → (f s = true ↔ ¬ za_us L S C.1 s) := by
              classical
              exact ⟨fun s => decide (¬ za_us L S C.1 s), fun s _ => decide_eq_true_iff⟩
            exact zy_ret HL hn hM hB rfl trivial (lr_total E HL.1 (pt_5 (k := 2) E HL.1 hX wH (by decide) (by decide) hb (kt_mt2 E HL.1 hX wL wS wC hf))) (fun w1 h1 h2 => qt_7 E h1 h2 hb wL wS wC hf)
          · exact zy_ret HL hn hM hB rfl trivial (lr_total E HL.1 (pt_5 (k := 3) E HL.1 hX wH (by decide) (by decide) hb (kt_mt3 E HL.1 hX))) (fun w1 h1 h2 => qt_8 E h1 h2 hb)
          · exact zy_ret HL hn hM hB rfl trivial (lr_total E HL.1 (pt_5 (k := 4) E HL.1 hX wH (by decide) (by decide) hb (kt_mt4 E HL.1 hX))) (fun w1 h1 h2 => qt_9 E h1 h2 hb)
          · exact zy_ret HL hn hM hB rfl trivial (lr_total E HL.1 (pt_5 (k := 5) E HL.1 hX wH (by decide) (by decide) hb (kt_mt5 E HL.1 hX))) (fun w1 h1 h2 => qt_10 E h1 h2 hb)
          · exact zy_ret HL hn hM hB rfl trivial (lr_total E HL.1 (pt_5 (k := 6) E HL.1 hX wH (by decide) (by decide) hb (kt_mt6 E HL.1 hX))) (fun w1 h1 h2 => qt_11 E h1 h2 hb)
  · exact zy_thr (kd := 1) HL hn hM hB (Or.inl rfl) trivial (lt_total_20 E HL.1 (pt_1 E HL.1 hX wH hx)) (fun w1 h1 h2 => qt_1 E h1 h2 hx)
theorem sp_format {V : zv_V} (E : zv_OK V) {n : Nat} {w : zw_W} (hI : zy_I n w) (hn : n ≤ 600) : zg_C V zm_X3_format yX3_format 8 190 [.ref 1] w (zq_p (.inl none) (fun w1 => zy_L (n + 1) w1 ∧ zg_C V zm_X4_format yX4_format 8 190 [.ref 156] w1 (zq_p (.inl none) (zy_I (n + 1))))) := by
  obtain ⟨D, H, b, L, S, C, HL, hX, hM, hB⟩ := hI
  obtain ⟨wD, wH, h60, wL, wS, wC⟩ := id hB
  have w9 : za_WT (za_mt za_D0) := za_mt_W za_D0_t
  exact zy_two HL hn hM ⟨za_D0_W, za_H0_W _, Nat.zero_le _, w9, w9, za_C0_W⟩ rfl (pm_1 E HL.1 hX wH) (fun w1 h1 h2 => qm_1 E h1 h2)
theorem sp_fail {V : zv_V} (E : zv_OK V) {n : Nat} {w : zw_W} (hI : zy_I n w) (hn : n ≤ 600) (v : Int64) : ∃ ok : Bool, zg_C V zm_X3_fail yX3_fail 8 190 [.ref 1, .long v] w (zq_p (.inl (some (.int (za_bit ok)))) (fun w1 => zy_L (n + 1) w1 ∧ zg_C V zm_X4_fail yX4_fail 8 190 [.ref 156, .long v] w1 (zq_p (.inl (some (.int (za_bit ok)))) (zy_I (n + 1))))) := by
  obtain ⟨D, H, b, L, S, C, HL, hX, hM, hB⟩ := hI
  obtain ⟨wD, wH, h60, wL, wS, wC⟩ := id hB
  obtain ⟨ok, hok⟩ : ∃ ok : Bool, ok = true ↔ za_mr (za_car D H (zb v) H.1) ∧ za_tr (za_car D H (zb v) H.1) := by
    classical
    exact ⟨decide (za_mr (za_car D H (zb v) H.1) ∧ za_tr (za_car D H (zb v) H.1)), decide_eq_true_iff⟩
  have w8 : ∀ T : za_T, za_WT T → za_WT (if ok then za_mt (za_car D H (zb v) H.1) else T) := by
    intro T hT
    split
    · next g => exact za_mt_W (hok.mp g).2
    · exact hT
  exact ⟨ok, zy_two HL hn hM ⟨za_car_W (zb v) wD wH _ (Nat.le_refl _), za_H0_W _, Nat.zero_le _, w8 L wL, w8 S wS, za_C0_W⟩ rfl (px_1 E HL.1 hX wH h60 wD hok) (fun w1 h1 h2 => qx_1 E h1 h2 wH h60 wD hok)⟩

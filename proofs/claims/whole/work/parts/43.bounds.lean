/-! The state keeps its bounds; what a change does; whether a master is held. -/
theorem kt_chy {V : zv_V} (E : zv_OK V) {w : zw_W} (HX : zl_X w) {D : Nat → Nat → Nat} {H : za_H} {b : Bool} {L S : za_T} {C : za_C} (hX : zr_X (zw_i w) D H b L S C) (hH : za_WH H) {p : Nat} (hp : p < 16) (wL : za_WT L) (wS : za_WT S) (wC : za_WC C) {C1 : za_C} (h : za_chg D L S C p C1) : zg_C V zm_X3_changePage yX3_changePage 3 130 [.ref 1, .int (nI p)] w (zq_p (.inl none) (zr_to w 135 155 (zr_X · D H b L S C1))) := by
  rcases h with ⟨h, rfl⟩ | ⟨h0, s, hs, h1, h2, rfl⟩
  · exact kt_change_h E HX hp hX hH h wC
  · exact kt_change_y E HX hp hX hH h0 wL wS wC hs h2
theorem za_ch_ex (D : Nat → Nat → Nat) (L S : za_T) (C : za_C) (p : Nat) : (∃ C1, za_chg D L S C p C1) ∨ (C.1 p = 0 ∧ za_ff L S C.1 (-1)) := by
  by_cases h : C.1 p = 0
  · obtain ⟨r, hr⟩ := za_ff_ex L S C.1
    have hr' := hr
    rcases hr with ⟨s, hs, rfl, h1, h2⟩ | ⟨rfl, g⟩
    · exact Or.inl ⟨_, Or.inr ⟨h, s, hs, fun z => h1 (Or.inl z), hr', rfl⟩⟩
    · exact Or.inr ⟨h, hr'⟩
  · exact Or.inl ⟨_, Or.inl ⟨h, rfl⟩⟩
theorem za_chg_W {D : Nat → Nat → Nat} {L S : za_T} {C C1 : za_C} {p : Nat} (hp : p < 16) (hD : za_WD D) (wL : za_WT L) (wC : za_WC C) (h : za_chg D L S C p C1) : za_WC C1 := by
  rcases h with ⟨h, rfl⟩ | ⟨h0, s, hs, h1, h2, rfl⟩
  · exact wC
  · refine ⟨fun q hq => ?_, fun q hq e i hi => ?_⟩
    · show zw_ro C.1 p s q < 48
      by_cases k : q = p
      · rw [k, zw_ro_s]
        exact hs
      · rw [zw_ro_n _ _ k]
        exact wC.1 q hq
    · show zw_ro C.2.1 p (za_lt D L p) q i < 256
      by_cases k : q = p
      · rw [k, zw_ro_s]
        exact za_lt_W hD wL hp i hi
      · rw [zw_ro_n _ _ k]
        exact wC.2 q hq (fun z => e ((zw_ro_n _ _ k).trans z)) i hi
theorem za_put_W {C : za_C} {p i x : Nat} (wC : za_WC C) (h0 : C.1 p ≠ 0) (hx : x < 256) : za_WC (za_put C p i x) := by
  refine ⟨wC.1, fun q hq e j hj => ?_⟩
  show zw_ro C.2.1 p (zw_ro (C.2.1 p) i x) q j < 256
  by_cases k : q = p
  · subst k
    rw [zw_ro_s]
    by_cases k2 : j = i
    · rw [k2, zw_ro_s]
      exact hx
    · rw [zw_ro_n _ _ k2]
      exact wC.2 q hq e j hj
  · rw [zw_ro_n _ _ k]
    exact wC.2 q hq e j hj
theorem za_fil_W {C : za_C} {p : Nat} {f : Nat → Nat} (wC : za_WC C) (hf : ∀ j, f j < 256) : za_WC (za_fil C p f) := by
  refine ⟨wC.1, fun q hq e j hj => ?_⟩
  show zw_ro C.2.1 p f q j < 256
  by_cases k : q = p
  · rw [k, zw_ro_s]
    exact hf j
  · rw [zw_ro_n _ _ k]
    exact wC.2 q hq e j hj
theorem za_dam_W {D : Nat → Nat → Nat} {s i y : Nat} (hD : za_WD D) (hy : y < 256) : za_WD (za_dam D s i y) := by
  intro t ht j hj
  unfold za_dam
  by_cases e : t = s ∧ j = i
  · rw [e.1, e.2, zw_up_s]
    exact hy
  · have e' : t ≠ s ∨ j ≠ i := by
      rcases Nat.decEq t s with a | a
      · exact Or.inl a
      · exact Or.inr (fun z => e ⟨a, z⟩)
    rw [zw_up_n _ _ e']
    exact hD t ht j hj
theorem za_mt_W {D : Nat → Nat → Nat} (h : za_tr D) : za_WT (za_mt D) := ⟨fun p hp => (h.2.2 p hp).1, h.2.1⟩
theorem za_cL_W {L : za_T} {C : za_C} {t : Nat} (wL : za_WT L) (wC : za_WC C) (ht : t < 48) : za_WT (za_cL L C t) := by
  refine ⟨fun p hp => ?_, ht⟩
  show za_op L C p < 48
  have h1 := wL.1 p hp
  have h2 := wC.1 p hp
  unfold za_op
  split <;> omega
theorem za_H0_W (x : (Nat → Nat) × (Nat → Nat → Nat)) : za_WH (0, x) := ⟨Nat.zero_le _, fun k hk => absurd hk (Nat.not_lt_zero k), fun k hk => absurd hk (Nat.not_lt_zero k)⟩
/-- whether a held write is the master's -/
theorem za_z_e {H G : za_H} {n : Nat} (h : ∀ k, k < n → H.2.1 k = G.2.1 k) : za_z H n = za_z G n := by
  induction n with
  | zero => rfl
  | succ n ih =>
    unfold za_z
    rw [ih (fun k hk => h k (by omega)), h n (by omega)]
theorem za_z_h (H : za_H) (t : Nat) (b : Nat → Nat) : za_z (za_hold H t b) (H.1 + 1) = (za_z H H.1 || decide (t = 0)) := by
  show (za_z (za_hold H t b) H.1 || decide (zw_ro H.2.1 H.1 t H.1 = 0)) = _
  rw [zw_ro_s, za_z_e (G := H) (fun k hk => zw_ro_n _ _ (by omega))]
theorem za_z_n {H : za_H} {t : Nat} {b : Nat → Nat} (ht : t ≠ 0) : za_z (za_hold H t b) (za_hold H t b).1 = za_z H H.1 := by
  show za_z (za_hold H t b) (H.1 + 1) = _
  rw [za_z_h, decide_eq_false ht, Bool.or_false]
theorem za_z_u (C : za_C) (H : za_H) (n : Nat) : za_z (za_un C H n) (za_un C H n).1 = za_z H H.1 := by
  induction n with
  | zero => rfl
  | succ n ih =>
    unfold za_un
    split
    · next g => rw [za_z_n g.1, ih]
    · exact ih
theorem za_z_c {L : za_T} {C : za_C} {H : za_H} {t : Nat} (ht : t ≠ 0) : za_z (za_cH L C H t) (za_cH L C H t).1 = za_z H H.1 := (za_z_n ht).trans (za_z_u C H 16)
theorem za_z_m (L : za_T) (C : za_C) (H : za_H) (t : Nat) : za_z (za_cM L C H t) (za_cM L C H t).1 = true := by
  show za_z (za_hold (0, (za_cH L C H t).2) 0 _) (0 + 1) = true
  rw [za_z_h (0, (za_cH L C H t).2)]
  simp
theorem za_cS_e {L S : za_T} {C : za_C} {H : za_H} {t : Nat} (ht : t ≠ 0) : za_cS L S C H t = if za_z H H.1 then L else S := by
  unfold za_cS
  rw [za_z_c ht]

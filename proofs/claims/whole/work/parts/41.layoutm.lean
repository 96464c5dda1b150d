/-! The reference's cells come to lie. -/
def zj_P (n m : Nat) (w0 w : zw_W) : Prop := w.1 = n ∧ (∀ k, 156 ≤ k → k < n → zw_t w k = zl_t k ∧ zw_i w k = fun _ => 0) ∧ (∀ j r, zl_r 156 j = some r → r ≤ m → zw_r w 156 j = some r) ∧ ∀ k, k < 156 → zw_t w k = zw_t w0 k ∧ zw_r w k = zw_r w0 k ∧ zw_i w k = zw_i w0 k
theorem zj_156 (j : Nat) : zl_r 156 j = if j = 0 then some 157 else if j = 1 then some 158 else if j = 2 then some 159 else if j = 9 then some 160 else if j = 10 then some 161 else if j = 11 then some 162 else if j = 12 then some 163 else if j = 13 then some 164 else none := rfl
theorem zj_d {j r : Nat} (h : zl_r 156 j = some r) : j = (if r ≤ 159 then r - 157 else r - 151) ∧ 157 ≤ r ∧ r ≤ 164 := by
  rw [zj_156] at h
  by_cases g : j = 0
  · rw [if_pos g] at h; cases h; exact ⟨g, by decide, by decide⟩
  rw [if_neg g] at h
  by_cases g : j = 1
  · rw [if_pos g] at h; cases h; exact ⟨g, by decide, by decide⟩
  rw [if_neg g] at h
  by_cases g : j = 2
  · rw [if_pos g] at h; cases h; exact ⟨g, by decide, by decide⟩
  rw [if_neg g] at h
  by_cases g : j = 9
  · rw [if_pos g] at h; cases h; exact ⟨g, by decide, by decide⟩
  rw [if_neg g] at h
  by_cases g : j = 10
  · rw [if_pos g] at h; cases h; exact ⟨g, by decide, by decide⟩
  rw [if_neg g] at h
  by_cases g : j = 11
  · rw [if_pos g] at h; cases h; exact ⟨g, by decide, by decide⟩
  rw [if_neg g] at h
  by_cases g : j = 12
  · rw [if_pos g] at h; cases h; exact ⟨g, by decide, by decide⟩
  rw [if_neg g] at h
  by_cases g : j = 13
  · rw [if_pos g] at h; cases h; exact ⟨g, by decide, by decide⟩
  rw [if_neg g] at h
  cases h
theorem zj_nw {n m : Nat} {w0 w : zw_W} (h : zj_P n m w0 w) (hn : 157 ≤ n) {t : Nat × Nat} (ht : zl_t n = t) : zj_P (n + 1) m w0 (zw_nw w t) := by
  obtain ⟨h1, h2, h3, h4⟩ := h
  subst h1
  refine ⟨rfl, fun k g1 g2 => ?_, fun j r e f => ?_, fun k g => ?_⟩
  · show zw_ro (zw_t w) w.1 t k = _ ∧ zw_ro (zw_i w) w.1 (fun _ => 0) k = _
    by_cases q : k = w.1
    · rw [q, zw_ro_s, zw_ro_s]
      exact ⟨ht.symm, rfl⟩
    · rw [zw_ro_n _ _ q, zw_ro_n _ _ q]
      exact h2 k g1 (by omega)
  · show zw_ro (zw_r w) w.1 (fun _ => none) 156 j = _
    rw [zw_ro_n _ _ (by omega)]
    exact h3 j r e f
  · show zw_ro (zw_t w) w.1 t k = _ ∧ zw_ro (zw_r w) w.1 (fun _ => none) k = _ ∧ zw_ro (zw_i w) w.1 (fun _ => 0) k = _
    rw [zw_ro_n _ _ (by omega), zw_ro_n _ _ (by omega), zw_ro_n _ _ (by omega)]
    exact h4 k g
theorem zj_sr {n m j : Nat} {w0 w : zw_W} (h : zj_P n m w0 w) (hr : zl_r 156 j = some (m + 1)) : zj_P n (m + 1) w0 (zw_sr w 156 j (some (m + 1))) := by
  obtain ⟨h1, h2, h3, h4⟩ := h
  refine ⟨h1, h2, fun c r e f => ?_, fun k g => ?_⟩
  · show zw_up (zw_r w) 156 j (some (m + 1)) 156 c = _
    by_cases q : c = j
    · rw [q] at e ⊢
      rw [zw_up_s, ← hr, e]
    · rw [zw_up_n _ _ (Or.inr q)]
      refine h3 c r e ?_
      rcases Nat.lt_or_ge r (m + 1) with z | z
      · omega
      · exfalso
        have z2 : r = m + 1 := by omega
        subst z2
        exact q ((zj_d e).1.trans (zj_d hr).1.symm)
  · show zw_t w k = _ ∧ zw_up (zw_r w) 156 j (some (m + 1)) k = _ ∧ zw_i w k = _
    rw [zw_up_row _ _ _ (by omega)]
    exact h4 k g
theorem zj_z {I : Nat → Nat → Int32} (h : ∀ k, 156 ≤ k → k < 165 → I k = fun _ => 0) : zu_X I (fun _ _ => 0) (0, fun _ => 0, fun _ _ => 0) false (fun _ => 0, 0, 0) (fun _ => 0, 0, 0) za_C0 false :=
  ⟨fun s _ i _ => congrFun (h 157 (by decide) (by decide)) _, ⟨congrFun (h 156 (by decide) (by decide)) 14, fun k hk => absurd hk (Nat.not_lt_zero k), fun k hk => absurd hk (Nat.not_lt_zero k)⟩, congrFun (h 156 (by decide) (by decide)) 7, ⟨fun p _ => congrFun (h 158 (by decide) (by decide)) p, congrFun (h 156 (by decide) (by decide)) 3, congrFun (h 156 (by decide) (by decide)) 5⟩, ⟨fun p _ => congrFun (h 159 (by decide) (by decide)) p, congrFun (h 156 (by decide) (by decide)) 4, congrFun (h 156 (by decide) (by decide)) 6⟩, zu_c0 (congrFun (h 156 (by decide) (by decide)) 8), congrFun (h 156 (by decide) (by decide)) 15⟩

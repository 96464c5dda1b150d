/-! How the cells come to lie where the layout says. -/
/-- the first n cells lie as the layout says, all ints are 0, and the references of which F tells are there -/
def zi_P (n : Nat) (F : Nat → Nat → Bool) (w : zw_W) : Prop := w.1 = n ∧ (∀ k, 1 ≤ k → k < n → zw_t w k = zl_t k) ∧ (∀ k, 1 ≤ k → zw_i w k = fun _ => 0) ∧ ∀ k, 1 ≤ k → k < n → ∀ j r, F k j = true → zl_r k j = some r → zw_r w k j = some r
theorem zi_nw {n : Nat} {F : Nat → Nat → Bool} {w : zw_W} (h : zi_P n F w) {t : Nat × Nat} (ht : zl_t n = t) (hF : ∀ j, F n j = false) : zi_P (n + 1) F (zw_nw w t) := by
  obtain ⟨h1, h2, h3, h4⟩ := h
  subst h1
  refine ⟨rfl, fun k g1 g2 => ?_, fun k g1 => ?_, fun k g1 g2 j r f e => ?_⟩
  · show zw_ro (zw_t w) w.1 t k = _
    by_cases q : k = w.1
    · rw [q, zw_ro_s]
      exact ht.symm
    · rw [zw_ro_n _ _ q]
      exact h2 k g1 (by omega)
  · show zw_ro (zw_i w) w.1 (fun _ => 0) k = _
    by_cases q : k = w.1
    · rw [q, zw_ro_s]
    · rw [zw_ro_n _ _ q]
      exact h3 k g1
  · show zw_ro (zw_r w) w.1 (fun _ => none) k j = _
    by_cases q : k = w.1
    · rw [q, hF] at f
      exact absurd f (by decide)
    · rw [zw_ro_n _ _ q]
      exact h4 k g1 (by omega) j r f e
theorem zi_mm {n a b : Nat} {F G : Nat → Nat → Bool} {w : zw_W} (h : zi_P n F w) (ht : zl_t n = (13, a)) (ht2 : ∀ j, j < a → zl_t (n + 1 + j) = (10, b)) (hr : ∀ j r, zl_r n j = some r → j < a ∧ r = n + 1 + j) (hG : ∀ k j, k < n → G k j = F k j) (hN : ∀ k j, n < k → k < n + 1 + a → G k j = false) : zi_P (n + 1 + a) G (zw_mm w a b) := by
  obtain ⟨h1, h2, h3, h4⟩ := h
  subst h1
  refine ⟨rfl, fun k g1 g2 => ?_, fun k g1 => ?_, fun k g1 g2 j r f e => ?_⟩
  · show (if k = w.1 then (13, a) else if w.1 < k ∧ k < w.1 + 1 + a then (10, b) else zw_t w k) = _
    by_cases q : k = w.1
    · rw [if_pos q, q]
      exact ht.symm
    · rw [if_neg q]
      by_cases q2 : w.1 < k
      · rw [if_pos ⟨q2, g2⟩, ← ht2 (k - (w.1 + 1)) (by omega)]
        exact congrArg zl_t (by omega)
      · rw [if_neg (fun z => q2 z.1)]
        exact h2 k g1 (by omega)
  · show (if w.1 < k ∧ k < w.1 + 1 + a then (fun _ => 0) else zw_i w k) = _
    by_cases q2 : w.1 < k ∧ k < w.1 + 1 + a
    · rw [if_pos q2]
    · rw [if_neg q2]
      exact h3 k g1
  · show (if k = w.1 then (fun j => if j < a then some (w.1 + 1 + j) else none) else zw_r w k) j = _
    by_cases q : k = w.1
    · rw [if_pos q]
      subst q
      obtain ⟨z1, z2⟩ := hr j r e
      show (if j < a then some (w.1 + 1 + j) else none) = _
      rw [if_pos z1, z2]
    · rw [if_neg q]
      rcases Nat.lt_or_ge k w.1 with z | z
      · exact h4 k g1 z j r (by rw [← hG k j z]; exact f) e
      · rw [hN k j (by omega) g2] at f
        exact absurd f (by decide)
theorem zi_sr {n k j r : Nat} {F G : Nat → Nat → Bool} {w : zw_W} (h : zi_P n F w) (hr : zl_r k j = some r) (hG : ∀ a c, (a ≠ k ∨ c ≠ j) → G a c = true → F a c = true) : zi_P n G (zw_sr w k j (some r)) := by
  obtain ⟨h1, h2, h3, h4⟩ := h
  refine ⟨h1, h2, h3, fun a g1 g2 c s f e => ?_⟩
  show zw_up (zw_r w) k j (some r) a c = _
  by_cases q : a = k ∧ c = j
  · rw [q.1, q.2] at e ⊢
    rw [zw_up_s, ← hr, e]
  · have q' : a ≠ k ∨ c ≠ j := by
      rcases Nat.decEq a k with z | z
      · exact Or.inl z
      · exact Or.inr (fun y => q ⟨z, y⟩)
    rw [zw_up_n _ _ q']
    exact h4 a g1 g2 c s (hG a c q' f) e
/-- at which step of the constructor a reference is put (100: never) -/
def zi_o (k j : Nat) : Nat :=
  if k = 2 then 0 else if k = 53 then 0 else if k = 137 then 0 else
  if k = 1 then (if j = 0 then 1 else if j = 1 then 4 else if j = 2 then 6 else if j = 3 then 8 else if j = 4 then 12 else if j = 5 then 13 else 100) else
  if k = 51 then (if j = 0 then 2 else if j = 1 then 3 else 100) else
  if k = 131 then (if j = 0 then 5 else 100) else if k = 133 then (if j = 0 then 7 else 100) else
  if k = 135 then (if j = 0 then 9 else if j = 1 then 10 else if j = 2 then 11 else 100) else 100
def zi_F (m : Nat) (k j : Nat) : Bool := decide (zi_o k j ≤ m)
theorem zi_all {k j r : Nat} (hk : k < 156) (h : zl_r k j = some r) : zi_F 13 k j = true := by
  have key : zi_o k j ≤ 13 := by
    unfold zl_r at h
    unfold zi_o
    by_cases e1 : k = 1
    · rw [if_pos e1] at h
      rw [if_neg (by omega), if_neg (by omega), if_neg (by omega), if_pos e1]
      by_cases g0 : j = 0
      · rw [if_pos g0]; omega
      rw [if_neg g0] at h ⊢
      by_cases g1 : j = 1
      · rw [if_pos g1]; omega
      rw [if_neg g1] at h ⊢
      by_cases g2 : j = 2
      · rw [if_pos g2]; omega
      rw [if_neg g2] at h ⊢
      by_cases g3 : j = 3
      · rw [if_pos g3]; omega
      rw [if_neg g3] at h ⊢
      by_cases g4 : j = 4
      · rw [if_pos g4]; omega
      rw [if_neg g4] at h ⊢
      by_cases g5 : j = 5
      · rw [if_pos g5]; omega
      rw [if_neg g5] at h
      cases h
    rw [if_neg e1] at h
    by_cases e2 : k = 2
    · rw [if_pos e2]; omega
    rw [if_neg e2] at h ⊢
    by_cases e3 : k = 53
    · rw [if_pos e3]; omega
    rw [if_neg e3]
    by_cases e4 : k = 137
    · rw [if_pos e4]; omega
    rw [if_neg e4, if_neg e1]
    by_cases e5 : k = 51
    · rw [if_pos e5] at h ⊢
      by_cases g0 : j = 0
      · rw [if_pos g0]; omega
      rw [if_neg g0] at h ⊢
      by_cases g1 : j = 1
      · rw [if_pos g1]; omega
      rw [if_neg g1] at h
      cases h
    rw [if_neg e5] at h ⊢
    rw [if_neg e3] at h
    by_cases e6 : k = 131
    · rw [if_pos e6] at h ⊢
      by_cases g0 : j = 0
      · rw [if_pos g0]; omega
      rw [if_neg g0] at h
      cases h
    rw [if_neg e6] at h ⊢
    by_cases e7 : k = 133
    · rw [if_pos e7] at h ⊢
      by_cases g0 : j = 0
      · rw [if_pos g0]; omega
      rw [if_neg g0] at h
      cases h
    rw [if_neg e7] at h ⊢
    by_cases e8 : k = 135
    · rw [if_pos e8] at h ⊢
      by_cases g0 : j = 0
      · rw [if_pos g0]; omega
      rw [if_neg g0] at h ⊢
      by_cases g1 : j = 1
      · rw [if_pos g1]; omega
      rw [if_neg g1] at h ⊢
      by_cases g2 : j = 2
      · rw [if_pos g2]; omega
      rw [if_neg g2] at h
      cases h
    rw [if_neg e8] at h
    rw [if_neg e4, if_neg (by omega)] at h
    cases h
  exact decide_eq_true key

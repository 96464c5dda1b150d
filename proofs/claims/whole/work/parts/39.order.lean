/-! The order in which a constructor puts its references. -/
def zi_d (m : Nat) : Nat × Nat := if m = 1 then (1, 0) else if m = 2 then (51, 0) else if m = 3 then (51, 1) else if m = 4 then (1, 1) else if m = 5 then (131, 0) else if m = 6 then (1, 2) else if m = 7 then (133, 0) else if m = 8 then (1, 3) else if m = 9 then (135, 0) else if m = 10 then (135, 1) else if m = 11 then (135, 2) else if m = 12 then (1, 4) else (1, 5)
theorem zi_o1 (j : Nat) : zi_o 1 j = if j = 0 then 1 else if j = 1 then 4 else if j = 2 then 6 else if j = 3 then 8 else if j = 4 then 12 else if j = 5 then 13 else 100 := rfl
theorem zi_o51 (j : Nat) : zi_o 51 j = if j = 0 then 2 else if j = 1 then 3 else 100 := rfl
theorem zi_o131 (j : Nat) : zi_o 131 j = if j = 0 then 5 else 100 := rfl
theorem zi_o133 (j : Nat) : zi_o 133 j = if j = 0 then 7 else 100 := rfl
theorem zi_o135 (j : Nat) : zi_o 135 j = if j = 0 then 9 else if j = 1 then 10 else if j = 2 then 11 else 100 := rfl
theorem zi_oe {k : Nat} (h : k ≠ 2 ∧ k ≠ 53 ∧ k ≠ 137 ∧ k ≠ 1 ∧ k ≠ 51 ∧ k ≠ 131 ∧ k ≠ 133 ∧ k ≠ 135) (j : Nat) : zi_o k j = 100 := by
  obtain ⟨h1, h2, h3, h4, h5, h6, h7, h8⟩ := h
  unfold zi_o
  rw [if_neg h1, if_neg h2, if_neg h3, if_neg h4, if_neg h5, if_neg h6, if_neg h7, if_neg h8]
theorem zi_od {k j : Nat} (h1 : 1 ≤ zi_o k j) (h2 : zi_o k j < 100) : (k, j) = zi_d (zi_o k j) := by
  by_cases e : k = 2 ∨ k = 53 ∨ k = 137
  · rcases e with rfl | rfl | rfl <;> exact absurd h1 (by show ¬ 1 ≤ 0; decide)
  · by_cases e1 : k = 1
    · subst e1
      rw [zi_o1] at h1 h2 ⊢
      by_cases g0 : j = 0
      · subst g0; rfl
      by_cases g1 : j = 1
      · subst g1; rfl
      by_cases g2 : j = 2
      · subst g2; rfl
      by_cases g3 : j = 3
      · subst g3; rfl
      by_cases g4 : j = 4
      · subst g4; rfl
      by_cases g5 : j = 5
      · subst g5; rfl
      rw [if_neg g0, if_neg g1, if_neg g2, if_neg g3, if_neg g4, if_neg g5] at h2
      omega
    by_cases e2 : k = 51
    · subst e2
      rw [zi_o51] at h1 h2 ⊢
      by_cases g0 : j = 0
      · subst g0; rfl
      by_cases g1 : j = 1
      · subst g1; rfl
      rw [if_neg g0, if_neg g1] at h2
      omega
    by_cases e3 : k = 131
    · subst e3
      rw [zi_o131] at h1 h2 ⊢
      by_cases g0 : j = 0
      · subst g0; rfl
      rw [if_neg g0] at h2
      omega
    by_cases e4 : k = 133
    · subst e4
      rw [zi_o133] at h1 h2 ⊢
      by_cases g0 : j = 0
      · subst g0; rfl
      rw [if_neg g0] at h2
      omega
    by_cases e5 : k = 135
    · subst e5
      rw [zi_o135] at h1 h2 ⊢
      by_cases g0 : j = 0
      · subst g0; rfl
      by_cases g1 : j = 1
      · subst g1; rfl
      by_cases g2 : j = 2
      · subst g2; rfl
      rw [if_neg g0, if_neg g1, if_neg g2] at h2
      omega
    rw [zi_oe ⟨fun z => e (Or.inl z), fun z => e (Or.inr (Or.inl z)), fun z => e (Or.inr (Or.inr z)), e1, e2, e3, e4, e5⟩] at h2
    omega
/-- off the reference just put, nothing is new -/
theorem zi_st {m k j : Nat} (hm : m < 99) (h : zi_o k j = m + 1) : ∀ a c, (a ≠ k ∨ c ≠ j) → zi_F (m + 1) a c = true → zi_F m a c = true := by
  intro a c q f
  have f1 : zi_o a c ≤ m + 1 := of_decide_eq_true f
  refine decide_eq_true ?_
  rcases Nat.lt_or_ge (zi_o a c) (m + 1) with g | g
  · omega
  · exfalso
    have e : zi_o a c = m + 1 := by omega
    have p1 := zi_od (k := a) (j := c) (by omega) (by omega)
    have p2 := zi_od (k := k) (j := j) (by omega) (by omega)
    rw [e] at p1
    rw [h] at p2
    have p3 := p1.trans p2.symm
    have p4 : a = k := congrArg Prod.fst p3
    have p5 : c = j := congrArg Prod.snd p3
    exact q.elim (fun z => z p4) (fun z => z p5)
theorem zi_F0 {m k j : Nat} (h : m < zi_o k j) : zi_F m k j = false := decide_eq_false (by omega)
theorem zi_51 (j : Nat) : 1 < zi_o 51 j := by
  rw [zi_o51]
  by_cases g0 : j = 0
  · rw [if_pos g0]; decide
  rw [if_neg g0]
  by_cases g1 : j = 1
  · rw [if_pos g1]; decide
  rw [if_neg g1]; decide
theorem zi_131 (j : Nat) : 4 < zi_o 131 j := by
  rw [zi_o131]
  by_cases g0 : j = 0
  · rw [if_pos g0]; decide
  rw [if_neg g0]; decide
theorem zi_133 (j : Nat) : 6 < zi_o 133 j := by
  rw [zi_o133]
  by_cases g0 : j = 0
  · rw [if_pos g0]; decide
  rw [if_neg g0]; decide
theorem zi_135 (j : Nat) : 8 < zi_o 135 j := by
  rw [zi_o135]
  by_cases g0 : j = 0
  · rw [if_pos g0]; decide
  rw [if_neg g0]
  by_cases g1 : j = 1
  · rw [if_pos g1]; decide
  rw [if_neg g1]
  by_cases g2 : j = 2
  · rw [if_pos g2]; decide
  rw [if_neg g2]; decide

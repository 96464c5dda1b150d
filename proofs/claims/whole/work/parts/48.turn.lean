/-! Between two turns of the law: both stores hold one state. What a turn does. -/
def zy_B (D : Nat → Nat → Nat) (H : za_H) (L S : za_T) (C : za_C) : Prop := za_WD D ∧ za_WH H ∧ H.1 ≤ 60 ∧ za_WT L ∧ za_WT S ∧ za_WC C
/-- n turns are over: the cells stand, so many have come -/
def zy_L (n : Nat) (w : zw_W) : Prop := zl_X w ∧ zl_M w ∧ 166 ≤ w.1 ∧ zw_t w 165 = (12, 1) ∧ w.1 ≤ 166 + n ∧ w.2.1 ≤ 20000 + 6 * n
def zy_I (n : Nat) (w : zw_W) : Prop := ∃ (D : Nat → Nat → Nat) (H : za_H) (b : Bool) (L S : za_T) (C : za_C), zy_L n w ∧ zr_X (zw_i w) D H b L S C ∧ zu_X (zw_i w) D H b L S C (za_z H H.1) ∧ zy_B D H L S C
theorem zy_ex {n : Nat} {w w' : zw_W} {F : Nat → Prop} (h : zy_L n w) (hn : n ≤ 600) (e : zr_ex w w' F) : zy_L (n + 1) w' := by
  obtain ⟨h1, h2, h3, h4, h5, h6⟩ := h
  obtain ⟨e1, e2, e3, e4, e5⟩ := e
  have c1 : zc_cn = 601025 := rfl
  have c2 : zc_cs = 7293034 := rfl
  refine ⟨⟨by omega, fun k g1 g2 => ?_, by omega, by omega⟩, ⟨by omega, fun k g1 g2 => ?_, by omega, by omega⟩, by omega, ?_, by omega, by omega⟩
  · obtain ⟨a1, a2, -, -⟩ := e5 k (by omega)
    rw [a1, a2]
    exact h1.2.1 k g1 g2
  · obtain ⟨a1, a2, -, -⟩ := e5 k (by omega)
    rw [a1, a2]
    exact h2.2.1 k g1 g2
  · rw [(e5 165 (by omega)).1]
    exact h4
theorem zy_up {n : Nat} {w : zw_W} (h : zy_I n w) : zy_I (n + 1) w := by
  obtain ⟨D, H, b, L, S, C, ⟨h1, h2, h3, h4, h5, h6⟩, h⟩ := h
  exact ⟨D, H, b, L, S, C, ⟨h1, h2, h3, h4, by omega, by omega⟩, h⟩
theorem zy_IL {n : Nat} {w : zw_W} (h : zy_I n w) : zy_L n w := by
  obtain ⟨D, H, b, L, S, C, h, -⟩ := h
  exact h
theorem zy_ue {I J : Nat → Nat → Int32} {D : Nat → Nat → Nat} {H : za_H} {b : Bool} {L S : za_T} {C : za_C} {t : Bool} (h : zu_X I D H b L S C t) (e : ∀ a, 156 ≤ a → a < 165 → ∀ i, J a i = I a i) : zu_X J D H b L S C t := by
  obtain ⟨h1, ⟨h2, h3, h4⟩, h5, ⟨h6, h7, h8⟩, ⟨h9, h10, h11⟩, ⟨h12, h13, h14⟩, h15⟩ := h
  have e6 := e 156 (by decide) (by decide)
  exact ⟨fun s hs i hi => (e 157 (by decide) (by decide) _).trans (h1 s hs i hi), ⟨(e6 _).trans h2, fun k hk => (e 163 (by decide) (by decide) _).trans (h3 k hk), fun k hk i hi => (e 164 (by decide) (by decide) _).trans (h4 k hk i hi)⟩, (e6 _).trans h5, ⟨fun p hp => (e 158 (by decide) (by decide) _).trans (h6 p hp), (e6 _).trans h7, (e6 _).trans h8⟩, ⟨fun p hp => (e 159 (by decide) (by decide) _).trans (h9 p hp), (e6 _).trans h10, (e6 _).trans h11⟩, ⟨(e6 _).trans h12, fun g p hp => (e 160 (by decide) (by decide) _).trans (h13 g p hp), fun p hp g => ⟨fun i hi => (e 162 (by decide) (by decide) _).trans ((h14 p hp g).1 i hi), (e 161 (by decide) (by decide) _).trans (h14 p hp g).2⟩⟩, (e6 _).trans h15⟩
theorem zy_rx {I J : Nat → Nat → Int32} {D : Nat → Nat → Nat} {H : za_H} {b : Bool} {L S : za_T} {C : za_C} (h : zr_X I D H b L S C) (hB : zy_B D H L S C) (f : zu_fr [157, 158, 159, 160, 161, 162, 163, 164] [3, 4, 5, 6, 7, 8, 14, 15, 16] I J) : zr_X J D H b L S C :=
  zr_Xe h hB.2.1.1 (fun a h1 h2 i => f a i (by simp; omega) (Or.inl (by omega)))
theorem zy_165 {n : Nat} {w : zw_W} {D : Nat → Nat → Nat} {H : za_H} {b : Bool} {L S : za_T} {C : za_C} (HL : zy_L n w) : ∀ w1, zr_pub w D H b L S C w1 → zw_t w1 165 = (12, 1) ∧ 165 < w1.1 := by
  intro w1 g
  have h3 := HL.2.2.1
  have h4 := g.1.1
  exact ⟨(g.1.2.2.2.2 165 (by omega)).1.trans HL.2.2.2.1, by omega⟩
/-- behind the class's answer: the reference's -/
def zy_m (V : zv_V) (Mm : zg_M) (ym : MethodName) (av : List Value) (n kd : Nat) (a a' : Int32) (w1 : zw_W) : Prop := zy_L (n + 1) w1 ∧ (kd = 0 → zw_l w1 165 0 = a.toInt64) ∧ zg_C V Mm ym 8 190 av w1 (zq_p (.inl (some (.int a'))) (fun w2 => zy_I (n + 1) w2 ∧ zw_i w2 156 16 = nI kd ∧ zw_l w2 = zw_l w1))
/-- a turn: the class through its wrapper, then the reference; both answer the same -/
def zy_S (V : zv_V) (Ml : zg_M) (yl : MethodName) (Mm : zg_M) (ym : MethodName) (av1 av2 : List Value) (R : Int32 → Prop) (n : Nat) (w : zw_W) : Prop := ∃ (kd : Nat) (a a' : Int32), kd < 3 ∧ (kd = 0 → a' = a) ∧ R a' ∧ zg_C V Ml yl 9 230 av1 w (zq_p (.inl (some (.int (nI kd)))) (zy_m V Mm ym av2 n kd a a'))
section ZYS
variable {V : zv_V} {Ml Mm : zg_M} {yl ym : MethodName} {av1 av2 : List Value} {R : Int32 → Prop} {n : Nat} {w : zw_W} {D : Nat → Nat → Nat} {H : za_H} {b : Bool} {L S : za_T} {C : za_C}
theorem zy_um (HL : zy_L n w) (hM : zu_X (zw_i w) D H b L S C (za_z H H.1)) {w1 : zw_W} (g : zr_ex w w1 (156 ≤ ·)) : zu_X (zw_i w1) D H b L S C (za_z H H.1) :=
  zy_ue hM (fun a h1 h2 i => congrFun ((g.2.2.2.2 a (by have := HL.2.2.1; omega)).2.2.2 h1) i)
theorem zy_thr {kd : Nat} (HL : zy_L n w) (hn : n ≤ 600) (hM : zu_X (zw_i w) D H b L S C (za_z H H.1)) (hB : zy_B D H L S C) (hk : kd = 1 ∨ kd = 2) (hR : R (nI 0))
    (A : zg_C V Ml yl 9 230 av1 w (zq_p (.inl (some (.int (nI kd)))) (zr_pub w D H b L S C))) (B : ∀ w1, zl_M w1 → zu_X (zw_i w1) D H b L S C (za_z H H.1) → zg_C V Mm ym 8 190 av2 w1 (zq_p (.inl (some (.int (nI 0)))) (zu_pub w1 D H b L S C (za_z H H.1) kd))) : zy_S V Ml yl Mm ym av1 av2 R n w := by
  refine ⟨kd, 0, nI 0, by omega, fun h => absurd h (by omega), hR, zg_Cm A (fun w1 g => ?_)⟩
  have HL1 := zy_ex HL hn g.1
  have hM1 := zy_um HL hM g.1
  refine ⟨HL1, fun h => absurd h (by omega), zg_Cm (B w1 HL1.2.1 hM1) (fun w2 g2 => ?_)⟩
  obtain ⟨J, rfl, r, k, f⟩ := g2
  exact ⟨⟨D, H, b, L, S, C, HL1, zy_rx g.2 hB f, r, hB⟩, k, rfl⟩
theorem zy_ret {a : Int32} {D' : Nat → Nat → Nat} {H' : za_H} {b' : Bool} {L' S' : za_T} {C' : za_C} {t' : Bool} (HL : zy_L n w) (hn : n ≤ 600) (hM : zu_X (zw_i w) D H b L S C (za_z H H.1)) (hB : zy_B D' H' L' S' C') (ht : t' = za_z H' H'.1) (hR : R a)
    (A : (∀ w1, zr_pub w D' H' b' L' S' C' w1 → zw_t w1 165 = (12, 1) ∧ 165 < w1.1) → zg_C V Ml yl 9 230 av1 w (zq_p (.inl (some (.int (nI 0)))) (fun w2 => ∃ w1, zr_pub w D' H' b' L' S' C' w1 ∧ w2 = zw_sl w1 165 0 (a.toInt64))))
    (B : ∀ w1, zl_M w1 → zu_X (zw_i w1) D H b L S C (za_z H H.1) → zg_C V Mm ym 8 190 av2 w1 (zq_p (.inl (some (.int a))) (zu_pub w1 D' H' b' L' S' C' t' 0))) : zy_S V Ml yl Mm ym av1 av2 R n w := by
  refine ⟨0, a, a, by decide, fun _ => rfl, hR, zg_Cm (A (zy_165 HL)) (fun w2 g => ?_)⟩
  obtain ⟨w1, g, rfl⟩ := g
  have HL0 := zy_ex HL hn g.1
  have hM0 := zy_um HL hM g.1
  have HL1 : zy_L (n + 1) (zw_sl w1 165 0 (a.toInt64)) := HL0
  have hM1 : zu_X (zw_i (zw_sl w1 165 0 (a.toInt64))) D H b L S C (za_z H H.1) := hM0
  refine ⟨HL1, fun _ => (zw_up_s (zw_l w1) 165 0 (a.toInt64) : _), zg_Cm (B _ HL1.2.1 hM1) (fun w2 g2 => ?_)⟩
  obtain ⟨J, rfl, r, k, f⟩ := g2
  subst ht
  exact ⟨⟨D', H', b', L', S', C', HL1, zy_rx g.2 hB f, r, hB⟩, k, rfl⟩
theorem zy_two {o o2 : zg_O} {k : Nat} {D' : Nat → Nat → Nat} {H' : za_H} {b' : Bool} {L' S' : za_T} {C' : za_C} {t' : Bool} (HL : zy_L n w) (hn : n ≤ 600) (hM : zu_X (zw_i w) D H b L S C (za_z H H.1)) (hB : zy_B D' H' L' S' C') (ht : t' = za_z H' H'.1)
    (A : zg_C V Ml yl 8 190 av1 w (zq_p o (zr_pub w D' H' b' L' S' C')))
    (B : ∀ w1, zl_M w1 → zu_X (zw_i w1) D H b L S C (za_z H H.1) → zg_C V Mm ym 8 190 av2 w1 (zq_p o2 (zu_pub w1 D' H' b' L' S' C' t' k))) : zg_C V Ml yl 8 190 av1 w (zq_p o (fun w1 => zy_L (n + 1) w1 ∧ zg_C V Mm ym 8 190 av2 w1 (zq_p o2 (zy_I (n + 1))))) := by
  refine zg_Cm A (fun w1 g => ?_)
  have HL1 := zy_ex HL hn g.1
  refine ⟨HL1, zg_Cm (B w1 HL1.2.1 (zy_um HL hM g.1)) (fun w2 g2 => ?_)⟩
  obtain ⟨J, rfl, r, -, f⟩ := g2
  subst ht
  exact ⟨D', H', b', L', S', C', HL1, zy_rx g.2 hB f, r, hB⟩
end ZYS
theorem zy_ii (x : Int32) (n : Nat) : (∃ p, p < n ∧ x = nI p) ∨ ∀ p, p < n → x ≠ nI p := by
  by_cases h : ∃ p, p < n ∧ x = nI p
  · exact Or.inl h
  · exact Or.inr (fun p hp e => h ⟨p, hp, e⟩)
theorem zy_b (b : Bool) : b = true ∨ b = false := by cases b <;> simp
theorem za_ff_0 {L S : za_T} {O : Nat → Nat} {t : Nat} (ht : t < 48) (h : za_ff L S O (nI t)) : t ≠ 0 := by
  rcases h with ⟨s, hs, e, h1, -⟩ | ⟨e, -⟩
  · have e2 : t = s := by
      have := congrArg Int32.toInt e
      rw [nI_toInt (by omega), nI_toInt (by omega)] at this
      omega
    rw [e2]
    exact fun z => h1 (Or.inl z)
  · have := congrArg Int32.toInt e
    rw [nI_toInt (by omega)] at this
    have e3 : (-1 : Int32).toInt = -1 := by decide
    rw [e3] at this
    omega
/-- every state finds a free sector, or none -/
theorem za_ff_c (L S : za_T) (O : Nat → Nat) : za_ff L S O (-1) ∨ ∃ t, t < 48 ∧ t ≠ 0 ∧ za_ff L S O (nI t) := by
  obtain ⟨r, hr⟩ := za_ff_ex L S O
  have hr' := hr
  rcases hr with ⟨s, hs, rfl, h1, h2⟩ | ⟨rfl, g⟩
  · exact Or.inr ⟨s, hs, fun z => h1 (Or.inl z), hr'⟩
  · exact Or.inl hr'

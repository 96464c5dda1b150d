/-! Words of numbers and bits. -/
theorem zn_ck {f : Nat → Int32} {g : Nat → Nat} {n : Nat} (h : ∀ i, i < n → f i = nI (g i)) (hg : ∀ i, i < n → g i < 256) : zs_ck f n = nI (za_ck g n) := by
  induction n with
  | zero => rfl
  | succ n ih =>
    unfold zs_ck za_ck
    have hc := za_ck_lt g n
    have hgn := hg n (by omega)
    rw [ih (fun i hi => h i (by omega)) (fun i hi => hg i (by omega)), h n (by omega), show (31 : Int32) = nI 31 from rfl, pk_mul, nI_add, pk_andN (by omega) 16 (by decide)]
theorem zn_or {a b : Nat} (ha : a < 2 ^ 32) (hb : b < 2 ^ 32) : nI a ||| nI b = nI (a ||| b) := by
  refine Int32.toBitVec_inj.mp (BitVec.eq_of_toNat_eq ?_)
  rw [Int32.toBitVec_or, BitVec.toNat_or, pk_tn ha, pk_tn hb, pk_tn (Nat.or_lt_two_pow ha hb)]
theorem zn_16 {a b : Nat} (ha : a < 256) (hb : b < 256) : nI a <<< (nI 8 &&& 31) ||| nI b = nI (a * 256 + b) := by
  rw [pk_shlN (nI 8 &&& 31) 8 (by decide) (by omega), zn_or (by omega) (by omega)]
  refine congrArg nI ?_
  have := Nat.shiftLeft_add_eq_or_of_lt (i := 8) (b := b) hb a
  rw [Nat.shiftLeft_eq] at this
  exact this.symm
theorem zn_gb (g : Int32) {i : Nat} (hi : i < 4) : (g.toUInt32 >>> ((nI (24 - 8 * i)).toUInt32 &&& Int32.toUInt32 31)).toInt32 &&& nI 255 = nI (g.toBitVec.toNat / 2 ^ (24 - 8 * i) % 256) := by
  rw [pk_and _ 8 (by decide)]
  refine congrArg nI (congrArg (· % 2 ^ 8) (pk_ushr g (nI (24 - 8 * i)) (24 - 8 * i) ?_))
  rcases i with _ | _ | _ | _ | i
  · decide
  · decide
  · decide
  · decide
  · omega
/-- a bit of a set -/
def zb (u : Int64) (s : Nat) : Bool := u.toBitVec.getLsbD s
theorem zb_or (u v : Int64) (s : Nat) : zb (u ||| v) s = (zb u s || zb v s) := by
  unfold zb
  rw [Int64.toBitVec_or, BitVec.getLsbD_or]
theorem zb_and (u v : Int64) (s : Nat) : zb (u &&& v) s = (zb u s && zb v s) := by
  unfold zb
  rw [Int64.toBitVec_and, BitVec.getLsbD_and]
theorem zb_xor (u v : Int64) (s : Nat) : zb (u ^^^ v) s = (zb u s ^^ zb v s) := by
  unfold zb
  rw [Int64.toBitVec_xor, BitVec.getLsbD_xor]
theorem zb_one : ∀ t, t < 48 → ∀ s, s < 64 → zb ((1 : Int64) <<< ((nI t).toInt64 &&& 63)) s = decide (s = t) := by decide +kernel
theorem zb_amt : ∀ s, s < 64 → (((nI s).toInt64.toUInt64 &&& Int64.toUInt64 63).toBitVec % 64#64).toNat = s := by decide +kernel
theorem zb_hol (u : Int64) {s : Nat} (hs : s < 64) : (u.toUInt64 >>> ((nI s).toInt64.toUInt64 &&& Int64.toUInt64 63)).toInt64 &&& 1 = 0 ↔ zb u s = false := by
  have e : ((u.toUInt64 >>> ((nI s).toInt64.toUInt64 &&& Int64.toUInt64 63)).toInt64).toBitVec = u.toBitVec >>> s := by
    show u.toBitVec >>> (((nI s).toInt64.toUInt64 &&& Int64.toUInt64 63).toBitVec % 64#64) = _
    rw [BitVec.ushiftRight_eq', zb_amt s hs]
  rw [← Int64.toBitVec_inj, Int64.toBitVec_and, e]
  unfold zb
  constructor
  · intro h
    have := congrArg (fun x => BitVec.getLsbD x 0) h
    simp only [BitVec.getLsbD_and, BitVec.getLsbD_ushiftRight] at this
    simpa using this
  · intro h
    refine BitVec.eq_of_getLsbD_eq fun i hi => ?_
    rw [BitVec.getLsbD_and, BitVec.getLsbD_ushiftRight]
    rcases i with _ | i
    · rw [Nat.add_zero, h]
      rfl
    · rw [show (Int64.toBitVec 1).getLsbD (i + 1) = false by
        show (1#64).getLsbD (i + 1) = false
        rw [BitVec.getLsbD_one]
        simp, Bool.and_false]
      show false = (0#64).getLsbD (i + 1)
      simp
theorem zb_us {f : Nat → Int32} {g : Nat → Nat} {u : Int64} {n : Nat} (h : ∀ i, i < n → f i = nI (g i)) (hg : ∀ i, i < n → g i < 48) {s : Nat} (hs : s < 64) : zb (zs_us f u n) s = true ↔ zb u s = true ∨ ∃ p, p < n ∧ g p = s := by
  induction n with
  | zero => exact ⟨Or.inl, fun h => h.elim id (fun ⟨p, hp, _⟩ => absurd hp (Nat.not_lt_zero p))⟩
  | succ n ih =>
    unfold zs_us
    rw [zb_or, h n (by omega), zb_one _ (hg n (by omega)) s hs, Bool.or_eq_true, ih (fun i hi => h i (by omega)) (fun i hi => hg i (by omega)), decide_eq_true_eq]
    constructor
    · rintro ((a | ⟨p, hp, e⟩) | a)
      · exact Or.inl a
      · exact Or.inr ⟨p, by omega, e⟩
      · exact Or.inr ⟨n, by omega, a.symm⟩
    · rintro (a | ⟨p, hp, e⟩)
      · exact Or.inl (Or.inl a)
      · rcases Nat.lt_or_ge p n with q | q
        · exact Or.inl (Or.inr ⟨p, q, e⟩)
        · obtain rfl : p = n := by omega
          exact Or.inr e.symm
theorem zb_m1 : ∀ s, s < 64 → zb (-1) s = true := by decide +kernel
theorem zb_all : ∀ s, s < 64 → zb 281474976710655 s = decide (s < 48) := by decide +kernel
theorem zb_1 : ∀ s, s < 64 → zb 1 s = decide (s = 0) := by decide +kernel

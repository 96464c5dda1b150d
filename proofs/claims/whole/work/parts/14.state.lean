/-! What class and reference both stand for: a state of numbers, and what the operations do to it. -/
abbrev zw_I (w : zw_W) (f : Nat → Nat → Int32) : zw_W := (w.1, w.2.1, zw_t w, zw_r w, f, zw_l w)
theorem zg_v {V : zv_V} {M : zg_M} {fr lc n0 u0 pc : Nat} {st : List Value} {lv : List (Nat × Value)} {w : zw_W} {Q : zg_O → zw_W → Prop} {x x' : Int32} (h : x = x') (k : zg_G V M fr lc n0 u0 pc (.int x' :: st) lv w Q) : zg_G V M fr lc n0 u0 pc (.int x :: st) lv w Q := by subst h; exact k
theorem zg_vl {V : zv_V} {M : zg_M} {fr lc n0 u0 pc : Nat} {st : List Value} {lv : List (Nat × Value)} {w : zw_W} {Q : zg_O → zw_W → Prop} {x x' : Int64} (h : x = x') (k : zg_G V M fr lc n0 u0 pc (.long x' :: st) lv w Q) : zg_G V M fr lc n0 u0 pc (.long x :: st) lv w Q := by subst h; exact k
/-- a table: where the pages lie, its own sector, its number -/
abbrev za_T : Type := (Nat → Nat) × Nat × Int32
/-- the held writes: how many, whither, what -/
abbrev za_H : Type := Nat × (Nat → Nat) × (Nat → Nat → Nat)
/-- the change: the pages' own sectors (0: none), their bytes, which are spilled -/
abbrev za_C : Type := (Nat → Nat) × (Nat → Nat → Nat) × (Nat → Bool)
def za_bit (b : Bool) : Int32 := if b then nI 1 else nI 0
theorem za_bit0 {b : Bool} (h : za_bit b = nI 0) : b = false := by
  cases b
  · rfl
  · exact absurd h (by decide)
theorem za_bit1 {b : Bool} (h : ¬ za_bit b = nI 0) : b = true := by
  cases b
  · exact absurd rfl h
  · rfl
/-- how many pages are changed -/
def za_n (O : Nat → Nat) : Nat → Nat
  | 0 => 0
  | n + 1 => za_n O n + (if O n = 0 then 0 else 1)
theorem za_n_le (O : Nat → Nat) (n : Nat) : za_n O n ≤ n := by
  induction n with
  | zero => exact Nat.le_refl 0
  | succ n ih =>
    show za_n O n + (if O n = 0 then 0 else 1) ≤ n + 1
    split <;> omega
theorem za_n_0 {O : Nat → Nat} {n : Nat} (h : ∀ p, p < n → O p = 0) : za_n O n = 0 := by
  induction n with
  | zero => rfl
  | succ n ih =>
    show za_n O n + (if O n = 0 then 0 else 1) = 0
    rw [ih (fun p hp => h p (by omega)), if_pos (h n (by omega))]
theorem za_n_p {O : Nat → Nat} {n p : Nat} (hp : p < n) (h : O p ≠ 0) : 0 < za_n O n := by
  induction n with
  | zero => omega
  | succ n ih =>
    show 0 < za_n O n + (if O n = 0 then 0 else 1)
    rcases Nat.lt_or_ge p n with g | g
    · have := ih g
      omega
    · obtain rfl : p = n := by omega
      rw [if_neg h]
      omega
theorem za_n_e {O O' : Nat → Nat} {n : Nat} (h : ∀ p, p < n → O p = O' p) : za_n O n = za_n O' n := by
  induction n with
  | zero => rfl
  | succ n ih =>
    show za_n O n + (if O n = 0 then 0 else 1) = za_n O' n + (if O' n = 0 then 0 else 1)
    rw [ih (fun p hp => h p (by omega)), h n (by omega)]
theorem za_n_s {O : Nat → Nat} {n p s : Nat} (hp : p < n) (h : O p = 0) (hs : s ≠ 0) : za_n (zw_ro O p s) n = za_n O n + 1 := by
  induction n with
  | zero => omega
  | succ n ih =>
    show za_n (zw_ro O p s) n + (if zw_ro O p s n = 0 then 0 else 1) = za_n O n + (if O n = 0 then 0 else 1) + 1
    rcases Nat.lt_or_ge p n with g | g
    · rw [ih g, zw_ro_n _ _ (by omega)]
      omega
    · obtain rfl : p = n := by omega
      rw [za_n_e (O' := O) (fun q hq => zw_ro_n _ _ (by omega)), zw_ro_s, if_neg hs, if_pos h]
/-- the class's cells hold this state -/
def zr_D (I : Nat → Nat → Int32) (D : Nat → Nat → Nat) : Prop := ∀ s, s < 48 → ∀ i, i < 16 → I (3 + s) i = nI (D s i)
def zr_H (I : Nat → Nat → Int32) (H : za_H) : Prop := I 51 2 = nI H.1 ∧ (∀ k, k < H.1 → I 52 k = nI (H.2.1 k)) ∧ ∀ k, k < H.1 → ∀ i, i < 16 → I (54 + k) i = nI (H.2.2 k i)
def zr_T (o a : Nat) (I : Nat → Nat → Int32) (L : za_T) : Prop := (∀ p, p < 16 → I a p = nI (L.1 p)) ∧ I o 1 = nI L.2.1 ∧ I o 2 = L.2.2
def zr_C (I : Nat → Nat → Int32) (C : za_C) : Prop := (∀ p, p < 16 → I 136 p = nI (C.1 p)) ∧ I 135 3 = nI (za_n C.1 16) ∧ ∀ p, p < 16 → C.1 p ≠ 0 → (∀ i, i < 16 → I (138 + p) i = nI (C.2.1 p i)) ∧ I 154 p = za_bit (C.2.2 p)
def zr_X (I : Nat → Nat → Int32) (D : Nat → Nat → Nat) (H : za_H) (b : Bool) (L S : za_T) (C : za_C) : Prop := zr_D I D ∧ zr_H I H ∧ I 1 6 = za_bit b ∧ zr_T 131 132 I L ∧ zr_T 133 134 I S ∧ zr_C I C
/-- the numbers are in their bounds -/
def za_WD (D : Nat → Nat → Nat) : Prop := ∀ s, s < 48 → ∀ i, i < 16 → D s i < 256
def za_WH (H : za_H) : Prop := H.1 ≤ 77 ∧ (∀ k, k < H.1 → H.2.1 k < 48) ∧ ∀ k, k < H.1 → ∀ i, i < 16 → H.2.2 k i < 256
def za_WT (L : za_T) : Prop := (∀ p, p < 16 → L.1 p < 48) ∧ L.2.1 < 48
def za_WC (C : za_C) : Prop := (∀ p, p < 16 → C.1 p < 48) ∧ ∀ p, p < 16 → C.1 p ≠ 0 → ∀ i, i < 16 → C.2.1 p i < 256
def za_W (D : Nat → Nat → Nat) (H : za_H) (L S : za_T) (C : za_C) : Prop := za_WD D ∧ za_WH H ∧ za_WT L ∧ za_WT S ∧ za_WC C
/-- the same cells, the same state -/
theorem zr_De {I J : Nat → Nat → Int32} {D : Nat → Nat → Nat} (h : zr_D I D) (e : ∀ a, 3 ≤ a → a < 51 → ∀ i, i < 16 → J a i = I a i) : zr_D J D := fun s hs i hi => (e _ (by omega) (by omega) i hi).trans (h s hs i hi)
theorem zr_He {I J : Nat → Nat → Int32} {H : za_H} (h : zr_H I H) (w : H.1 ≤ 77) (e : ∀ a, 51 ≤ a → a < 131 → ∀ i, J a i = I a i) : zr_H J H := ⟨(e 51 (by omega) (by omega) 2).trans h.1, fun k hk => (e 52 (by omega) (by omega) k).trans (h.2.1 k hk), fun k hk i hi => (e _ (by omega) (by omega) i).trans (h.2.2 k hk i hi)⟩
theorem zr_Te {o a : Nat} {I J : Nat → Nat → Int32} {L : za_T} (h : zr_T o a I L) (e1 : ∀ i, J o i = I o i) (e2 : ∀ i, J a i = I a i) : zr_T o a J L := ⟨fun p hp => (e2 p).trans (h.1 p hp), (e1 1).trans h.2.1, (e1 2).trans h.2.2⟩
theorem zr_Ce {I J : Nat → Nat → Int32} {C : za_C} (h : zr_C I C) (e : ∀ a, 135 ≤ a → a < 155 → ∀ i, J a i = I a i) : zr_C J C := ⟨fun p hp => (e 136 (by omega) (by omega) p).trans (h.1 p hp), (e 135 (by omega) (by omega) 3).trans h.2.1, fun p hp g => ⟨fun i hi => (e _ (by omega) (by omega) i).trans ((h.2.2 p hp g).1 i hi), (e 154 (by omega) (by omega) p).trans (h.2.2 p hp g).2⟩⟩
theorem zr_Xe {I J : Nat → Nat → Int32} {D : Nat → Nat → Nat} {H : za_H} {b : Bool} {L S : za_T} {C : za_C} (h : zr_X I D H b L S C) (w : H.1 ≤ 77) (e : ∀ a, 1 ≤ a → a < 155 → ∀ i, J a i = I a i) : zr_X J D H b L S C :=
  ⟨zr_De h.1 (fun a _ _ i _ => e a (by omega) (by omega) i), zr_He h.2.1 w (fun a _ _ i => e a (by omega) (by omega) i), (e 1 (by omega) (by omega) 6).trans h.2.2.1, zr_Te h.2.2.2.1 (e 131 (by omega) (by omega)) (e 132 (by omega) (by omega)), zr_Te h.2.2.2.2.1 (e 133 (by omega) (by omega)) (e 134 (by omega) (by omega)), zr_Ce h.2.2.2.2.2 (fun a _ _ i => e a (by omega) (by omega) i)⟩
/-- what the operations do -/
def za_hold (H : za_H) (t : Nat) (b : Nat → Nat) : za_H := (H.1 + 1, zw_ro H.2.1 H.1 t, zw_ro H.2.2 H.1 b)
def za_car (D : Nat → Nat → Nat) (H : za_H) (f : Nat → Bool) : Nat → Nat → Nat → Nat
  | 0 => D
  | n + 1 => if f n then zw_ro (za_car D H f n) (H.2.1 n) (H.2.2 n) else za_car D H f n
theorem za_car_W {D : Nat → Nat → Nat} {H : za_H} (f : Nat → Bool) (hD : za_WD D) (hH : za_WH H) (n : Nat) (hn : n ≤ H.1) : za_WD (za_car D H f n) := by
  induction n with
  | zero => exact hD
  | succ n ih =>
    intro s hs i hi
    unfold za_car
    split
    · by_cases e : s = H.2.1 n
      · subst e
        rw [zw_ro_s]
        exact hH.2.2 n (by omega) i hi
      · rw [zw_ro_n _ _ e]
        exact ih (by omega) s hs i hi
    · exact ih (by omega) s hs i hi
theorem za_hold_W {H : za_H} {t : Nat} {b : Nat → Nat} (hH : za_WH H) (h : H.1 < 77) (ht : t < 48) (hb : ∀ i, i < 16 → b i < 256) : za_WH (za_hold H t b) := by
  refine ⟨h, fun k hk => ?_, fun k hk i hi => ?_⟩
  · show zw_ro H.2.1 H.1 t k < 48
    by_cases e : k = H.1
    · rw [e, zw_ro_s]
      exact ht
    · rw [zw_ro_n _ _ e]
      exact hH.2.1 k (Nat.lt_of_le_of_ne (Nat.le_of_lt_succ hk) e)
  · show zw_ro H.2.2 H.1 b k i < 256
    by_cases e : k = H.1
    · rw [e, zw_ro_s]
      exact hb i hi
    · rw [zw_ro_n _ _ e]
      exact hH.2.2 k (Nat.lt_of_le_of_ne (Nat.le_of_lt_succ hk) e) i hi
/-- where a page lies for the open change -/
def za_op (L : za_T) (C : za_C) (p : Nat) : Nat := if C.1 p = 0 then L.1 p else C.1 p
/-- the pages that are not yet spilled, held back -/
def za_un (C : za_C) (H : za_H) : Nat → za_H
  | 0 => H
  | n + 1 => if C.1 n ≠ 0 ∧ C.2.2 n = false then za_hold (za_un C H n) (C.1 n) (C.2.1 n) else za_un C H n
theorem za_un_le (C : za_C) (H : za_H) (n : Nat) : (za_un C H n).1 ≤ H.1 + n := by
  induction n with
  | zero => exact Nat.le_refl _
  | succ n ih =>
    unfold za_un
    split
    · show (za_un C H n).1 + 1 ≤ H.1 + (n + 1)
      omega
    · omega
theorem za_un_W {C : za_C} {H : za_H} (hH : za_WH H) (h : H.1 ≤ 60) (hC : za_WC C) (n : Nat) (hn : n ≤ 16) : za_WH (za_un C H n) := by
  induction n with
  | zero => exact hH
  | succ n ih =>
    have := za_un_le C H n
    unfold za_un
    split
    · next g => exact za_hold_W (ih (by omega)) (by omega) (hC.1 n (by omega)) (hC.2 n (by omega) g.1)
    · exact ih (by omega)
/-- a master: the number's bytes, the table's sector, the check -/
def za_ck (f : Nat → Nat) : Nat → Nat
  | 0 => 1
  | n + 1 => (za_ck f n * 31 + f n) % 65536
theorem za_ck_lt (f : Nat → Nat) (n : Nat) : za_ck f n < 65536 := by
  cases n with
  | zero => exact Nat.le_of_ble_eq_true rfl
  | succ n => exact Nat.mod_lt _ (Nat.zero_lt_succ _)
theorem za_ck_e {f g : Nat → Nat} {n : Nat} (h : ∀ i, i < n → f i = g i) : za_ck f n = za_ck g n := by
  induction n with
  | zero => rfl
  | succ n ih =>
    unfold za_ck
    rw [ih (fun i hi => h i (by omega)), h n (by omega)]
def za_m0 (g : Int32) (a : Nat) (i : Nat) : Nat := if i < 4 then g.toBitVec.toNat / 2 ^ (24 - 8 * i) % 256 else if i = 4 then a else 0
def za_ms (g : Int32) (a : Nat) (i : Nat) : Nat := if i < 14 then za_m0 g a i else if i = 14 then za_ck (za_m0 g a) 14 / 256 else za_ck (za_m0 g a) 14 % 256
theorem za_m0_lt (g : Int32) {a : Nat} (ha : a < 48) (i : Nat) : za_m0 g a i < 256 := by
  unfold za_m0
  split
  · exact Nat.mod_lt _ (by omega)
  · split <;> omega
theorem za_ms_lt (g : Int32) {a : Nat} (ha : a < 48) (i : Nat) : za_ms g a i < 256 := by
  unfold za_ms
  have := za_ck_lt (za_m0 g a) 14
  split
  · exact za_m0_lt g ha i
  · split <;> omega
/-- which disks can be mounted, and what the mount reads -/
def za_mr (D : Nat → Nat → Nat) : Prop := (∀ i, 5 ≤ i → i < 14 → D 0 i = 0) ∧ D 0 14 * 256 + D 0 15 = za_ck (D 0) 14
def za_tr (D : Nat → Nat → Nat) : Prop := 1 ≤ D 0 4 ∧ D 0 4 < 48 ∧ ∀ p, p < 16 → D (D 0 4) p < 48 ∧ D (D 0 4) p ≠ D 0 4 ∧ (D (D 0 4) p ≠ 0 → ∀ q, q < p → D (D 0 4) q ≠ D (D 0 4) p)
def za_gen (D : Nat → Nat → Nat) : Int32 := (nI (D 0 0) <<< (nI 24 &&& 31) ||| nI (D 0 1) <<< (nI 16 &&& 31) ||| nI (D 0 2) <<< (nI 8 &&& 31)) ||| nI (D 0 3)
def za_mt (D : Nat → Nat → Nat) : za_T := (D (D 0 4), D 0 4, za_gen D)
def za_C0 : za_C := (fun _ => 0, fun _ _ => 0, fun _ => false)
theorem za_C0_W : za_WC za_C0 := ⟨fun _ _ => Nat.zero_lt_succ _, fun _ _ h => absurd rfl h⟩
/-- which sectors are in use -/
def za_us (L S : za_T) (O : Nat → Nat) (s : Nat) : Prop := s = 0 ∨ L.2.1 = s ∨ S.2.1 = s ∨ ∃ p, p < 16 ∧ (L.1 p = s ∨ S.1 p = s ∨ O p = s)

/-! Long.bitCount counts. -/
def za_pc (f : Nat → Bool) : Nat → Nat
  | 0 => 0
  | n + 1 => za_pc f n + (if f n then 1 else 0)
theorem za_pc_add (f : Nat → Bool) (m n : Nat) : za_pc f (m + n) = za_pc f m + za_pc (fun i => f (m + i)) n := by
  induction n with
  | zero => rfl
  | succ n ih =>
    show za_pc f (m + n) + (if f (m + n) then 1 else 0) = za_pc f m + (za_pc (fun i => f (m + i)) n + (if f (m + n) then 1 else 0))
    rw [ih, Nat.add_assoc]
theorem za_pc_e {f g : Nat → Bool} {n : Nat} (h : ∀ i, i < n → f i = g i) : za_pc f n = za_pc g n := by
  induction n with
  | zero => rfl
  | succ n ih =>
    unfold za_pc
    rw [ih (fun i hi => h i (by omega)), h n (by omega)]
theorem za_pc_le (f : Nat → Bool) (n : Nat) : za_pc f n ≤ n := by
  induction n with
  | zero => exact Nat.le_refl 0
  | succ n ih =>
    unfold za_pc
    split <;> omega
/-- a mask of n bytes -/
def zB (c : Nat) : Nat → Nat
  | 0 => 0
  | n + 1 => 256 * zB c n + c
theorem zB_and {a b c d : Nat} (hb : b < 256) (hd : d < 256) : (256 * a + b) &&& (256 * c + d) = 256 * (a &&& c) + (b &&& d) := by
  have h1 : ((256 * a + b) &&& (256 * c + d)) % 2 ^ 8 = b &&& d := by
    rw [Nat.and_mod_two_pow, show (256 * a + b) % 2 ^ 8 = b by omega, show (256 * c + d) % 2 ^ 8 = d by omega]
  have h2 : ((256 * a + b) &&& (256 * c + d)) / 2 ^ 8 = a &&& c := by
    rw [Nat.and_div_two_pow, show (256 * a + b) / 2 ^ 8 = a by omega, show (256 * c + d) / 2 ^ 8 = c by omega]
  omega
theorem zB_S (c n : Nat) : zB c (n + 1) = 256 * zB c n + c := rfl
def zB1 (m x : Nat) : Nat := x - ((x / 2) &&& m)
def zB2 (m x : Nat) : Nat := (x &&& m) + ((x / 4) &&& m)
def zB3 (m x : Nat) : Nat := (x + x / 16) &&& m
theorem zB_a1 : ∀ r, r < 256 → ∀ e, e < 2 → (128 * e + r / 2) &&& 85 = (r / 2) &&& 85 := by decide +kernel
theorem zB_a2 : ∀ r, r < 256 → ∀ e, e < 4 → (64 * e + r / 4) &&& 51 = (r / 4) &&& 51 := by decide +kernel
theorem zB_a3 : ∀ r, r < 256 → zB1 85 r < 256 ∧ zB2 51 (zB1 85 r) % 16 ≤ 4 ∧ zB2 51 (zB1 85 r) / 16 ≤ 4 := by decide +kernel
theorem zB_s1 (m q : Nat) {r : Nat} (hr : r < 256) : zB1 (256 * m + 85) (256 * q + r) = 256 * zB1 m q + zB1 85 r := by
  unfold zB1
  rw [show (256 * q + r) / 2 = 256 * (q / 2) + (128 * (q % 2) + r / 2) by omega, zB_and (by omega) (by decide), zB_a1 r hr (q % 2) (by omega)]
  have h1 : (q / 2) &&& m ≤ q / 2 := Nat.and_le_left
  have h2 : (r / 2) &&& 85 ≤ r / 2 := Nat.and_le_left
  omega
theorem zB_s2 (m q : Nat) {r : Nat} (hr : r < 256) : zB2 (256 * m + 51) (256 * q + r) = 256 * zB2 m q + zB2 51 r := by
  unfold zB2
  rw [show (256 * q + r) / 4 = 256 * (q / 4) + (64 * (q % 4) + r / 4) by omega, zB_and hr (by decide), zB_and (by omega) (by decide), zB_a2 r hr (q % 4) (by omega)]
  omega
theorem zB_s3 (m q : Nat) {r : Nat} (h1 : r % 16 ≤ 4) (h2 : r / 16 ≤ 4) (h3 : q % 16 ≤ 4) : zB3 (256 * m + 15) (256 * q + r) = 256 * zB3 m q + zB3 15 r := by
  unfold zB3
  rw [show 256 * q + r + (256 * q + r) / 16 = 256 * (q + q / 16) + (r + r / 16 + 16 * (q % 16)) by omega, zB_and (by omega) (by decide)]
  have e : ∀ x, x &&& 15 = x % 16 := fun x => Nat.and_two_pow_sub_one_eq_mod x 4
  rw [e, e]
  omega
/-- byte by byte -/
def zBt : Nat → Nat → Nat
  | 0, _ => 0
  | n + 1, x => 256 * zBt n (x / 256) + zB3 15 (zB2 51 (zB1 85 (x % 256)))
theorem zB_lo (n x : Nat) : zB2 (zB 51 n) (zB1 (zB 85 n) x) % 16 ≤ 4 := by
  cases n with
  | zero =>
    unfold zB2 zB
    rw [Nat.and_zero, Nat.and_zero]
    decide
  | succ n =>
    have hr := Nat.mod_lt x (by decide : 256 > 0)
    obtain ⟨h1, h2, h3⟩ := zB_a3 _ hr
    have e := Nat.div_add_mod x 256
    rw [← e, zB_S, zB_S, zB_s1 _ _ hr, zB_s2 _ _ h1]
    omega
theorem zB_all (n x : Nat) : zB3 (zB 15 n) (zB2 (zB 51 n) (zB1 (zB 85 n) x)) = zBt n x := by
  induction n generalizing x with
  | zero =>
    unfold zB3 zB zBt
    exact Nat.and_zero _
  | succ n ih =>
    have hr := Nat.mod_lt x (by decide : 256 > 0)
    obtain ⟨h1, h2, h3⟩ := zB_a3 _ hr
    have e := Nat.div_add_mod x 256
    unfold zBt
    rw [← ih (x / 256)]
    conv => lhs; rw [← e]
    rw [zB_S, zB_S, zB_S, zB_s1 _ _ hr, zB_s2 _ _ h1, zB_s3 _ _ h2 h3 (zB_lo n _)]
theorem zB_b : ∀ r, r < 256 → zB3 15 (zB2 51 (zB1 85 r)) = za_pc (Nat.testBit r) 8 := by decide +kernel
theorem zB_tb (x : Nat) : za_pc (Nat.testBit (x % 256)) 8 = za_pc (Nat.testBit x) 8 := za_pc_e (fun i hi => by
  rw [show (256 : Nat) = 2 ^ 8 from rfl, Nat.testBit_mod_two_pow]
  simp [hi])
theorem zB_td (x m i : Nat) : Nat.testBit (x / 2 ^ m) i = Nat.testBit x (m + i) := by
  rw [Nat.testBit_div_two_pow, Nat.add_comm]
theorem zB_d {y A c : Nat} (h : y = 256 * A + c) (hc : c < 256) : y / 256 = A := by omega
theorem zB_sum {c0 c1 c2 c3 c4 c5 c6 c7 a1 a2 a3 a4 a5 a6 x : Nat} (h0 : c0 ≤ 8) (h1 : c1 ≤ 8) (h2 : c2 ≤ 8) (h3 : c3 ≤ 8) (h4 : c4 ≤ 8) (h5 : c5 ≤ 8) (h6 : c6 ≤ 8) (h7 : c7 ≤ 8)
    (g6 : a6 = 256 * c7 + c6) (g5 : a5 = 256 * a6 + c5) (g4 : a4 = 256 * a5 + c4) (g3 : a3 = 256 * a4 + c3) (g2 : a2 = 256 * a3 + c2) (g1 : a1 = 256 * a2 + c1) (g0 : x = 256 * a1 + c0) {y z u : Nat}
    (ey : y = x + x / 256) (ez : z = y + y / 65536) (eu : u = z + z / 4294967296) :
    u < 2 ^ 64 ∧ y < 2 ^ 64 ∧ z < 2 ^ 64 ∧ u % 128 = c0 + c1 + c2 + c3 + c4 + c5 + c6 + c7 := by
  rw [zB_d g0 (by omega)] at ey
  have y0 : y = 256 * (a1 + a2) + (c0 + c1) := by omega
  have y1 : a1 + a2 = 256 * (a2 + a3) + (c1 + c2) := by omega
  rw [show 65536 = 256 * 256 from rfl, ← Nat.div_div_eq_div_mul, zB_d y0 (by omega), zB_d y1 (by omega)] at ez
  have z0 : z = 256 * (a1 + a2 + a3 + a4) + (c0 + c1 + c2 + c3) := by omega
  have z1 : a1 + a2 + a3 + a4 = 256 * (a2 + a3 + a4 + a5) + (c1 + c2 + c3 + c4) := by omega
  have z2 : a2 + a3 + a4 + a5 = 256 * (a3 + a4 + a5 + a6) + (c2 + c3 + c4 + c5) := by omega
  have z3 : a3 + a4 + a5 + a6 = 256 * (a4 + a5 + a6 + c7) + (c3 + c4 + c5 + c6) := by omega
  rw [show 4294967296 = 256 * 256 * 256 * 256 from rfl, ← Nat.div_div_eq_div_mul, ← Nat.div_div_eq_div_mul, ← Nat.div_div_eq_div_mul, zB_d z0 (by omega), zB_d z1 (by omega), zB_d z2 (by omega), zB_d z3 (by omega)] at eu
  have u0 : u = 256 * (a1 + a2 + a3 + a4 + a5 + a6 + c7) + (c0 + c1 + c2 + c3 + c4 + c5 + c6 + c7) := by omega
  have b6 : a6 ≤ 2056 := by omega
  have b5 : a5 ≤ 526344 := by omega
  have b4 : a4 ≤ 134744072 := by omega
  have b3 : a3 ≤ 34494482440 := by omega
  have b2 : a2 ≤ 8830587504648 := by omega
  have b1 : a1 ≤ 2260630401189896 := by omega
  clear g0 g1 g2 g3 g4 g5 g6 ey ez eu y1 z1 z2 z3
  refine ⟨by omega, by omega, by omega, ?_⟩
  rw [u0]
  generalize a1 + a2 + a3 + a4 + a5 + a6 + c7 = K
  omega
/-- Long.bitCount, step by step -/
def zk_sr (x : Int64) (n : Int32) : Int64 := (x.toUInt64 >>> (n.toInt64.toUInt64 &&& Int64.toUInt64 63)).toInt64
def zk_b1 (x : Int64) : Int64 := x - (zk_sr x (nI 1) &&& (6148914691236517205))
def zk_b2 (x : Int64) : Int64 := (x &&& (3689348814741910323)) + (zk_sr x (nI 2) &&& (3689348814741910323))
def zk_b3 (x : Int64) : Int64 := (x + zk_sr x (nI 4)) &&& (1085102592571150095)
def zk_b4 (n : Int32) (x : Int64) : Int64 := x + zk_sr x n
def zk_bc (u : Int64) : Int32 := (zk_b4 (nI 32) (zk_b4 (nI 16) (zk_b4 (nI 8) (zk_b3 (zk_b2 (zk_b1 u)))))).toInt32 &&& nI 127
theorem zk_srn (u : Int64) {s : Nat} (hs : s < 64) : (zk_sr u (nI s)).toBitVec.toNat = u.toBitVec.toNat / 2 ^ s := by
  have e : (zk_sr u (nI s)).toBitVec = u.toBitVec >>> s := by
    show u.toBitVec >>> (((nI s).toInt64.toUInt64 &&& Int64.toUInt64 63).toBitVec % 64#64) = _
    rw [BitVec.ushiftRight_eq', zb_amt s hs]
  rw [e, BitVec.toNat_ushiftRight, Nat.shiftRight_eq_div_pow]
theorem zk_addn (a b : Int64) (h : a.toBitVec.toNat + b.toBitVec.toNat < 2 ^ 64) : (a + b).toBitVec.toNat = a.toBitVec.toNat + b.toBitVec.toNat := by
  rw [Int64.toBitVec_add, BitVec.toNat_add, Nat.mod_eq_of_lt h]
theorem zk_andn (a b : Int64) : (a &&& b).toBitVec.toNat = a.toBitVec.toNat &&& b.toBitVec.toNat := by
  rw [Int64.toBitVec_and, BitVec.toNat_and]
theorem zk_b1n (u : Int64) : (zk_b1 u).toBitVec.toNat = zB1 (zB 85 8) u.toBitVec.toNat := by
  unfold zk_b1 zB1
  have e : (zk_sr u (nI 1) &&& (6148914691236517205)).toBitVec.toNat = u.toBitVec.toNat / 2 &&& zB 85 8 := by
    rw [zk_andn, zk_srn u (by decide)]
    rfl
  have h : (zk_sr u (nI 1) &&& (6148914691236517205)).toBitVec.toNat ≤ u.toBitVec.toNat := by
    rw [e]
    exact Nat.le_trans Nat.and_le_left (Nat.div_le_self _ _)
  rw [Int64.toBitVec_sub, BitVec.toNat_sub_of_le h, e]
theorem zk_b2n (u : Int64) : (zk_b2 u).toBitVec.toNat = zB2 (zB 51 8) u.toBitVec.toNat := by
  unfold zk_b2 zB2
  have e1 : (u &&& (3689348814741910323)).toBitVec.toNat = u.toBitVec.toNat &&& zB 51 8 := by
    rw [zk_andn]
    rfl
  have e2 : (zk_sr u (nI 2) &&& (3689348814741910323)).toBitVec.toNat = u.toBitVec.toNat / 4 &&& zB 51 8 := by
    rw [zk_andn, zk_srn u (by decide)]
    rfl
  have h1 : u.toBitVec.toNat &&& zB 51 8 ≤ zB 51 8 := Nat.and_le_right
  have h2 : u.toBitVec.toNat / 4 &&& zB 51 8 ≤ zB 51 8 := Nat.and_le_right
  have h3 : zB 51 8 = 3689348814741910323 := by decide +kernel
  rw [zk_addn _ _ (by rw [e1, e2]; omega), e1, e2]
theorem zk_b2l (u : Int64) : (zk_b2 u).toBitVec.toNat ≤ 7378697629483820646 := by
  rw [zk_b2n]
  unfold zB2
  have h1 : u.toBitVec.toNat &&& zB 51 8 ≤ zB 51 8 := Nat.and_le_right
  have h2 : u.toBitVec.toNat / 4 &&& zB 51 8 ≤ zB 51 8 := Nat.and_le_right
  have h3 : zB 51 8 = 3689348814741910323 := by decide +kernel
  omega
theorem zk_b3n (u : Int64) (h : u.toBitVec.toNat ≤ 7378697629483820646) : (zk_b3 u).toBitVec.toNat = zB3 (zB 15 8) u.toBitVec.toNat := by
  unfold zk_b3 zB3
  rw [zk_andn, zk_addn _ _ (by rw [zk_srn u (by decide)]; omega), zk_srn u (by decide)]
  rfl
theorem zB_cle (r : Nat) : zB3 15 (zB2 51 (zB1 85 (r % 256))) ≤ 8 := by
  rw [zB_b _ (Nat.mod_lt _ (by decide))]
  exact za_pc_le _ 8
theorem zB_byte (x m : Nat) : zB3 15 (zB2 51 (zB1 85 (x / 2 ^ m % 256))) = za_pc (fun i => Nat.testBit x (m + i)) 8 := by
  rw [zB_b _ (Nat.mod_lt _ (by decide)), zB_tb]
  exact za_pc_e (fun i _ => zB_td x m i)
theorem zk_bcn (u : Int64) : zk_bc u = nI (za_pc (zb u) 64) := by
  unfold zk_bc
  have hw : (zk_b3 (zk_b2 (zk_b1 u))).toBitVec.toNat = zBt 8 u.toBitVec.toNat := by
    rw [zk_b3n _ (zk_b2l _), zk_b2n, zk_b1n, zB_all]
  generalize zk_b3 (zk_b2 (zk_b1 u)) = v at hw
  have hx : u.toBitVec.toNat = u.toBitVec.toNat := rfl
  generalize hN : u.toBitVec.toNat = N at hw
  have hpc : za_pc (zb u) 64 = za_pc (Nat.testBit N) 64 := za_pc_e (fun i _ => by rw [← hN]; rfl)
  have hsum : za_pc (Nat.testBit N) 64 = zB3 15 (zB2 51 (zB1 85 (N / 2 ^ 0 % 256))) + zB3 15 (zB2 51 (zB1 85 (N / 2 ^ 8 % 256))) + zB3 15 (zB2 51 (zB1 85 (N / 2 ^ 16 % 256))) + zB3 15 (zB2 51 (zB1 85 (N / 2 ^ 24 % 256))) + zB3 15 (zB2 51 (zB1 85 (N / 2 ^ 32 % 256))) + zB3 15 (zB2 51 (zB1 85 (N / 2 ^ 40 % 256))) + zB3 15 (zB2 51 (zB1 85 (N / 2 ^ 48 % 256))) + zB3 15 (zB2 51 (zB1 85 (N / 2 ^ 56 % 256))) := by
    rw [zB_byte, zB_byte, zB_byte, zB_byte, zB_byte, zB_byte, zB_byte, zB_byte]
    rw [show (64 : Nat) = 56 + 8 from rfl, za_pc_add, show (56 : Nat) = 48 + 8 from rfl, za_pc_add _ 48, show (48 : Nat) = 40 + 8 from rfl, za_pc_add _ 40, show (40 : Nat) = 32 + 8 from rfl, za_pc_add _ 32, show (32 : Nat) = 24 + 8 from rfl, za_pc_add _ 24, show (24 : Nat) = 16 + 8 from rfl, za_pc_add _ 16, show (16 : Nat) = 8 + 8 from rfl, za_pc_add _ 8]
    refine congrArg (· + _) (congrArg (· + _) (congrArg (· + _) (congrArg (· + _) (congrArg (· + _) (congrArg (· + _) (congrArg (· + _) (za_pc_e (fun i _ => by rw [Nat.zero_add])))))))) 
  have hd : ∀ a b : Nat, N / 2 ^ a / 256 = N / 2 ^ (a + 8) := fun a _ => by rw [Nat.div_div_eq_div_mul, Nat.pow_add]
  have k : ∀ a n, zBt (n + 1) (N / 2 ^ a) = 256 * zBt n (N / 2 ^ (a + 8)) + zB3 15 (zB2 51 (zB1 85 (N / 2 ^ a % 256))) := fun a n => by
    rw [← hd a 0]
    rfl
  have h0 : zBt 8 N = 256 * zBt 7 (N / 2 ^ 8) + zB3 15 (zB2 51 (zB1 85 (N / 2 ^ 0 % 256))) := by
    have := k 0 7
    rw [show N / 2 ^ 0 = N by rw [Nat.pow_zero, Nat.div_one]] at this ⊢
    exact this
  have h7 : zBt 1 (N / 2 ^ 56) = zB3 15 (zB2 51 (zB1 85 (N / 2 ^ 56 % 256))) := by
    rw [k 56 0]
    show 256 * 0 + _ = _
    omega
  have S := zB_sum (zB_cle (N / 2 ^ 0)) (zB_cle (N / 2 ^ 8)) (zB_cle (N / 2 ^ 16)) (zB_cle (N / 2 ^ 24)) (zB_cle (N / 2 ^ 32)) (zB_cle (N / 2 ^ 40)) (zB_cle (N / 2 ^ 48)) (zB_cle (N / 2 ^ 56)) (by rw [k 48 1, h7]) (k 40 2) (k 32 3) (k 24 4) (k 16 5) (k 8 6) h0 rfl rfl rfl
  obtain ⟨S1, S2, S3, S4⟩ := S
  rw [← hw] at S1 S2 S3 S4
  rw [hpc, hsum, ← S4]
  have v1 : (zk_b4 (nI 8) v).toBitVec.toNat = v.toBitVec.toNat + v.toBitVec.toNat / 256 := by
    unfold zk_b4
    rw [zk_addn _ _ (by rw [zk_srn v (by decide)]; exact S2), zk_srn v (by decide)]
  generalize zk_b4 (nI 8) v = v1' at v1
  have v2 : (zk_b4 (nI 16) v1').toBitVec.toNat = v1'.toBitVec.toNat + v1'.toBitVec.toNat / 65536 := by
    unfold zk_b4
    rw [zk_addn _ _ (by rw [zk_srn v1' (by decide), v1]; exact S3), zk_srn v1' (by decide)]
  generalize zk_b4 (nI 16) v1' = v2' at v2
  have v3 : (zk_b4 (nI 32) v2').toBitVec.toNat = v2'.toBitVec.toNat + v2'.toBitVec.toNat / 4294967296 := by
    unfold zk_b4
    rw [zk_addn _ _ (by rw [zk_srn v2' (by decide), v2, v1]; exact S1), zk_srn v2' (by decide)]
  generalize zk_b4 (nI 32) v2' = v3' at v3
  rw [pk_and _ 7 (by decide), Int64.toBitVec_toInt32, BitVec.signExtend_eq_setWidth_of_le _ (by decide), BitVec.toNat_setWidth, Nat.mod_mod_of_dvd _ (by decide), v3, v2, v1]

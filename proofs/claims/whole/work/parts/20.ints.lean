/-! INTS BY WHOLE NUMBERS -/
def xI (z : Int) : Int32 := Int32.ofInt z
theorem xI_toInt {z : Int} (h0 : -2147483648 ≤ z) (h1 : z ≤ 2147483647) : (xI z).toInt = z := Int32.toInt_ofInt_of_le h0 (by omega)
theorem xI_of (x : Int32) : xI x.toInt = x := Int32.ofInt_toInt x
theorem xI_bv (z : Int) : (xI z).toBitVec = BitVec.ofInt 32 z := rfl
theorem xI_nat (z : Int) : (xI z).toBitVec.toNat = (z % 4294967296).toNat := by
  rw [xI_bv, BitVec.toNat_ofInt]; rfl
theorem xI_ext {x : Int32} {z : Int} (h : x.toBitVec.toNat = (z % 4294967296).toNat) : x = xI z := by
  apply Int32.toBitVec_inj.mp
  apply BitVec.eq_of_toNat_eq
  rw [h, xI_nat]
theorem xI_mod {a b : Int} (h : a % 4294967296 = b % 4294967296) : xI a = xI b := xI_ext (by rw [xI_nat, h])
theorem xI_add (a b : Int) : xI a + xI b = xI (a + b) := (Int32.ofInt_add a b).symm
theorem xI_sub (a b : Int) : xI a - xI b = xI (a - b) := (Int32.ofInt_sub a b).symm
theorem xI_mul (a b : Int) : xI a * xI b = xI (a * b) := (Int32.ofInt_mul a b).symm
theorem xI_neg (a : Int) : -xI a = xI (-a) := (Int32.ofInt_neg a).symm
theorem xI_lt {a b : Int} (a0 : -2147483648 ≤ a) (a1 : a ≤ 2147483647) (b0 : -2147483648 ≤ b) (b1 : b ≤ 2147483647) : xI a < xI b ↔ a < b := by
  rw [Int32.lt_iff_toInt_lt, xI_toInt a0 a1, xI_toInt b0 b1]
theorem xI_le {a b : Int} (a0 : -2147483648 ≤ a) (a1 : a ≤ 2147483647) (b0 : -2147483648 ≤ b) (b1 : b ≤ 2147483647) : xI a ≤ xI b ↔ a ≤ b := by
  rw [Int32.le_iff_toInt_le, xI_toInt a0 a1, xI_toInt b0 b1]
theorem xI_eq {a b : Int} (a0 : -2147483648 ≤ a) (a1 : a ≤ 2147483647) (b0 : -2147483648 ≤ b) (b1 : b ≤ 2147483647) : xI a = xI b ↔ a = b := by
  rw [← Int32.toInt_inj, xI_toInt a0 a1, xI_toInt b0 b1]
theorem xI_0 : xI 0 = 0 := rfl
theorem xI_clamp {a : Int} (a0 : 0 ≤ a) (a1 : a ≤ 2147483647) : (xI a).toNatClampNeg = a.toNat := by
  show (xI a).toInt.toNat = a.toNat
  rw [xI_toInt (by omega) a1]
theorem xI_tdiv {a b : Int} (a0 : -2147483648 < a) (a1 : a ≤ 2147483647) (b0 : -2147483648 ≤ b) (b1 : b ≤ 2147483647) : xI a / xI b = xI (a.tdiv b) := by
  apply Int32.toInt_inj.mp
  rw [Int32.toInt_div, xI_toInt (by omega) a1, xI_toInt b0 b1]
  show (a.tdiv b).bmod (2 ^ 32) = (Int32.ofInt (a.tdiv b)).toInt
  rw [Int32.toInt_ofInt]
theorem xI_tmod {a b : Int} (a0 : -2147483648 < a) (a1 : a ≤ 2147483647) (b0 : -2147483648 ≤ b) (b1 : b ≤ 2147483647) : xI a - xI a / xI b * xI b = xI (a.tmod b) := by
  rw [xI_tdiv a0 a1 b0 b1, xI_mul, xI_sub, Int.tmod_def, Int.mul_comm]
theorem xI_div {a b : Int} (a0 : 0 ≤ a) (a1 : a ≤ 2147483647) (b0 : 0 ≤ b) (b1 : b ≤ 2147483647) : xI a / xI b = xI (a / b) := by
  rw [xI_tdiv (by omega) a1 (by omega) b1, Int.tdiv_eq_ediv_of_nonneg a0]
theorem xI_rem {a b : Int} (a0 : 0 ≤ a) (a1 : a ≤ 2147483647) (b0 : 0 ≤ b) (b1 : b ≤ 2147483647) : xI a - xI a / xI b * xI b = xI (a % b) := by
  rw [xI_tmod (by omega) a1 (by omega) b1, Int.tmod_eq_emod_of_nonneg a0]
theorem xI_sh : ∀ k, k < 32 → ((xI (k : Nat) &&& 31).toBitVec.smod 32).toNat = k := by decide +kernel
theorem xI_pow_le (k : Nat) : (1 : Int) ≤ 2 ^ k := by
  have : (0 : Int) < 2 ^ k := Int.pow_pos (by omega)
  omega
theorem xI_shr {a k : Int} (a0 : -2147483648 ≤ a) (a1 : a ≤ 2147483647) (k0 : 0 ≤ k) (k1 : k ≤ 31) : xI a >>> (xI k &&& 31) = xI (a / 2 ^ k.toNat) := by
  obtain ⟨n, rfl⟩ := Int.eq_ofNat_of_zero_le k0
  have hs := xI_sh n (by omega)
  apply Int32.toInt_inj.mp
  rw [pk_shr _ _ n hs, xI_toInt a0 a1, Int.shiftRight_eq_div_pow]
  have h2 := xI_pow_le n
  have hd : a = 2 ^ n * (a / 2 ^ n) + a % 2 ^ n := (Int.mul_ediv_add_emod a _).symm
  have h3 := Int.emod_nonneg a (b := 2 ^ n) (by omega)
  have h4 := Int.emod_lt_of_pos a (b := 2 ^ n) (by omega)
  have hlo : -2147483648 ≤ a / 2 ^ n := by
    rw [Int.le_ediv_iff_mul_le (by omega)]
    have : (2147483648 : Int) * 1 ≤ 2147483648 * 2 ^ n := Int.mul_le_mul_of_nonneg_left h2 (by omega)
    have e : (-2147483648 : Int) * 2 ^ n = -(2147483648 * 2 ^ n) := Int.neg_mul _ _
    rw [e]; omega
  have hhi : a / 2 ^ n ≤ 2147483647 := by
    have : a / 2 ^ n < 2147483648 := by
      rw [Int.ediv_lt_iff_lt_mul (by omega)]
      have : (2147483648 : Int) * 1 ≤ 2147483648 * 2 ^ n := Int.mul_le_mul_of_nonneg_left h2 (by omega)
      omega
    omega
  have e : (((2 ^ n : Nat)) : Int) = (2 : Int) ^ n := by norm_cast
  rw [xI_toInt (by simpa using hlo) (by simpa using hhi), e]
  rfl
theorem xI_shl {a k : Int} (k0 : 0 ≤ k) (k1 : k ≤ 31) : xI a <<< (xI k &&& 31) = xI (a * 2 ^ k.toNat) := by
  obtain ⟨n, rfl⟩ := Int.eq_ofNat_of_zero_le k0
  have hs := xI_sh n (by omega)
  apply Int32.toBitVec_inj.mp
  rw [Int32.toBitVec_shiftLeft]
  rw [xI_bv, xI_bv]
  have e : ((xI (n : Nat) &&& 31).toBitVec.smod 32) = BitVec.ofNat 32 n := by
    apply BitVec.eq_of_toNat_eq; rw [hs, BitVec.toNat_ofNat, Nat.mod_eq_of_lt (by omega)]
  show BitVec.ofInt 32 a <<< ((xI (n : Nat) &&& 31).toBitVec.smod 32) = _
  rw [e]
  apply BitVec.eq_of_toNat_eq
  rw [BitVec.shiftLeft_eq', BitVec.toNat_shiftLeft, BitVec.toNat_ofNat, Nat.mod_eq_of_lt (a := n) (by omega), BitVec.toNat_ofInt, BitVec.toNat_ofInt, Nat.shiftLeft_eq]
  have : ((a * 2 ^ (n : Int).toNat) % ((2 ^ 32 : Nat) : Int)) = (((a % ((2 ^ 32 : Nat) : Int)).toNat * 2 ^ n % 2 ^ 32 : Nat) : Int) := by
    have h1 : 0 ≤ a % ((2 ^ 32 : Nat) : Int) := Int.emod_nonneg _ (by decide)
    rw [Int.natCast_emod, Int.natCast_mul, Int.toNat_of_nonneg h1, Int.toNat_natCast, Int.natCast_pow]
    have e : ∀ x y n : Int, x % n * y % n = x * y % n := fun x y n => by rw [Int.mul_emod, Int.emod_emod, ← Int.mul_emod]
    exact (e _ _ _).symm
  rw [this, Int.toNat_natCast]
/-- and, or, xor of whole numbers -/
def xA (a b : Int) : Int := (((a % 4294967296).toNat &&& (b % 4294967296).toNat : Nat) : Int)
def xO (a b : Int) : Int := (((a % 4294967296).toNat ||| (b % 4294967296).toNat : Nat) : Int)
def xX (a b : Int) : Int := (((a % 4294967296).toNat ^^^ (b % 4294967296).toNat : Nat) : Int)
theorem xI_lt32 (a : Int) : (a % 4294967296).toNat < 2 ^ 32 := by omega
theorem xI_and (a b : Int) : xI a &&& xI b = xI (xA a b) := xI_ext (by
  rw [Int32.toBitVec_and, BitVec.toNat_and, xI_nat, xI_nat]
  have : (a % 4294967296).toNat &&& (b % 4294967296).toNat < 2 ^ 32 := Nat.and_lt_two_pow _ (xI_lt32 b)
  unfold xA; omega)
theorem xI_or (a b : Int) : xI a ||| xI b = xI (xO a b) := xI_ext (by
  rw [Int32.toBitVec_or, BitVec.toNat_or, xI_nat, xI_nat]
  have : (a % 4294967296).toNat ||| (b % 4294967296).toNat < 2 ^ 32 := Nat.or_lt_two_pow (xI_lt32 a) (xI_lt32 b)
  unfold xO; omega)
theorem xI_xor (a b : Int) : xI a ^^^ xI b = xI (xX a b) := xI_ext (by
  rw [Int32.toBitVec_xor, BitVec.toNat_xor, xI_nat, xI_nat]
  have : (a % 4294967296).toNat ^^^ (b % 4294967296).toNat < 2 ^ 32 := Nat.xor_lt_two_pow (xI_lt32 a) (xI_lt32 b)
  unfold xX; omega)
theorem xA_mask (a : Int) (k : Nat) (hk : k ≤ 31) : xA a (2 ^ k - 1) = a % 2 ^ k := by
  have e : ((2 : Int) ^ k - 1) = ((2 ^ k - 1 : Nat) : Int) := by
    have := Nat.two_pow_pos k
    rw [Int.natCast_sub (by omega)]; norm_cast
  have hle : (2 : Nat) ^ k ≤ 2 ^ 31 := Nat.pow_le_pow_right (by omega) hk
  unfold xA
  rw [e, Int.emod_eq_of_lt (a := ((2 ^ k - 1 : Nat) : Int)) (b := 4294967296) (by omega) (by omega), Int.toNat_natCast, Nat.and_two_pow_sub_one_eq_mod]
  rw [Int.natCast_emod, Int.toNat_of_nonneg (by omega)]
  have e2 : (((2 : Nat) ^ k : Nat) : Int) = (2 : Int) ^ k := by norm_cast
  rw [e2, Int.emod_emod_of_dvd]
  exact ⟨2 ^ (32 - k), by rw [← Int.pow_add, show k + (32 - k) = 32 by omega]; rfl⟩
theorem xA_1 (a : Int) : xA a 1 = a % 2 := xA_mask a 1 (by omega)
theorem xA_15 (a : Int) : xA a 15 = a % 16 := xA_mask a 4 (by omega)
theorem xA_255 (a : Int) : xA a 255 = a % 256 := xA_mask a 8 (by omega)
theorem xA_511 (a : Int) : xA a 511 = a % 512 := xA_mask a 9 (by omega)
theorem xA_65535 (a : Int) : xA a 65535 = a % 65536 := xA_mask a 16 (by omega)
theorem xA_32768 (a : Int) : xA a 32768 = a / 32768 % 2 * 32768 := by
  have h : ∀ n : Nat, n &&& 32768 = n / 32768 % 2 * 32768 := fun n => by
    show n &&& 2 ^ 15 = n / 2 ^ 15 % 2 ^ 1 * 2 ^ 15
    apply Nat.eq_of_testBit_eq
    intro i
    rw [Nat.testBit_and, Nat.testBit_two_pow, Nat.mul_comm, Nat.testBit_two_pow_mul, Nat.testBit_mod_two_pow, Nat.testBit_div_two_pow]
    by_cases h : 15 = i
    · subst h; simp
    · by_cases h2 : i ≥ 15
      · have : ¬ i - 15 < 1 := by omega
        simp [h, this]
      · simp [h, h2]
  unfold xA
  show (((a % 4294967296).toNat &&& 32768 : Nat) : Int) = _
  rw [h]
  omega

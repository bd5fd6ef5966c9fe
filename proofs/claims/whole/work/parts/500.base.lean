/-! whole numbers behind the machine's ints and longs -/
def iI (x : Int) : Int32 := Int32.ofInt x
def jJ (x : Int) : Int64 := Int64.ofInt x
theorem iI_nI (n : Nat) : nI n = iI (n : Int) := Int32.ofInt_eq_ofNat.symm
theorem jJ_lN (n : Nat) : lN n = jJ (n : Int) := Int64.ofInt_eq_ofNat.symm
theorem iI_lit (n : Nat) : (OfNat.ofNat n : Int32) = iI (OfNat.ofNat n : Nat) := Int32.ofInt_eq_ofNat.symm
theorem jJ_lit (n : Nat) : (OfNat.ofNat n : Int64) = jJ (OfNat.ofNat n : Nat) := Int64.ofInt_eq_ofNat.symm
theorem iI_of (x : Int32) : x = iI x.toInt := (Int32.ofInt_toInt x).symm
theorem jJ_of (x : Int64) : x = jJ x.toInt := (Int64.ofInt_toInt x).symm
theorem iI_toInt {x : Int} (h : -2147483648 ≤ x) (h2 : x < 2147483648) : (iI x).toInt = x := Int32.toInt_ofInt_of_le (by omega) (by omega)
theorem jJ_toInt {x : Int} (h : -9223372036854775808 ≤ x) (h2 : x < 9223372036854775808) : (jJ x).toInt = x := Int64.toInt_ofInt_of_le (by omega) (by omega)
theorem i_range (x : Int32) : -2147483648 ≤ x.toInt ∧ x.toInt < 2147483648 := by
  have a := Int32.le_toInt x
  have b := Int32.toInt_lt x
  omega
theorem j_range (x : Int64) : -9223372036854775808 ≤ x.toInt ∧ x.toInt < 9223372036854775808 := by
  have a := Int64.le_toInt x
  have b := Int64.toInt_lt x
  omega
theorem iI_add (x y : Int) : iI x + iI y = iI (x + y) := (Int32.ofInt_add x y).symm
theorem iI_sub (x y : Int) : iI x - iI y = iI (x - y) := (Int32.ofInt_sub x y).symm
theorem iI_mul (x y : Int) : iI x * iI y = iI (x * y) := (Int32.ofInt_mul x y).symm
theorem iI_neg (x : Int) : -iI x = iI (-x) := (Int32.ofInt_neg x).symm
theorem jJ_add (x y : Int) : jJ x + jJ y = jJ (x + y) := (Int64.ofInt_add x y).symm
theorem jJ_sub (x y : Int) : jJ x - jJ y = jJ (x - y) := (Int64.ofInt_sub x y).symm
theorem jJ_mul (x y : Int) : jJ x * jJ y = jJ (x * y) := (Int64.ofInt_mul x y).symm
theorem jJ_neg (x : Int) : -jJ x = jJ (-x) := (Int64.ofInt_neg x).symm
theorem iI_lt {x y : Int} (hx : -2147483648 ≤ x) (hx2 : x < 2147483648) (hy : -2147483648 ≤ y) (hy2 : y < 2147483648) : (iI x < iI y) = (x < y) := by
  rw [Int32.lt_iff_toInt_lt, iI_toInt hx hx2, iI_toInt hy hy2]
theorem iI_le {x y : Int} (hx : -2147483648 ≤ x) (hx2 : x < 2147483648) (hy : -2147483648 ≤ y) (hy2 : y < 2147483648) : (iI x ≤ iI y) = (x ≤ y) := by
  rw [Int32.le_iff_toInt_le, iI_toInt hx hx2, iI_toInt hy hy2]
theorem iI_eq {x y : Int} (hx : -2147483648 ≤ x) (hx2 : x < 2147483648) (hy : -2147483648 ≤ y) (hy2 : y < 2147483648) : (iI x = iI y) = (x = y) := by
  rw [← Int32.toInt_inj, iI_toInt hx hx2, iI_toInt hy hy2]
theorem jJ_lt {x y : Int} (hx : -9223372036854775808 ≤ x) (hx2 : x < 9223372036854775808) (hy : -9223372036854775808 ≤ y) (hy2 : y < 9223372036854775808) : (jJ x < jJ y) = (x < y) := by
  rw [Int64.lt_iff_toInt_lt, jJ_toInt hx hx2, jJ_toInt hy hy2]
theorem jJ_le {x y : Int} (hx : -9223372036854775808 ≤ x) (hx2 : x < 9223372036854775808) (hy : -9223372036854775808 ≤ y) (hy2 : y < 9223372036854775808) : (jJ x ≤ jJ y) = (x ≤ y) := by
  rw [Int64.le_iff_toInt_le, jJ_toInt hx hx2, jJ_toInt hy hy2]
theorem jJ_eq {x y : Int} (hx : -9223372036854775808 ≤ x) (hx2 : x < 9223372036854775808) (hy : -9223372036854775808 ≤ y) (hy2 : y < 9223372036854775808) : (jJ x = jJ y) = (x = y) := by
  rw [← Int64.toInt_inj, jJ_toInt hx hx2, jJ_toInt hy hy2]
theorem iI_clamp {x : Int} (h : -2147483648 ≤ x) (h2 : x < 2147483648) : (iI x).toNatClampNeg = x.toNat := Int32.toNatClampNeg_ofInt_of_le (by omega) (by omega)
theorem iI_gin {x : Int} {n : Nat} (h : -2147483648 ≤ x) (h2 : x < 2147483648) : gin (iI x) n = (0 ≤ x ∧ x < n) := by
  apply propext
  unfold gin
  rw [iI_clamp h h2, iI_lit 0, iI_lt h h2 (by decide) (by decide)]
  constructor
  · intro q
    constructor
    · exact Int.not_lt.mp (fun a => q (Or.inl a))
    · have := Nat.not_le.mp (fun a => q (Or.inr a))
      have : 0 ≤ x := Int.not_lt.mp (fun a => q (Or.inl a))
      omega
  · intro q a
    rcases a with a | a
    · exact absurd q.1 (by omega)
    · omega
theorem iI_l {x : Int} (h : -2147483648 ≤ x) (h2 : x < 2147483648) : (iI x).toInt64 = jJ x := by
  rw [jJ_of (iI x).toInt64, Int32.toInt_toInt64, iI_toInt h h2]
theorem jJ_i (x : Int) : (jJ x).toInt32 = iI x := Int64.toInt32_ofInt
theorem iI_div {x y : Int} (hx : -2147483648 ≤ x) (hx2 : x < 2147483648) (hy : 0 < y) (hy2 : y < 2147483648) : iI x / iI y = iI (x.tdiv y) := by
  have hne : iI y ≠ -1 := by
    intro q
    have := congrArg Int32.toInt q
    rw [iI_toInt (by omega) hy2] at this
    have e : (-1 : Int32).toInt = -1 := by decide
    omega
  rw [iI_of (iI x / iI y), Int32.toInt_div_of_ne_right _ _ hne, iI_toInt hx hx2, iI_toInt (by omega) hy2]
theorem jJ_div {x y : Int} (hx : -9223372036854775808 ≤ x) (hx2 : x < 9223372036854775808) (hy : 0 < y) (hy2 : y < 9223372036854775808) : jJ x / jJ y = jJ (x.tdiv y) := by
  have hne : jJ y ≠ -1 := by
    intro q
    have := congrArg Int64.toInt q
    rw [jJ_toInt (by omega) hy2] at this
    have e : (-1 : Int64).toInt = -1 := by decide
    omega
  rw [jJ_of (jJ x / jJ y), Int64.toInt_div_of_ne_right _ _ hne, jJ_toInt hx hx2, jJ_toInt (by omega) hy2]
theorem iI_rem {x y : Int} (hx : -2147483648 ≤ x) (hx2 : x < 2147483648) (hy : 0 < y) (hy2 : y < 2147483648) : irm (iI x) (iI y) = iI (x.tmod y) := by
  unfold irm
  rw [iI_div hx hx2 hy hy2, iI_mul, iI_sub, Int.tmod_def, Int.mul_comm]
theorem jJ_rem {x y : Int} (hx : -9223372036854775808 ≤ x) (hx2 : x < 9223372036854775808) (hy : 0 < y) (hy2 : y < 9223372036854775808) : lrm (jJ x) (jJ y) = jJ (x.tmod y) := by
  unfold lrm
  rw [jJ_div hx hx2 hy hy2, jJ_mul, jJ_sub, Int.tmod_def, Int.mul_comm]
/-- the 32 or 64 bits of a number, taken without a sign -/
theorem iI_bits (x : Int) : (iI x).toBitVec.toNat = (x % 4294967296).toNat := by
  unfold iI
  rw [Int32.toBitVec_ofInt, BitVec.toNat_ofInt]
  rfl
theorem jJ_bits (x : Int) : (jJ x).toBitVec.toNat = (x % 18446744073709551616).toNat := by
  unfold jJ
  rw [Int64.toBitVec_ofInt, BitVec.toNat_ofInt]
  rfl
theorem iI_ofBits {x : Int32} {n : Nat} (h : x.toBitVec.toNat = n) : x = iI (n : Int) := by
  apply Int32.toBitVec_inj.mp
  apply BitVec.eq_of_toNat_eq
  rw [iI_bits, h]
  have := x.toBitVec.isLt
  omega
theorem jJ_ofBits {x : Int64} {n : Nat} (h : x.toBitVec.toNat = n) : x = jJ (n : Int) := by
  apply Int64.toBitVec_inj.mp
  apply BitVec.eq_of_toNat_eq
  rw [jJ_bits, h]
  have := x.toBitVec.isLt
  omega
theorem iI_and (x y : Nat) : iI x &&& iI y = iI ((x % 4294967296 &&& y % 4294967296 : Nat) : Int) := by
  apply iI_ofBits
  rw [Int32.toBitVec_and, BitVec.toNat_and, iI_bits, iI_bits]
  congr 1 <;> omega
theorem jJ_and (x y : Nat) : jJ x &&& jJ y = jJ ((x % 18446744073709551616 &&& y % 18446744073709551616 : Nat) : Int) := by
  apply jJ_ofBits
  rw [Int64.toBitVec_and, BitVec.toNat_and, jJ_bits, jJ_bits]
  congr 1 <;> omega
/-- & with 2^k - 1 -/
theorem iI_mask (x : Int) (k : Nat) (hk : k ≤ 31) : iI x &&& iI ((2 ^ k - 1 : Nat) : Int) = iI (x % (2 ^ k : Nat)) := by
  have e1 : (2 ^ k : Nat) ∣ 4294967296 := ⟨2 ^ (32 - k), by rw [← Nat.pow_add, show k + (32 - k) = 32 from by omega]⟩
  have hp : 0 < 2 ^ k := Nat.two_pow_pos k
  have hl : 2 ^ k ≤ 2 ^ 31 := Nat.pow_le_pow_right (by decide) hk
  rw [show iI (x % (2 ^ k : Nat)) = iI (((x % (2 ^ k : Nat)).toNat : Nat) : Int) from by rw [Int.toNat_of_nonneg (Int.emod_nonneg _ (by omega))]]
  apply iI_ofBits
  rw [Int32.toBitVec_and, BitVec.toNat_and, iI_bits, iI_bits]
  rw [show ((2 ^ k - 1 : Nat) : Int) % 4294967296 = ((2 ^ k - 1 : Nat) : Int) from Int.emod_eq_of_lt (by omega) (by omega), Int.toNat_natCast, Nat.and_two_pow_sub_one_eq_mod]
  have e2 : ((x % 4294967296).toNat : Int) = x % 4294967296 := Int.toNat_of_nonneg (Int.emod_nonneg _ (by decide))
  have e3 : (x % 4294967296) % ((2 ^ k : Nat) : Int) = x % ((2 ^ k : Nat) : Int) := Int.emod_emod_of_dvd x (by exact_mod_cast e1)
  have : (((x % 4294967296).toNat % 2 ^ k : Nat) : Int) = x % ((2 ^ k : Nat) : Int) := by rw [Int.natCast_emod, e2, e3]
  omega
theorem jJ_mask (x : Int) (k : Nat) (hk : k ≤ 63) : jJ x &&& jJ ((2 ^ k - 1 : Nat) : Int) = jJ (x % (2 ^ k : Nat)) := by
  have e1 : (2 ^ k : Nat) ∣ 18446744073709551616 := ⟨2 ^ (64 - k), by rw [← Nat.pow_add, show k + (64 - k) = 64 from by omega]⟩
  have hp : 0 < 2 ^ k := Nat.two_pow_pos k
  have hl : 2 ^ k ≤ 2 ^ 63 := Nat.pow_le_pow_right (by decide) hk
  rw [show jJ (x % (2 ^ k : Nat)) = jJ (((x % (2 ^ k : Nat)).toNat : Nat) : Int) from by rw [Int.toNat_of_nonneg (Int.emod_nonneg _ (by omega))]]
  apply jJ_ofBits
  rw [Int64.toBitVec_and, BitVec.toNat_and, jJ_bits, jJ_bits]
  rw [show ((2 ^ k - 1 : Nat) : Int) % 18446744073709551616 = ((2 ^ k - 1 : Nat) : Int) from Int.emod_eq_of_lt (by omega) (by omega), Int.toNat_natCast, Nat.and_two_pow_sub_one_eq_mod]
  have e2 : ((x % 18446744073709551616).toNat : Int) = x % 18446744073709551616 := Int.toNat_of_nonneg (Int.emod_nonneg _ (by decide))
  have e3 : (x % 18446744073709551616) % ((2 ^ k : Nat) : Int) = x % ((2 ^ k : Nat) : Int) := Int.emod_emod_of_dvd x (by exact_mod_cast e1)
  have : (((x % 18446744073709551616).toNat % 2 ^ k : Nat) : Int) = x % ((2 ^ k : Nat) : Int) := by rw [Int.natCast_emod, e2, e3]
  omega
/-- shift counts -/
theorem sh6 : ∀ k : Nat, k < 64 → (((iI k).toInt64 &&& 63).toBitVec.smod 64).toNat = k := by decide +kernel
theorem sh6u : ∀ k : Nat, k < 64 → (((iI k).toInt64.toUInt64 &&& Int64.toUInt64 63).toBitVec % 64).toNat = k := by decide +kernel
theorem jJ_lsl (x : Int) {k : Nat} (hk : k < 64) : lsl (jJ x) (iI k) = jJ (x * (2 ^ k : Nat)) := by
  apply Int64.toBitVec_inj.mp
  apply BitVec.eq_of_toNat_eq
  unfold lsl
  rw [Int64.toBitVec_shiftLeft, BitVec.shiftLeft_eq', sh6 k hk, BitVec.toNat_shiftLeft, jJ_bits, jJ_bits, Nat.shiftLeft_eq]
  have e2 : ((x % 18446744073709551616).toNat : Int) = x % 18446744073709551616 := Int.toNat_of_nonneg (Int.emod_nonneg _ (by decide))
  have e4 : ((x * (2 ^ k : Nat) % 18446744073709551616).toNat : Int) = x * (2 ^ k : Nat) % 18446744073709551616 := Int.toNat_of_nonneg (Int.emod_nonneg _ (by decide))
  have : ((((x % 18446744073709551616).toNat * 2 ^ k) % 2 ^ 64 : Nat) : Int) = ((x * (2 ^ k : Nat) % 18446744073709551616).toNat : Int) := by
    rw [Int.natCast_emod, Int.natCast_mul, e2, e4, show ((2 ^ 64 : Nat) : Int) = 18446744073709551616 from by decide]
    rw [← Int.emod_mul_emod_left]
    rfl
  exact_mod_cast this
theorem jJ_lsr {x : Int} (h : -9223372036854775808 ≤ x) (h2 : x < 9223372036854775808) {k : Nat} (hk : k < 64) : lsr (jJ x) (iI k) = jJ (x / (2 ^ k : Nat)) := by
  unfold lsr
  rw [jJ_of (jJ x >>> ((iI k).toInt64 &&& 63))]
  congr 1
  show ((jJ x >>> ((iI k).toInt64 &&& 63)).toBitVec).toInt = _
  rw [Int64.toBitVec_shiftRight, BitVec.sshiftRight_eq', sh6 k hk, BitVec.toInt_sshiftRight]
  show ((jJ x).toInt) >>> k = _
  rw [jJ_toInt h h2, Int.shiftRight_eq_div_pow]
theorem jJ_lus {x : Nat} (h2 : x < 18446744073709551616) {k : Nat} (hk : k < 64) : lus (jJ x) (iI k) = jJ ((x / 2 ^ k : Nat) : Int) := by
  apply jJ_ofBits
  unfold lus
  show ((jJ x).toUInt64 >>> ((iI k).toInt64.toUInt64 &&& Int64.toUInt64 63)).toBitVec.toNat = _
  rw [UInt64.toBitVec_shiftRight, BitVec.ushiftRight_eq', sh6u k hk, BitVec.toNat_ushiftRight, Nat.shiftRight_eq_div_pow]
  show (jJ x).toBitVec.toNat / 2 ^ k = _
  rw [jJ_bits]
  congr 1
  omega

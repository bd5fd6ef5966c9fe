/-! whole numbers behind the machine's ints and longs -/
def iI (x : Int) : Int32 := Int32.ofInt x
def jJ (x : Int) : Int64 := Int64.ofInt x
theorem iI_nI (n : Nat) : nI n = iI (n : Int) := Int32.ofInt_eq_ofNat.symm
theorem jJ_lN (n : Nat) : lN n = jJ (n : Int) := Int64.ofInt_eq_ofNat.symm
theorem iI_lit (n : Nat) : (OfNat.ofNat n : Int32) = iI (OfNat.ofNat n : Nat) := Int32.ofInt_eq_ofNat.symm
theorem jJ_lit (n : Nat) : (OfNat.ofNat n : Int64) = jJ (OfNat.ofNat n : Nat) := Int64.ofInt_eq_ofNat.symm
theorem iI_of (x : Int32) : x = iI x.toInt := (Int32.ofInt_toInt x).symm
theorem jJ_of (x : Int64) : x = jJ x.toInt := (Int64.ofInt_toInt x).symm
theorem iI_toInt {x : Int} (h : -2147483648 ≤ x) (h2 : x < 2147483648) : (iI x).toInt = x := Int32.toInt_ofInt_of_le (by omega) (by omega)
theorem jJ_toInt {x : Int} (h : -9223372036854775808 ≤ x) (h2 : x < 9223372036854775808) : (jJ x).toInt = x := Int64.toInt_ofInt_of_le (by omega) (by omega)
theorem i_range (x : Int32) : -2147483648 ≤ x.toInt ∧ x.toInt < 2147483648 := by
  have a := Int32.le_toInt x
  have b := Int32.toInt_lt x
  omega
theorem j_range (x : Int64) : -9223372036854775808 ≤ x.toInt ∧ x.toInt < 9223372036854775808 := by
  have a := Int64.le_toInt x
  have b := Int64.toInt_lt x
  omega
theorem iI_add (x y : Int) : iI x + iI y = iI (x + y) := (Int32.ofInt_add x y).symm
theorem iI_sub (x y : Int) : iI x - iI y = iI (x - y) := (Int32.ofInt_sub x y).symm
theorem iI_mul (x y : Int) : iI x * iI y = iI (x * y) := (Int32.ofInt_mul x y).symm
theorem iI_neg (x : Int) : -iI x = iI (-x) := (Int32.ofInt_neg x).symm
theorem jJ_add (x y : Int) : jJ x + jJ y = jJ (x + y) := (Int64.ofInt_add x y).symm
theorem jJ_sub (x y : Int) : jJ x - jJ y = jJ (x - y) := (Int64.ofInt_sub x y).symm
theorem jJ_mul (x y : Int) : jJ x * jJ y = jJ (x * y) := (Int64.ofInt_mul x y).symm
theorem jJ_neg (x : Int) : -jJ x = jJ (-x) := (Int64.ofInt_neg x).symm
theorem iI_lt {x y : Int} (hx : -2147483648 ≤ x) (hx2 : x < 2147483648) (hy : -2147483648 ≤ y) (hy2 : y < 2147483648) : (iI x < iI y) = (x < y) := by
  rw [Int32.lt_iff_toInt_lt, iI_toInt hx hx2, iI_toInt hy hy2]
theorem iI_le {x y : Int} (hx : -2147483648 ≤ x) (hx2 : x < 2147483648) (hy : -2147483648 ≤ y) (hy2 : y < 2147483648) : (iI x ≤ iI y) = (x ≤ y) := by
  rw [Int32.le_iff_toInt_le, iI_toInt hx hx2, iI_toInt hy hy2]
theorem iI_eq {x y : Int} (hx : -2147483648 ≤ x) (hx2 : x < 2147483648) (hy : -2147483648 ≤ y) (hy2 : y < 2147483648) : (iI x = iI y) = (x = y) := by
  rw [← Int32.toInt_inj, iI_toInt hx hx2, iI_toInt hy hy2]
theorem jJ_lt {x y : Int} (hx : -9223372036854775808 ≤ x) (hx2 : x < 9223372036854775808) (hy : -9223372036854775808 ≤ y) (hy2 : y < 9223372036854775808) : (jJ x < jJ y) = (x < y) := by
  rw [Int64.lt_iff_toInt_lt, jJ_toInt hx hx2, jJ_toInt hy hy2]
theorem jJ_le {x y : Int} (hx : -9223372036854775808 ≤ x) (hx2 : x < 9223372036854775808) (hy : -9223372036854775808 ≤ y) (hy2 : y < 9223372036854775808) : (jJ x ≤ jJ y) = (x ≤ y) := by
  rw [Int64.le_iff_toInt_le, jJ_toInt hx hx2, jJ_toInt hy hy2]
theorem jJ_eq {x y : Int} (hx : -9223372036854775808 ≤ x) (hx2 : x < 9223372036854775808) (hy : -9223372036854775808 ≤ y) (hy2 : y < 9223372036854775808) : (jJ x = jJ y) = (x = y) := by
  rw [← Int64.toInt_inj, jJ_toInt hx hx2, jJ_toInt hy hy2]
theorem iI_clamp {x : Int} (h : -2147483648 ≤ x) (h2 : x < 2147483648) : (iI x).toNatClampNeg = x.toNat := Int32.toNatClampNeg_ofInt_of_le (by omega) (by omega)
theorem iI_gin {x : Int} {n : Nat} (h : -2147483648 ≤ x) (h2 : x < 2147483648) : gin (iI x) n = (0 ≤ x ∧ x < n) := by
  apply propext
  unfold gin
  rw [iI_clamp h h2, show (0 : Int32) = iI 0 from by decide, iI_lt h h2 (by decide) (by decide)]
  constructor
  · intro q
    constructor
    · exact Int.not_lt.mp (fun a => q (Or.inl a))
    · have := Nat.not_le.mp (fun a => q (Or.inr a))
      have : 0 ≤ x := Int.not_lt.mp (fun a => q (Or.inl a))
      omega
  · intro q a
    rcases a with a | a
    · exact absurd q.1 (by omega)
    · omega
theorem iI_l {x : Int} (h : -2147483648 ≤ x) (h2 : x < 2147483648) : (iI x).toInt64 = jJ x := by
  rw [jJ_of (iI x).toInt64, Int32.toInt_toInt64, iI_toInt h h2]
theorem jJ_i (x : Int) : (jJ x).toInt32 = iI x := Int64.toInt32_ofInt
theorem iI_div {x y : Int} (hx : -2147483648 ≤ x) (hx2 : x < 2147483648) (hy : 0 < y) (hy2 : y < 2147483648) : iI x / iI y = iI (x.tdiv y) := by
  have hne : iI y ≠ -1 := by
    intro q
    have := congrArg Int32.toInt q
    rw [iI_toInt (by omega) hy2] at this
    have e : (-1 : Int32).toInt = -1 := by decide
    omega
  rw [iI_of (iI x / iI y), Int32.toInt_div_of_ne_right _ _ hne, iI_toInt hx hx2, iI_toInt (by omega) hy2]
theorem jJ_div {x y : Int} (hx : -9223372036854775808 ≤ x) (hx2 : x < 9223372036854775808) (hy : 0 < y) (hy2 : y < 9223372036854775808) : jJ x / jJ y = jJ (x.tdiv y) := by
  have hne : jJ y ≠ -1 := by
    intro q
    have := congrArg Int64.toInt q
    rw [jJ_toInt (by omega) hy2] at this
    have e : (-1 : Int64).toInt = -1 := by decide
    omega
  rw [jJ_of (jJ x / jJ y), Int64.toInt_div_of_ne_right _ _ hne, jJ_toInt hx hx2, jJ_toInt (by omega) hy2]
theorem iI_rem {x y : Int} (hx : -2147483648 ≤ x) (hx2 : x < 2147483648) (hy : 0 < y) (hy2 : y < 2147483648) : irm (iI x) (iI y) = iI (x.tmod y) := by
  unfold irm
  rw [iI_div hx hx2 hy hy2, iI_mul, iI_sub, Int.tmod_def, Int.mul_comm]
theorem jJ_rem {x y : Int} (hx : -9223372036854775808 ≤ x) (hx2 : x < 9223372036854775808) (hy : 0 < y) (hy2 : y < 9223372036854775808) : lrm (jJ x) (jJ y) = jJ (x.tmod y) := by
  unfold lrm
  rw [jJ_div hx hx2 hy hy2, jJ_mul, jJ_sub, Int.tmod_def, Int.mul_comm]
/-- the 32 or 64 bits of a number, taken without a sign -/
theorem iI_bits (x : Int) : (iI x).toBitVec.toNat = (x % 4294967296).toNat := by
  unfold iI
  rw [Int32.toBitVec_ofInt, BitVec.toNat_ofInt]
  rfl
theorem jJ_bits (x : Int) : (jJ x).toBitVec.toNat = (x % 18446744073709551616).toNat := by
  unfold jJ
  rw [Int64.toBitVec_ofInt, BitVec.toNat_ofInt]
  rfl
theorem iI_ofBits {x : Int32} {n : Nat} (h : x.toBitVec.toNat = n) : x = iI (n : Int) := by
  apply Int32.toBitVec_inj.mp
  apply BitVec.eq_of_toNat_eq
  rw [iI_bits, h]
  have := x.toBitVec.isLt
  omega
theorem jJ_ofBits {x : Int64} {n : Nat} (h : x.toBitVec.toNat = n) : x = jJ (n : Int) := by
  apply Int64.toBitVec_inj.mp
  apply BitVec.eq_of_toNat_eq
  rw [jJ_bits, h]
  have := x.toBitVec.isLt
  omega
theorem iI_and (x y : Nat) : iI x &&& iI y = iI ((x % 4294967296 &&& y % 4294967296 : Nat) : Int) := by
  apply iI_ofBits
  rw [Int32.toBitVec_and, BitVec.toNat_and, iI_bits, iI_bits]
  congr 1 <;> omega
theorem jJ_and (x y : Nat) : jJ x &&& jJ y = jJ ((x % 18446744073709551616 &&& y % 18446744073709551616 : Nat) : Int) := by
  apply jJ_ofBits
  rw [Int64.toBitVec_and, BitVec.toNat_and, jJ_bits, jJ_bits]
  congr 1 <;> omega
/-- & with 2^k - 1 -/
theorem iI_mask (x : Int) (k : Nat) (hk : k ≤ 31) : iI x &&& iI ((2 ^ k - 1 : Nat) : Int) = iI (x % (2 ^ k : Nat)) := by
  have e1 : (2 ^ k : Nat) ∣ 4294967296 := ⟨2 ^ (32 - k), by rw [← Nat.pow_add, show k + (32 - k) = 32 from by omega]⟩
  have hp : 0 < 2 ^ k := Nat.two_pow_pos k
  have hl : 2 ^ k ≤ 2 ^ 31 := Nat.pow_le_pow_right (by decide) hk
  rw [show iI (x % (2 ^ k : Nat)) = iI (((x % (2 ^ k : Nat)).toNat : Nat) : Int) from by rw [Int.toNat_of_nonneg (Int.emod_nonneg _ (by omega))]]
  apply iI_ofBits
  rw [Int32.toBitVec_and, BitVec.toNat_and, iI_bits, iI_bits]
  rw [show ((2 ^ k - 1 : Nat) : Int) % 4294967296 = ((2 ^ k - 1 : Nat) : Int) from Int.emod_eq_of_lt (by omega) (by omega), Int.toNat_natCast, Nat.and_two_pow_sub_one_eq_mod]
  have e2 : ((x % 4294967296).toNat : Int) = x % 4294967296 := Int.toNat_of_nonneg (Int.emod_nonneg _ (by decide))
  have e3 : (x % 4294967296) % ((2 ^ k : Nat) : Int) = x % ((2 ^ k : Nat) : Int) := Int.emod_emod_of_dvd x (show ((2 ^ k : Nat) : Int) ∣ ((4294967296 : Nat) : Int) from Int.natCast_dvd_natCast.mpr e1)
  have : (((x % 4294967296).toNat % 2 ^ k : Nat) : Int) = x % ((2 ^ k : Nat) : Int) := by rw [Int.natCast_emod, e2, e3]
  omega
theorem jJ_mask (x : Int) (k : Nat) (hk : k ≤ 63) : jJ x &&& jJ ((2 ^ k - 1 : Nat) : Int) = jJ (x % (2 ^ k : Nat)) := by
  have e1 : (2 ^ k : Nat) ∣ 18446744073709551616 := ⟨2 ^ (64 - k), by rw [← Nat.pow_add, show k + (64 - k) = 64 from by omega]⟩
  have hp : 0 < 2 ^ k := Nat.two_pow_pos k
  have hl : 2 ^ k ≤ 2 ^ 63 := Nat.pow_le_pow_right (by decide) hk
  rw [show jJ (x % (2 ^ k : Nat)) = jJ (((x % (2 ^ k : Nat)).toNat : Nat) : Int) from by rw [Int.toNat_of_nonneg (Int.emod_nonneg _ (by omega))]]
  apply jJ_ofBits
  rw [Int64.toBitVec_and, BitVec.toNat_and, jJ_bits, jJ_bits]
  rw [show ((2 ^ k - 1 : Nat) : Int) % 18446744073709551616 = ((2 ^ k - 1 : Nat) : Int) from Int.emod_eq_of_lt (by omega) (by omega), Int.toNat_natCast, Nat.and_two_pow_sub_one_eq_mod]
  have e2 : ((x % 18446744073709551616).toNat : Int) = x % 18446744073709551616 := Int.toNat_of_nonneg (Int.emod_nonneg _ (by decide))
  have e3 : (x % 18446744073709551616) % ((2 ^ k : Nat) : Int) = x % ((2 ^ k : Nat) : Int) := Int.emod_emod_of_dvd x (show ((2 ^ k : Nat) : Int) ∣ ((18446744073709551616 : Nat) : Int) from Int.natCast_dvd_natCast.mpr e1)
  have : (((x % 18446744073709551616).toNat % 2 ^ k : Nat) : Int) = x % ((2 ^ k : Nat) : Int) := by rw [Int.natCast_emod, e2, e3]
  omega
/-- shift counts -/
theorem sh6 : ∀ k : Nat, k < 64 → (((iI k).toInt64 &&& 63).toBitVec.smod 64).toNat = k := by decide +kernel
theorem sh6u : ∀ k : Nat, k < 64 → (((iI k).toInt64.toUInt64 &&& Int64.toUInt64 63).toBitVec % 64).toNat = k := by decide +kernel
theorem jJ_lsl (x : Int) {k : Nat} (hk : k < 64) : lsl (jJ x) (iI k) = jJ (x * (2 ^ k : Nat)) := by
  apply Int64.toBitVec_inj.mp
  apply BitVec.eq_of_toNat_eq
  unfold lsl
  rw [Int64.toBitVec_shiftLeft, BitVec.shiftLeft_eq', sh6 k hk, BitVec.toNat_shiftLeft, jJ_bits, jJ_bits, Nat.shiftLeft_eq]
  have e2 : ((x % 18446744073709551616).toNat : Int) = x % 18446744073709551616 := Int.toNat_of_nonneg (Int.emod_nonneg _ (by decide))
  have e4 : ((x * (2 ^ k : Nat) % 18446744073709551616).toNat : Int) = x * (2 ^ k : Nat) % 18446744073709551616 := Int.toNat_of_nonneg (Int.emod_nonneg _ (by decide))
  have : ((((x % 18446744073709551616).toNat * 2 ^ k) % 2 ^ 64 : Nat) : Int) = ((x * (2 ^ k : Nat) % 18446744073709551616).toNat : Int) := by
    rw [Int.natCast_emod, Int.natCast_mul, e2, e4, show ((2 ^ 64 : Nat) : Int) = 18446744073709551616 from by decide]
    rw [Int.mul_emod, Int.emod_emod, ← Int.mul_emod]
  exact Int.ofNat.inj this
theorem jJ_lsr {x : Int} (h : -9223372036854775808 ≤ x) (h2 : x < 9223372036854775808) {k : Nat} (hk : k < 64) : lsr (jJ x) (iI k) = jJ (x / (2 ^ k : Nat)) := by
  unfold lsr
  rw [jJ_of (jJ x >>> ((iI k).toInt64 &&& 63))]
  congr 1
  show ((jJ x >>> ((iI k).toInt64 &&& 63)).toBitVec).toInt = _
  rw [Int64.toBitVec_shiftRight, BitVec.sshiftRight_eq', sh6 k hk, BitVec.toInt_sshiftRight]
  show ((jJ x).toInt) >>> k = _
  rw [jJ_toInt h h2, Int.shiftRight_eq_div_pow]
theorem jJ_lus {x : Nat} (h2 : x < 18446744073709551616) {k : Nat} (hk : k < 64) : lus (jJ x) (iI k) = jJ ((x / 2 ^ k : Nat) : Int) := by
  apply jJ_ofBits
  unfold lus
  show ((jJ x).toUInt64 >>> ((iI k).toInt64.toUInt64 &&& Int64.toUInt64 63)).toBitVec.toNat = _
  rw [UInt64.toBitVec_shiftRight, BitVec.ushiftRight_eq', sh6u k hk, BitVec.toNat_ushiftRight, Nat.shiftRight_eq_div_pow]
  show (jJ x).toBitVec.toNat / 2 ^ k = _
  rw [jJ_bits]
  congr 1
  omega

/-! calls whose answer is known -/
theorem ite_c {α : Type} {c d : Prop} [Decidable c] [Decidable d] (h : c = d) {a b : α} : (if c then a else b) = (if d then a else b) := by subst h; congr
theorem bd_s {α β : Type} (a : α) (k : α → Option β) : bd a k = k a := rfl
theorem ck_s {β : Type} {c : Prop} [Decidable c] (h : c) (k : Option β) : ck c k = k := if_pos h
theorem bi0_s {β : Type} {k : Unit → Option β} : bi0 (some ()) k = k () := rfl
theorem bi1_s {β α1 : Type} {a1 : α1} {k : α1 → Option β} : bi1 (some a1) k = k a1 := rfl
theorem bi2_s {β α1 α2 : Type} {a1 : α1} { a2 : α2} {k : α1 → α2 → Option β} : bi2 (some (a1, a2)) k = k a1 a2 := rfl
theorem bi3_s {β α1 α2 α3 : Type} {a1 : α1} { a2 : α2} { a3 : α3} {k : α1 → α2 → α3 → Option β} : bi3 (some (a1, a2, a3)) k = k a1 a2 a3 := rfl
theorem bi4_s {β α1 α2 α3 α4 : Type} {a1 : α1} { a2 : α2} { a3 : α3} { a4 : α4} {k : α1 → α2 → α3 → α4 → Option β} : bi4 (some (a1, a2, a3, a4)) k = k a1 a2 a3 a4 := rfl
theorem bi5_s {β α1 α2 α3 α4 α5 : Type} {a1 : α1} { a2 : α2} { a3 : α3} { a4 : α4} { a5 : α5} {k : α1 → α2 → α3 → α4 → α5 → Option β} : bi5 (some (a1, a2, a3, a4, a5)) k = k a1 a2 a3 a4 a5 := rfl
theorem bi6_s {β α1 α2 α3 α4 α5 α6 : Type} {a1 : α1} { a2 : α2} { a3 : α3} { a4 : α4} { a5 : α5} { a6 : α6} {k : α1 → α2 → α3 → α4 → α5 → α6 → Option β} : bi6 (some (a1, a2, a3, a4, a5, a6)) k = k a1 a2 a3 a4 a5 a6 := rfl
theorem bi7_s {β α1 α2 α3 α4 α5 α6 α7 : Type} {a1 : α1} { a2 : α2} { a3 : α3} { a4 : α4} { a5 : α5} { a6 : α6} { a7 : α7} {k : α1 → α2 → α3 → α4 → α5 → α6 → α7 → Option β} : bi7 (some (a1, a2, a3, a4, a5, a6, a7)) k = k a1 a2 a3 a4 a5 a6 a7 := rfl
theorem bi8_s {β α1 α2 α3 α4 α5 α6 α7 α8 : Type} {a1 : α1} { a2 : α2} { a3 : α3} { a4 : α4} { a5 : α5} { a6 : α6} { a7 : α7} { a8 : α8} {k : α1 → α2 → α3 → α4 → α5 → α6 → α7 → α8 → Option β} : bi8 (some (a1, a2, a3, a4, a5, a6, a7, a8)) k = k a1 a2 a3 a4 a5 a6 a7 a8 := rfl
theorem bi9_s {β α1 α2 α3 α4 α5 α6 α7 α8 α9 : Type} {a1 : α1} { a2 : α2} { a3 : α3} { a4 : α4} { a5 : α5} { a6 : α6} { a7 : α7} { a8 : α8} { a9 : α9} {k : α1 → α2 → α3 → α4 → α5 → α6 → α7 → α8 → α9 → Option β} : bi9 (some (a1, a2, a3, a4, a5, a6, a7, a8, a9)) k = k a1 a2 a3 a4 a5 a6 a7 a8 a9 := rfl
theorem bi10_s {β α1 α2 α3 α4 α5 α6 α7 α8 α9 α10 : Type} {a1 : α1} { a2 : α2} { a3 : α3} { a4 : α4} { a5 : α5} { a6 : α6} { a7 : α7} { a8 : α8} { a9 : α9} { a10 : α10} {k : α1 → α2 → α3 → α4 → α5 → α6 → α7 → α8 → α9 → α10 → Option β} : bi10 (some (a1, a2, a3, a4, a5, a6, a7, a8, a9, a10)) k = k a1 a2 a3 a4 a5 a6 a7 a8 a9 a10 := rfl
theorem bi11_s {β α1 α2 α3 α4 α5 α6 α7 α8 α9 α10 α11 : Type} {a1 : α1} { a2 : α2} { a3 : α3} { a4 : α4} { a5 : α5} { a6 : α6} { a7 : α7} { a8 : α8} { a9 : α9} { a10 : α10} { a11 : α11} {k : α1 → α2 → α3 → α4 → α5 → α6 → α7 → α8 → α9 → α10 → α11 → Option β} : bi11 (some (a1, a2, a3, a4, a5, a6, a7, a8, a9, a10, a11)) k = k a1 a2 a3 a4 a5 a6 a7 a8 a9 a10 a11 := rfl
theorem bi12_s {β α1 α2 α3 α4 α5 α6 α7 α8 α9 α10 α11 α12 : Type} {a1 : α1} { a2 : α2} { a3 : α3} { a4 : α4} { a5 : α5} { a6 : α6} { a7 : α7} { a8 : α8} { a9 : α9} { a10 : α10} { a11 : α11} { a12 : α12} {k : α1 → α2 → α3 → α4 → α5 → α6 → α7 → α8 → α9 → α10 → α11 → α12 → Option β} : bi12 (some (a1, a2, a3, a4, a5, a6, a7, a8, a9, a10, a11, a12)) k = k a1 a2 a3 a4 a5 a6 a7 a8 a9 a10 a11 a12 := rfl
theorem bi13_s {β α1 α2 α3 α4 α5 α6 α7 α8 α9 α10 α11 α12 α13 : Type} {a1 : α1} { a2 : α2} { a3 : α3} { a4 : α4} { a5 : α5} { a6 : α6} { a7 : α7} { a8 : α8} { a9 : α9} { a10 : α10} { a11 : α11} { a12 : α12} { a13 : α13} {k : α1 → α2 → α3 → α4 → α5 → α6 → α7 → α8 → α9 → α10 → α11 → α12 → α13 → Option β} : bi13 (some (a1, a2, a3, a4, a5, a6, a7, a8, a9, a10, a11, a12, a13)) k = k a1 a2 a3 a4 a5 a6 a7 a8 a9 a10 a11 a12 a13 := rfl
theorem bi14_s {β α1 α2 α3 α4 α5 α6 α7 α8 α9 α10 α11 α12 α13 α14 : Type} {a1 : α1} { a2 : α2} { a3 : α3} { a4 : α4} { a5 : α5} { a6 : α6} { a7 : α7} { a8 : α8} { a9 : α9} { a10 : α10} { a11 : α11} { a12 : α12} { a13 : α13} { a14 : α14} {k : α1 → α2 → α3 → α4 → α5 → α6 → α7 → α8 → α9 → α10 → α11 → α12 → α13 → α14 → Option β} : bi14 (some (a1, a2, a3, a4, a5, a6, a7, a8, a9, a10, a11, a12, a13, a14)) k = k a1 a2 a3 a4 a5 a6 a7 a8 a9 a10 a11 a12 a13 a14 := rfl
theorem bi15_s {β α1 α2 α3 α4 α5 α6 α7 α8 α9 α10 α11 α12 α13 α14 α15 : Type} {a1 : α1} { a2 : α2} { a3 : α3} { a4 : α4} { a5 : α5} { a6 : α6} { a7 : α7} { a8 : α8} { a9 : α9} { a10 : α10} { a11 : α11} { a12 : α12} { a13 : α13} { a14 : α14} { a15 : α15} {k : α1 → α2 → α3 → α4 → α5 → α6 → α7 → α8 → α9 → α10 → α11 → α12 → α13 → α14 → α15 → Option β} : bi15 (some (a1, a2, a3, a4, a5, a6, a7, a8, a9, a10, a11, a12, a13, a14, a15)) k = k a1 a2 a3 a4 a5 a6 a7 a8 a9 a10 a11 a12 a13 a14 a15 := rfl
theorem bi16_s {β α1 α2 α3 α4 α5 α6 α7 α8 α9 α10 α11 α12 α13 α14 α15 α16 : Type} {a1 : α1} { a2 : α2} { a3 : α3} { a4 : α4} { a5 : α5} { a6 : α6} { a7 : α7} { a8 : α8} { a9 : α9} { a10 : α10} { a11 : α11} { a12 : α12} { a13 : α13} { a14 : α14} { a15 : α15} { a16 : α16} {k : α1 → α2 → α3 → α4 → α5 → α6 → α7 → α8 → α9 → α10 → α11 → α12 → α13 → α14 → α15 → α16 → Option β} : bi16 (some (a1, a2, a3, a4, a5, a6, a7, a8, a9, a10, a11, a12, a13, a14, a15, a16)) k = k a1 a2 a3 a4 a5 a6 a7 a8 a9 a10 a11 a12 a13 a14 a15 a16 := rfl
theorem bi17_s {β α1 α2 α3 α4 α5 α6 α7 α8 α9 α10 α11 α12 α13 α14 α15 α16 α17 : Type} {a1 : α1} { a2 : α2} { a3 : α3} { a4 : α4} { a5 : α5} { a6 : α6} { a7 : α7} { a8 : α8} { a9 : α9} { a10 : α10} { a11 : α11} { a12 : α12} { a13 : α13} { a14 : α14} { a15 : α15} { a16 : α16} { a17 : α17} {k : α1 → α2 → α3 → α4 → α5 → α6 → α7 → α8 → α9 → α10 → α11 → α12 → α13 → α14 → α15 → α16 → α17 → Option β} : bi17 (some (a1, a2, a3, a4, a5, a6, a7, a8, a9, a10, a11, a12, a13, a14, a15, a16, a17)) k = k a1 a2 a3 a4 a5 a6 a7 a8 a9 a10 a11 a12 a13 a14 a15 a16 a17 := rfl
theorem bi18_s {β α1 α2 α3 α4 α5 α6 α7 α8 α9 α10 α11 α12 α13 α14 α15 α16 α17 α18 : Type} {a1 : α1} { a2 : α2} { a3 : α3} { a4 : α4} { a5 : α5} { a6 : α6} { a7 : α7} { a8 : α8} { a9 : α9} { a10 : α10} { a11 : α11} { a12 : α12} { a13 : α13} { a14 : α14} { a15 : α15} { a16 : α16} { a17 : α17} { a18 : α18} {k : α1 → α2 → α3 → α4 → α5 → α6 → α7 → α8 → α9 → α10 → α11 → α12 → α13 → α14 → α15 → α16 → α17 → α18 → Option β} : bi18 (some (a1, a2, a3, a4, a5, a6, a7, a8, a9, a10, a11, a12, a13, a14, a15, a16, a17, a18)) k = k a1 a2 a3 a4 a5 a6 a7 a8 a9 a10 a11 a12 a13 a14 a15 a16 a17 a18 := rfl
theorem bi19_s {β α1 α2 α3 α4 α5 α6 α7 α8 α9 α10 α11 α12 α13 α14 α15 α16 α17 α18 α19 : Type} {a1 : α1} { a2 : α2} { a3 : α3} { a4 : α4} { a5 : α5} { a6 : α6} { a7 : α7} { a8 : α8} { a9 : α9} { a10 : α10} { a11 : α11} { a12 : α12} { a13 : α13} { a14 : α14} { a15 : α15} { a16 : α16} { a17 : α17} { a18 : α18} { a19 : α19} {k : α1 → α2 → α3 → α4 → α5 → α6 → α7 → α8 → α9 → α10 → α11 → α12 → α13 → α14 → α15 → α16 → α17 → α18 → α19 → Option β} : bi19 (some (a1, a2, a3, a4, a5, a6, a7, a8, a9, a10, a11, a12, a13, a14, a15, a16, a17, a18, a19)) k = k a1 a2 a3 a4 a5 a6 a7 a8 a9 a10 a11 a12 a13 a14 a15 a16 a17 a18 a19 := rfl
theorem bi20_s {β α1 α2 α3 α4 α5 α6 α7 α8 α9 α10 α11 α12 α13 α14 α15 α16 α17 α18 α19 α20 : Type} {a1 : α1} { a2 : α2} { a3 : α3} { a4 : α4} { a5 : α5} { a6 : α6} { a7 : α7} { a8 : α8} { a9 : α9} { a10 : α10} { a11 : α11} { a12 : α12} { a13 : α13} { a14 : α14} { a15 : α15} { a16 : α16} { a17 : α17} { a18 : α18} { a19 : α19} { a20 : α20} {k : α1 → α2 → α3 → α4 → α5 → α6 → α7 → α8 → α9 → α10 → α11 → α12 → α13 → α14 → α15 → α16 → α17 → α18 → α19 → α20 → Option β} : bi20 (some (a1, a2, a3, a4, a5, a6, a7, a8, a9, a10, a11, a12, a13, a14, a15, a16, a17, a18, a19, a20)) k = k a1 a2 a3 a4 a5 a6 a7 a8 a9 a10 a11 a12 a13 a14 a15 a16 a17 a18 a19 a20 := rfl
theorem bi21_s {β α1 α2 α3 α4 α5 α6 α7 α8 α9 α10 α11 α12 α13 α14 α15 α16 α17 α18 α19 α20 α21 : Type} {a1 : α1} { a2 : α2} { a3 : α3} { a4 : α4} { a5 : α5} { a6 : α6} { a7 : α7} { a8 : α8} { a9 : α9} { a10 : α10} { a11 : α11} { a12 : α12} { a13 : α13} { a14 : α14} { a15 : α15} { a16 : α16} { a17 : α17} { a18 : α18} { a19 : α19} { a20 : α20} { a21 : α21} {k : α1 → α2 → α3 → α4 → α5 → α6 → α7 → α8 → α9 → α10 → α11 → α12 → α13 → α14 → α15 → α16 → α17 → α18 → α19 → α20 → α21 → Option β} : bi21 (some (a1, a2, a3, a4, a5, a6, a7, a8, a9, a10, a11, a12, a13, a14, a15, a16, a17, a18, a19, a20, a21)) k = k a1 a2 a3 a4 a5 a6 a7 a8 a9 a10 a11 a12 a13 a14 a15 a16 a17 a18 a19 a20 a21 := rfl
theorem bi22_s {β α1 α2 α3 α4 α5 α6 α7 α8 α9 α10 α11 α12 α13 α14 α15 α16 α17 α18 α19 α20 α21 α22 : Type} {a1 : α1} { a2 : α2} { a3 : α3} { a4 : α4} { a5 : α5} { a6 : α6} { a7 : α7} { a8 : α8} { a9 : α9} { a10 : α10} { a11 : α11} { a12 : α12} { a13 : α13} { a14 : α14} { a15 : α15} { a16 : α16} { a17 : α17} { a18 : α18} { a19 : α19} { a20 : α20} { a21 : α21} { a22 : α22} {k : α1 → α2 → α3 → α4 → α5 → α6 → α7 → α8 → α9 → α10 → α11 → α12 → α13 → α14 → α15 → α16 → α17 → α18 → α19 → α20 → α21 → α22 → Option β} : bi22 (some (a1, a2, a3, a4, a5, a6, a7, a8, a9, a10, a11, a12, a13, a14, a15, a16, a17, a18, a19, a20, a21, a22)) k = k a1 a2 a3 a4 a5 a6 a7 a8 a9 a10 a11 a12 a13 a14 a15 a16 a17 a18 a19 a20 a21 a22 := rfl
theorem bi23_s {β α1 α2 α3 α4 α5 α6 α7 α8 α9 α10 α11 α12 α13 α14 α15 α16 α17 α18 α19 α20 α21 α22 α23 : Type} {a1 : α1} { a2 : α2} { a3 : α3} { a4 : α4} { a5 : α5} { a6 : α6} { a7 : α7} { a8 : α8} { a9 : α9} { a10 : α10} { a11 : α11} { a12 : α12} { a13 : α13} { a14 : α14} { a15 : α15} { a16 : α16} { a17 : α17} { a18 : α18} { a19 : α19} { a20 : α20} { a21 : α21} { a22 : α22} { a23 : α23} {k : α1 → α2 → α3 → α4 → α5 → α6 → α7 → α8 → α9 → α10 → α11 → α12 → α13 → α14 → α15 → α16 → α17 → α18 → α19 → α20 → α21 → α22 → α23 → Option β} : bi23 (some (a1, a2, a3, a4, a5, a6, a7, a8, a9, a10, a11, a12, a13, a14, a15, a16, a17, a18, a19, a20, a21, a22, a23)) k = k a1 a2 a3 a4 a5 a6 a7 a8 a9 a10 a11 a12 a13 a14 a15 a16 a17 a18 a19 a20 a21 a22 a23 := rfl
theorem bi24_s {β α1 α2 α3 α4 α5 α6 α7 α8 α9 α10 α11 α12 α13 α14 α15 α16 α17 α18 α19 α20 α21 α22 α23 α24 : Type} {a1 : α1} { a2 : α2} { a3 : α3} { a4 : α4} { a5 : α5} { a6 : α6} { a7 : α7} { a8 : α8} { a9 : α9} { a10 : α10} { a11 : α11} { a12 : α12} { a13 : α13} { a14 : α14} { a15 : α15} { a16 : α16} { a17 : α17} { a18 : α18} { a19 : α19} { a20 : α20} { a21 : α21} { a22 : α22} { a23 : α23} { a24 : α24} {k : α1 → α2 → α3 → α4 → α5 → α6 → α7 → α8 → α9 → α10 → α11 → α12 → α13 → α14 → α15 → α16 → α17 → α18 → α19 → α20 → α21 → α22 → α23 → α24 → Option β} : bi24 (some (a1, a2, a3, a4, a5, a6, a7, a8, a9, a10, a11, a12, a13, a14, a15, a16, a17, a18, a19, a20, a21, a22, a23, a24)) k = k a1 a2 a3 a4 a5 a6 a7 a8 a9 a10 a11 a12 a13 a14 a15 a16 a17 a18 a19 a20 a21 a22 a23 a24 := rfl
theorem bi25_s {β α1 α2 α3 α4 α5 α6 α7 α8 α9 α10 α11 α12 α13 α14 α15 α16 α17 α18 α19 α20 α21 α22 α23 α24 α25 : Type} {a1 : α1} { a2 : α2} { a3 : α3} { a4 : α4} { a5 : α5} { a6 : α6} { a7 : α7} { a8 : α8} { a9 : α9} { a10 : α10} { a11 : α11} { a12 : α12} { a13 : α13} { a14 : α14} { a15 : α15} { a16 : α16} { a17 : α17} { a18 : α18} { a19 : α19} { a20 : α20} { a21 : α21} { a22 : α22} { a23 : α23} { a24 : α24} { a25 : α25} {k : α1 → α2 → α3 → α4 → α5 → α6 → α7 → α8 → α9 → α10 → α11 → α12 → α13 → α14 → α15 → α16 → α17 → α18 → α19 → α20 → α21 → α22 → α23 → α24 → α25 → Option β} : bi25 (some (a1, a2, a3, a4, a5, a6, a7, a8, a9, a10, a11, a12, a13, a14, a15, a16, a17, a18, a19, a20, a21, a22, a23, a24, a25)) k = k a1 a2 a3 a4 a5 a6 a7 a8 a9 a10 a11 a12 a13 a14 a15 a16 a17 a18 a19 a20 a21 a22 a23 a24 a25 := rfl

/-! how many bits a number has; its trailing zeros -/
def bl (n : Nat) : Nat := if n = 0 then 0 else Nat.log2 n + 1
theorem bl_0 : bl 0 = 0 := rfl
theorem bl_lt (n : Nat) : n < 2 ^ bl n := by
  unfold bl
  by_cases h : n = 0
  · rw [if_pos h, h]; decide
  · rw [if_neg h]; exact Nat.lt_log2_self
theorem bl_le {n : Nat} (h : n ≠ 0) : 2 ^ (bl n - 1) ≤ n := by
  unfold bl
  rw [if_neg h]
  exact Nat.log2_self_le h
theorem bl_pos {n : Nat} (h : n ≠ 0) : 1 ≤ bl n := by
  unfold bl
  rw [if_neg h]; omega
theorem bl_uniq {n k : Nat} (h1 : n < 2 ^ k) (h2 : 2 ^ (k - 1) ≤ n) (hk : 1 ≤ k) : bl n = k := by
  have hn : n ≠ 0 := by have := Nat.two_pow_pos (k - 1); omega
  have a := bl_lt n
  have b := bl_le hn
  have c := bl_pos hn
  rcases Nat.lt_trichotomy (bl n) k with q | q | q
  · have : 2 ^ bl n ≤ 2 ^ (k - 1) := Nat.pow_le_pow_right (by decide) (by omega)
    omega
  · exact q
  · have : 2 ^ k ≤ 2 ^ (bl n - 1) := Nat.pow_le_pow_right (by decide) (by omega)
    omega
theorem bl_le_iff {n k : Nat} : bl n ≤ k ↔ n < 2 ^ k := by
  constructor
  · intro h
    exact Nat.lt_of_lt_of_le (bl_lt n) (Nat.pow_le_pow_right (by decide) h)
  · intro h
    by_cases hn : n = 0
    · rw [hn, bl_0]; omega
    · rcases Nat.lt_or_ge k (bl n) with q | q
      · have : 2 ^ k ≤ 2 ^ (bl n - 1) := Nat.pow_le_pow_right (by decide) (by omega)
        have := bl_le hn
        omega
      · exact q
theorem bl_mul (n k : Nat) (hn : n ≠ 0) : bl (n * 2 ^ k) = bl n + k := by
  have a := bl_lt n
  have b := bl_le hn
  have c := bl_pos hn
  have p := Nat.two_pow_pos k
  refine bl_uniq ?_ ?_ (by omega)
  · rw [Nat.pow_add]; exact Nat.mul_lt_mul_of_pos_right a p
  · rw [show bl n + k - 1 = (bl n - 1) + k from by omega, Nat.pow_add]; exact Nat.mul_le_mul_right _ b
theorem bl_div {n k : Nat} (h : 2 ^ k ≤ n) : bl n = bl (n / 2 ^ k) + k := by
  have p := Nat.two_pow_pos k
  have hn : n ≠ 0 := by omega
  have hq : n / 2 ^ k ≠ 0 := by
    have := Nat.div_pos h p
    omega
  have a := bl_lt (n / 2 ^ k)
  have b := bl_le hq
  have c := bl_pos hq
  refine bl_uniq ?_ ?_ (by omega)
  · rw [Nat.pow_add]
    exact Nat.lt_mul_of_div_lt a p
  · rw [show bl (n / 2 ^ k) + k - 1 = (bl (n / 2 ^ k) - 1) + k from by omega, Nat.pow_add]
    exact (Nat.le_div_iff_mul_le p).mp b
theorem ius_nI {n : Nat} (hn : n < 4294967296) {k : Nat} (hk : k < 32) : ius (nI n) (nI k) = nI (n / 2 ^ k) := by
  unfold ius
  exact pk_ushrN (by omega) _ k ((by decide +kernel : ∀ n, n < 32 → (((nI n).toUInt32 &&& Int32.toUInt32 31).toBitVec % 32).toNat = n) k hk)
theorem nlz61 {n : Nat} (h0 : 0 < n) (h : n < 16) (Y : Int) : f_Integer_numberOfLeadingZeros_61 (nI n) (iI Y) = some (iI (Y + 1 - bl n)) := by
  unfold f_Integer_numberOfLeadingZeros_61
  by_cases c : n < 4
  · rw [if_pos (show nI n < (4 : Int32) from nI_lt c (by decide)), show (1 : Int32) = nI 1 from rfl, ius_nI (by omega) (by decide), iI_nI, iI_sub]
    have q : ∀ n, n < 4 → 0 < n → n / 2 ^ 1 + 1 = bl n := by decide
    have := q n c h0
    congr 2
    omega
  · rw [if_neg (show ¬ nI n < (4 : Int32) from nI_nlt (b := 4) (by omega) (by omega))]
    unfold bd
    dsimp only
    rw [show (-2 : Int32) = iI (-2) from by decide, show (2 : Int32) = nI 2 from rfl, ius_nI (by omega) (by decide), show (1 : Int32) = nI 1 from rfl, ius_nI (by omega) (by decide), iI_add, iI_nI, iI_sub]
    have q : ∀ n, n < 16 → ¬ n < 4 → n / 2 ^ 2 / 2 ^ 1 + 3 = bl n := by decide
    have := q n h c
    congr 2
    omega
theorem nlz48 {n : Nat} (h0 : 0 < n) (h : n < 256) (Y : Int) : f_Integer_numberOfLeadingZeros_48 (nI n) (iI Y) = some (iI (Y + 1 - bl n)) := by
  unfold f_Integer_numberOfLeadingZeros_48
  by_cases c : n < 16
  · rw [if_pos (show nI n < (16 : Int32) from nI_lt c (by decide))]; exact nlz61 h0 c Y
  · rw [if_neg (show ¬ nI n < (16 : Int32) from nI_nlt (b := 16) (by omega) (by omega))]
    unfold bd
    dsimp only
    have e := bl_div (n := n) (k := 4) (by omega)
    rw [show (-4 : Int32) = iI (-4) from by decide, show (4 : Int32) = nI 4 from rfl, ius_nI (by omega) (by decide), iI_add, nlz61 (by omega) (by omega)]
    congr 2
    omega
theorem nlz33 {n : Nat} (h0 : 0 < n) (h : n < 65536) (Y : Int) : f_Integer_numberOfLeadingZeros_33 (nI n) (iI Y) = some (iI (Y + 1 - bl n)) := by
  unfold f_Integer_numberOfLeadingZeros_33
  by_cases c : n < 256
  · rw [if_pos (show nI n < (256 : Int32) from nI_lt c (by decide))]; exact nlz48 h0 c Y
  · rw [if_neg (show ¬ nI n < (256 : Int32) from nI_nlt (b := 256) (by omega) (by omega))]
    unfold bd
    dsimp only
    have e := bl_div (n := n) (k := 8) (by omega)
    rw [show (-8 : Int32) = iI (-8) from by decide, show (8 : Int32) = nI 8 from rfl, ius_nI (by omega) (by decide), iI_add, nlz48 (by omega) (by omega)]
    congr 2
    omega
/-- of the 32 bits n -/
theorem nlz32 {n : Nat} (h : n < 4294967296) : f_Integer_numberOfLeadingZeros (nI n) = some (iI (32 - bl n)) := by
  unfold f_Integer_numberOfLeadingZeros
  by_cases c0 : n = 0
  · subst c0; rfl
  · by_cases c1 : n < 2147483648
    · rw [if_pos (show 0 < nI n from nI_lt (a := 0) (by omega) (by omega))]
      by_cases c : n < 65536
      · rw [if_pos (show nI n < (65536 : Int32) from nI_lt c (by decide)), show (31 : Int32) = iI 31 from by decide, nlz33 (by omega) c]
        congr 2
      · rw [if_neg (show ¬ nI n < (65536 : Int32) from nI_nlt (b := 65536) (by omega) (by omega))]
        unfold bd
        dsimp only
        have e := bl_div (n := n) (k := 16) (by omega)
        rw [show (31 : Int32) + (-16 : Int32) = iI 15 from by decide, show (16 : Int32) = nI 16 from rfl, ius_nI (by omega) (by decide), nlz33 (by omega) (by omega)]
        congr 2
        omega
    · have e : bl n = 32 := bl_uniq (by omega) (by omega) (by decide)
      have hneg : (nI n).toInt = (n : Int) - 4294967296 := by
        rw [iI_nI, show iI (n : Int) = iI ((n : Int) - 4294967296) from by
          rw [← iI_sub, show iI 4294967296 = 0 from by decide, Int32.sub_zero], iI_toInt (by omega) (by omega)]
      have z0 : (0 : Int32).toInt = 0 := by decide
      rw [if_neg (by rw [Int32.lt_iff_toInt_lt]; omega), if_neg (by intro q; rw [q] at hneg; omega), e]
      rfl
theorem nlz64 {n : Nat} (h : n < 18446744073709551616) : f_Long_numberOfLeadingZeros (lN n) = some (iI (64 - bl n)) := by
  unfold f_Long_numberOfLeadingZeros
  have e1 : (lus (lN n) (32 : Int32)).toInt32 = nI (n / 2 ^ 32) := by
    rw [jJ_lN, show (32 : Int32) = iI ((32 : Nat) : Int) from by decide, jJ_lus h (by decide), jJ_i, iI_nI]
  unfold bd
  rw [e1]
  dsimp only
  by_cases c : n < 4294967296
  · rw [show n / 2 ^ 32 = 0 from by omega, if_pos (show nI 0 = 0 from rfl), jJ_lN, jJ_i, ← iI_nI, nlz32 c]
    show some ((32 : Int32) + iI (32 - bl n)) = _
    rw [show (32 : Int32) = iI 32 from by decide, iI_add]
    congr 2
    omega
  · have hh : n / 2 ^ 32 < 4294967296 := by omega
    have h1 : n / 2 ^ 32 ≠ 0 := by omega
    have hne : ¬ nI (n / 2 ^ 32) = 0 := by
      intro q
      have := congrArg (fun x => x.toBitVec.toNat) q
      rw [pk_tn (by omega)] at this
      have z : (0 : Int32).toBitVec.toNat = 0 := by decide
      omega
    rw [if_neg hne, nlz32 hh]
    show some (iI (32 - bl (n / 2 ^ 32))) = _
    have e := bl_div (n := n) (k := 32) (by omega)
    congr 2
    omega
/-- bitsOf of the 64 bits n -/
theorem bitsOf_eq {n : Nat} (h : n < 18446744073709551616) : f_N_bitsOf (lN n) = some (iI (bl n)) := by
  unfold f_N_bitsOf
  rw [nlz64 h]
  show some ((64 : Int32) - iI (64 - bl n)) = _
  rw [show (64 : Int32) = iI 64 from by decide, iI_sub]
  congr 2
  omega
def tzf : Nat → Nat → Nat
  | 0, _ => 0
  | f + 1, n => if n % 2 = 1 then 0 else tzf f (n / 2) + 1
theorem tzf_spec : ∀ (f n : Nat), n ≠ 0 → n ≤ f → ∃ q, n = 2 ^ tzf f n * (2 * q + 1) := by
  intro f
  induction f with
  | zero => intro n h0 h; omega
  | succ f ih =>
    intro n h0 h
    unfold tzf
    by_cases c : n % 2 = 1
    · rw [if_pos c]; exact ⟨n / 2, by omega⟩
    · rw [if_neg c]
      obtain ⟨q, hq⟩ := ih (n / 2) (by omega) (by omega)
      refine ⟨q, ?_⟩
      rw [Nat.pow_succ, Nat.mul_right_comm, ← hq]
      omega
def tz (n : Nat) : Nat := tzf n n
theorem tz_spec {n : Nat} (h : n ≠ 0) : ∃ q, n = 2 ^ tz n * (2 * q + 1) := tzf_spec n n h (Nat.le_refl n)
theorem odd_uniq {a b q r : Nat} (h : 2 ^ a * (2 * q + 1) = 2 ^ b * (2 * r + 1)) : a = b ∧ q = r := by
  rcases Nat.lt_trichotomy a b with c | c | c
  · exfalso
    obtain ⟨k, rfl⟩ : ∃ k, b = a + 1 + k := ⟨b - a - 1, by omega⟩
    rw [show a + 1 + k = a + (1 + k) from by omega, Nat.pow_add, Nat.mul_assoc] at h
    have := Nat.eq_of_mul_eq_mul_left (Nat.two_pow_pos a) h
    rw [Nat.pow_add, Nat.mul_assoc] at this
    omega
  · subst c
    have := Nat.eq_of_mul_eq_mul_left (Nat.two_pow_pos a) h
    exact ⟨rfl, by omega⟩
  · exfalso
    obtain ⟨k, rfl⟩ : ∃ k, a = b + 1 + k := ⟨a - b - 1, by omega⟩
    rw [show b + 1 + k = b + (1 + k) from by omega, Nat.pow_add, Nat.mul_assoc] at h
    have := Nat.eq_of_mul_eq_mul_left (Nat.two_pow_pos b) h
    rw [Nat.pow_add, Nat.mul_assoc] at this
    omega
theorem tz_of {n t q : Nat} (h : n = 2 ^ t * (2 * q + 1)) : tz n = t ∧ n / 2 ^ tz n = 2 * q + 1 := by
  have hn : n ≠ 0 := by
    have := Nat.mul_pos (Nat.two_pow_pos t) (show 0 < 2 * q + 1 from by omega)
    omega
  obtain ⟨r, hr⟩ := tz_spec hn
  obtain ⟨e1, e2⟩ := odd_uniq (hr.symm.trans h)
  refine ⟨e1, ?_⟩
  rw [e1, h]
  exact Nat.mul_div_cancel_left _ (Nat.two_pow_pos t)
theorem mask_tz {t q : Nat} (h : 2 ^ t * (2 * q + 1) < 4294967296) : ((nI (2 ^ t * (2 * q + 1)) ^^^ (-1 : Int32)) &&& (nI (2 ^ t * (2 * q + 1)) - (1 : Int32))) = nI (2 ^ t - 1) := by
  have hp := Nat.two_pow_pos t
  have hX : 1 ≤ 2 ^ t * (2 * q + 1) := Nat.mul_pos hp (by omega)
  have e1 : nI (2 ^ t * (2 * q + 1)) - (1 : Int32) = nI (2 ^ t * (2 * q) + (2 ^ t - 1)) := by
    rw [show (1 : Int32) = nI 1 from rfl, pk_sub hX]
    congr 1
    rw [Nat.mul_add]
    omega
  rw [e1]
  apply Int32.toBitVec_inj.mp
  apply BitVec.eq_of_getLsbD_eq
  intro i hi
  have nb : ∀ k : Nat, (nI k).toBitVec.getLsbD i = k.testBit i := by
    intro k
    show (BitVec.ofNat 32 k).getLsbD i = _
    rw [BitVec.getLsbD_ofNat]
    simp [hi]
  have m1 : (-1 : Int32).toBitVec.getLsbD i = true := by
    show (BitVec.allOnes 32).getLsbD i = true
    rw [BitVec.getLsbD_allOnes]
    simp [hi]
  rw [Int32.toBitVec_and, Int32.toBitVec_xor, BitVec.getLsbD_and, BitVec.getLsbD_xor, nb, nb, nb, m1, Nat.testBit_two_pow_sub_one, Nat.testBit_two_pow_mul, Nat.testBit_two_pow_mul_add _ (by omega)]
  by_cases c : i < t
  · rw [if_pos c, Nat.testBit_two_pow_sub_one]
    simp [c, Nat.not_le.mpr c]
  · rw [if_neg c]
    have c' : t ≤ i := Nat.not_lt.mp c
    simp only [c', c, ge_iff_le, decide_true, decide_false, Bool.true_and, Bool.xor_true]
    rcases Nat.eq_zero_or_pos (i - t) with z | z
    · rw [z]; simp [Nat.testBit_zero]
    · obtain ⟨k, hk⟩ : ∃ k, i - t = k + 1 := ⟨i - t - 1, by omega⟩
      rw [hk, Nat.testBit_succ, Nat.testBit_succ, show (2 * q + 1) / 2 = q from by omega, show 2 * q / 2 = q from by omega]
      cases q.testBit k <;> rfl
theorem ntz_tail : ∀ t, t < 32 → (if 0 < nI (2 ^ t - 1) then if nI (2 ^ t - 1) ≤ (65536 : Int32) then f_Integer_numberOfTrailingZeros_34 (nI (2 ^ t - 1)) (1 : Int32) else bd ((1 : Int32) + (16 : Int32)) fun x13 => bd (ius (nI (2 ^ t - 1)) (16 : Int32)) fun x14 => f_Integer_numberOfTrailingZeros_34 x14 x13 else some (nI (2 ^ t - 1) &&& (32 : Int32))) = some (nI t) := by decide +kernel
theorem ntz32 {t q : Nat} (h : 2 ^ t * (2 * q + 1) < 4294967296) : f_Integer_numberOfTrailingZeros (nI (2 ^ t * (2 * q + 1))) = some (nI t) := by
  unfold f_Integer_numberOfTrailingZeros
  rw [mask_tz h]
  have ht : t < 32 := by
    rcases Nat.lt_or_ge t 32 with c | c
    · exact c
    · have a : 2 ^ 32 ≤ 2 ^ t := Nat.pow_le_pow_right (by decide) c
      have b : 2 ^ t * 1 ≤ 2 ^ t * (2 * q + 1) := Nat.mul_le_mul_left _ (by omega)
      omega
  exact ntz_tail t ht
theorem ntz64 {n : Nat} (h0 : n ≠ 0) (h : n < 18446744073709551616) : f_Long_numberOfTrailingZeros (lN n) = some (nI (tz n)) := by
  obtain ⟨q, hq⟩ := tz_spec h0
  generalize tz n = t at hq ⊢
  have hlow : (lN n).toInt32 = nI (n % 4294967296) := by
    rw [jJ_lN, jJ_i, iI_nI]
    unfold iI
    apply Int32.toBitVec_inj.mp
    apply BitVec.eq_of_toNat_eq
    rw [Int32.toBitVec_ofInt, Int32.toBitVec_ofInt, BitVec.toNat_ofInt, BitVec.toNat_ofInt]
    omega
  have hhigh : (lus (lN n) (32 : Int32)).toInt32 = nI (n / 4294967296) := by
    rw [jJ_lN, show (32 : Int32) = iI ((32 : Nat) : Int) from by decide, jJ_lus h (by decide), jJ_i, iI_nI]
  unfold f_Long_numberOfTrailingZeros bd
  rw [hlow, hhigh]
  dsimp only
  rcases Nat.lt_or_ge t 32 with c | c
  · obtain ⟨r, hr⟩ : ∃ r, n % 4294967296 = 2 ^ t * (2 * r + 1) := by
      have e : (4294967296 : Nat) = 2 ^ t * (2 * 2 ^ (31 - t)) := by
        rw [show 2 * 2 ^ (31 - t) = 2 ^ (32 - t) from by rw [show 32 - t = (31 - t) + 1 from by omega, Nat.pow_succ]; omega, ← Nat.pow_add, show t + (32 - t) = 32 from by omega]
      rw [e, hq, Nat.mul_mod_mul_left]
      have hpp := Nat.two_pow_pos (31 - t)
      refine ⟨(2 * q + 1) % (2 * 2 ^ (31 - t)) / 2, ?_⟩
      congr 1
      have : (2 * q + 1) % (2 * 2 ^ (31 - t)) % 2 = 1 := by rw [Nat.mod_mul_right_mod]; omega
      omega
    have hlt : 2 ^ t * (2 * r + 1) < 4294967296 := by rw [← hr]; omega
    have hpos : 0 < 2 ^ t * (2 * r + 1) := Nat.mul_pos (Nat.two_pow_pos t) (by omega)
    have hne : ¬ nI (n % 4294967296) = 0 := by
      intro z
      have := congrArg (fun x => x.toBitVec.toNat) z
      rw [pk_tn (by omega)] at this
      have z : (0 : Int32).toBitVec.toNat = 0 := by decide
      omega
    rw [if_neg hne, hr, ntz32 hlt]
    rfl
  · have e : n = 4294967296 * (2 ^ (t - 32) * (2 * q + 1)) := by
      rw [hq, ← Nat.mul_assoc, show (4294967296 : Nat) = 2 ^ 32 from by decide, ← Nat.pow_add, show 32 + (t - 32) = t from by omega]
    have e1 : n % 4294967296 = 0 := by rw [e]; exact Nat.mul_mod_right _ _
    have e2 : n / 4294967296 = 2 ^ (t - 32) * (2 * q + 1) := by rw [e]; exact Nat.mul_div_cancel_left _ (by decide)
    rw [e1, if_pos (show nI 0 = 0 from rfl), e2, ntz32 (by rw [← e2]; omega)]
    show some ((32 : Int32) + nI (t - 32)) = _
    rw [show (32 : Int32) = nI 32 from rfl, nI_add, show 32 + (t - 32) = t from by omega]

/-! THE NEAREST: of t * 2^e and, where st, a little more -/
/-- a whole number times a power of 2, as a Size: odd factor, its power, infinite or not -/
def red (m : Nat) (e : Int) : Int64 × Int32 × Int32 :=
  if m = 0 then (0, 0, 0) else if 1024 < (bl m : Int) + e then (0, 0, 1) else (lN (m / 2 ^ tz m), iI (e + tz m), 0)
def rq (t d : Nat) (st : Bool) : Nat :=
  if 2 ^ d < 2 * (t % 2 ^ d) ∨ (2 * (t % 2 ^ d) = 2 ^ d ∧ (st = true ∨ t / 2 ^ d % 2 = 1)) then t / 2 ^ d + 1 else t / 2 ^ d
def rd (t : Nat) (e : Int) : Int := max ((bl t : Int) - 53) (-1074 - e)
def rnd (t : Nat) (st : Bool) (e : Int) : Int64 × Int32 × Int32 :=
  if rd t e ≤ 0 then red t e else red (rq t (rd t e).toNat st) (e + rd t e)
theorem red_shift (m k : Nat) (e : Int) : red (m * 2 ^ k) (e - k) = red m e := by
  unfold red
  by_cases h : m = 0
  · rw [if_pos h, if_pos (by rw [h]; exact Nat.zero_mul _)]
  · have hp := Nat.two_pow_pos k
    have h2 : m * 2 ^ k ≠ 0 := Nat.mul_ne_zero h (by omega)
    rw [if_neg h, if_neg h2, bl_mul m k h]
    obtain ⟨q, hq⟩ := tz_spec h
    have e1 : m * 2 ^ k = 2 ^ (tz m + k) * (2 * q + 1) := by
      rw [Nat.pow_add, Nat.mul_right_comm, ← hq]
    obtain ⟨a1, a2⟩ := tz_of e1
    obtain ⟨b1, b2⟩ := tz_of hq
    by_cases c : 1024 < (bl m : Int) + e
    · rw [if_pos c, if_pos (by omega)]
    · rw [if_neg c, if_neg (by omega), a2, b2, a1]
      rw [show e - (k : Int) + ((tz m + k : Nat) : Int) = e + (tz m : Int) from by omega]
theorem bl_odd {m t q : Nat} (h : m = 2 ^ t * (2 * q + 1)) : bl m = bl (2 * q + 1) + t := by
  rw [h, Nat.mul_comm]
  exact bl_mul _ t (by omega)
theorem setReduced_39 {n : Nat} (h : n < 18446744073709551616) (v : Int32) (w : Int32) {z : Int} (hz : -1000000 ≤ z) (hz2 : z ≤ 1000000) : f_Size_setReduced_39 (lN n) v w (iI z) = some (if 1024 < (bl n : Int) + z then (0, 0, 1) else (lN n, iI z, 0)) := by
  unfold f_Size_setReduced_39
  have hb : bl n ≤ 64 := bl_le_iff.mpr h
  rw [bitsOf_eq h, bi1_s, iI_add, show (1024 : Int32) = iI 1024 from by decide, ite_c (iI_le (by omega) (by omega) (by decide) (by decide))]
  by_cases c : 1024 < (bl n : Int) + z
  · rw [if_neg (by omega), if_pos c]; rfl
  · rw [if_pos (by omega), if_neg c]
theorem setReduced_eq {m : Nat} (hm : m < 18446744073709551616) {e : Int} (he : -500000 ≤ e) (he2 : e ≤ 500000) (f : Int64) (p i : Int32) : f_Size_setReduced f p i (lN m) (iI e) = some (red m e) := by
  unfold f_Size_setReduced red
  by_cases h : m = 0
  · subst h
    rw [if_pos rfl, if_pos (show lN 0 = 0 from rfl)]
    unfold f_Size_setReduced_14 bd
    try dsimp only
    rw [if_pos (show lN 0 = 0 from rfl), show lus (lN 0) (0 : Int32) = lN 0 from by decide, show (0 : Int32) = iI 0 from by decide, setReduced_39 (by decide) p i (by decide) (by decide)]
    rfl
  · have hne : ¬ lN m = 0 := by
      intro z
      have := congrArg (fun x => x.toBitVec.toNat) z
      rw [jJ_lN, jJ_bits] at this
      have z0 : (0 : Int64).toBitVec.toNat = 0 := by decide
      omega
    rw [if_neg h, if_neg hne, ntz64 h hm]
    show f_Size_setReduced_14 f p i (lN m) (iI e) (nI (tz m)) = _
    obtain ⟨q, hq⟩ := tz_spec h
    obtain ⟨b1, b2⟩ := tz_of hq
    have hbl := bl_odd hq
    have hb64 : bl m ≤ 64 := bl_le_iff.mpr hm
    have hpos : 1 ≤ bl (2 * q + 1) := bl_pos (by omega)
    have ht : tz m < 64 := by omega
    unfold f_Size_setReduced_14 bd
    try dsimp only
    rw [if_neg hne, jJ_lN, iI_nI, jJ_lus hm ht, ← jJ_lN, b2, iI_add, setReduced_39 (by
      have : 2 * q + 1 ≤ m := by rw [← b2]; exact Nat.div_le_self _ _
      omega) p i (by omega) (by omega)]
    by_cases c : 1024 < (bl m : Int) + e
    · rw [if_pos (by omega), if_pos c]
    · rw [if_neg (by omega), if_neg c]
theorem imx_iI {x y : Int} (hx : -2147483648 ≤ x) (hx2 : x < 2147483648) (hy : -2147483648 ≤ y) (hy2 : y < 2147483648) : imx (iI x) (iI y) = iI (max x y) := by
  unfold imx
  rw [ite_c (iI_lt hx hx2 hy hy2)]
  by_cases c : x < y
  · rw [if_pos c, Int.max_eq_right (by omega)]
  · rw [if_neg c, Int.max_eq_left (by omega)]
theorem lN_sub9 {a b : Nat} (h : b ≤ a) : lN a - lN b = lN (a - b) := lN_sub h
/-- setNearest -/
theorem setNearest_eq {m : Nat} (hm : m < 18446744073709551616) {e : Int} (he : -200000 ≤ e) (he2 : e ≤ 200000) (st : Bool) (hbig : m < 9223372036854775808 ∨ -1100 ≤ e) (f : Int64) (p i : Int32) : f_Size_setNearest f p i (lN m) (if st then 1 else 0) (iI e) = some (rnd m st e) := by
  have hb : bl m ≤ 64 := bl_le_iff.mpr hm
  unfold f_Size_setNearest
  rw [bitsOf_eq hm, bi1_s, show (53 : Int32) = iI 53 from by decide, show (-1074 : Int32) = iI (-1074) from by decide, iI_sub, iI_sub, imx_iI (by omega) (by omega) (by omega) (by omega)]
  unfold rnd
  rw [show max ((bl m : Int) - 53) (-1074 - e) = rd m e from rfl]
  have hd1 : (bl m : Int) - 53 ≤ rd m e := Int.le_max_left _ _
  have hd2 : -1074 - e ≤ rd m e := Int.le_max_right _ _
  have hd3 : rd m e ≤ 210000 := Int.max_le.mpr ⟨by omega, by omega⟩
  have hd4 : rd m e = (bl m : Int) - 53 ∨ rd m e = -1074 - e := by unfold rd; omega
  generalize hdd : rd m e = d at hd1 hd2 hd3 hd4 ⊢
  rw [bd_s, show (0 : Int32) = iI 0 from by decide, ite_c (iI_lt (by decide) (by decide) (by omega) (by omega))]
  by_cases c1 : 0 < d
  · rw [if_pos c1, if_neg (show ¬ d ≤ 0 from by omega), show (63 : Int32) = iI 63 from by decide, ite_c (iI_le (by omega) (by omega) (by decide) (by decide))]
    obtain ⟨k, hk⟩ : ∃ k : Nat, d = (k : Int) := ⟨d.toNat, by omega⟩
    subst hk
    rw [Int.toNat_natCast]
    by_cases c2 : (k : Int) ≤ 63
    · rw [if_pos c2]
      have hk63 : k ≤ 63 := by omega
      have hp := Nat.two_pow_pos k
      have e1 : lus (lN m) (iI (k : Int)) = lN (m / 2 ^ k) := by rw [jJ_lN, jJ_lus hm (by omega), ← jJ_lN]
      have e2 : lsl (1 : Int64) (iI (k : Int)) - (1 : Int64) = jJ ((2 ^ k - 1 : Nat) : Int) := by
        rw [show (1 : Int64) = jJ 1 from by decide, jJ_lsl 1 (by omega), jJ_sub]
        congr 1
        omega
      have e3 : lN m &&& (lsl (1 : Int64) (iI (k : Int)) - (1 : Int64)) = lN (m % 2 ^ k) := by
        rw [e2, jJ_lN, jJ_mask _ k hk63, jJ_lN]
        congr 1
      have e4 : lsl (1 : Int64) (iI (k : Int) - (1 : Int32)) = lN (2 ^ (k - 1)) := by
        rw [show (1 : Int32) = iI 1 from by decide, iI_sub, show (k : Int) - 1 = ((k - 1 : Nat) : Int) from by omega, show (1 : Int64) = jJ 1 from by decide, jJ_lsl 1 (by omega), jJ_lN, Int.one_mul]
      have hhalf : 2 ^ k = 2 * 2 ^ (k - 1) := by
        rw [← Nat.pow_succ', show (k - 1).succ = k from by omega]
      have hmod : m % 2 ^ k < 2 ^ k := Nat.mod_lt _ hp
      have hp63 : 2 ^ k ≤ 2 ^ 63 := Nat.pow_le_pow_right (by decide) hk63
      have hq64 : m / 2 ^ k < 9223372036854775808 := by
        have : m / 2 ^ k ≤ m / 2 ^ 1 := Nat.div_le_div_left (Nat.pow_le_pow_right (by decide) (by omega)) (by decide)
        omega
      rw [e1, bd_s, e3, bd_s, e4, bd_s]
      have L1 : (lN (2 ^ (k - 1)) < lN (m % 2 ^ k)) = (2 ^ k < 2 * (m % 2 ^ k)) := by
        rw [propext (pk_lLT (by omega) (by omega))]
        apply propext
        omega
      have L2 : (lN (m % 2 ^ k) = lN (2 ^ (k - 1))) = (2 * (m % 2 ^ k) = 2 ^ k) := by
        rw [propext (pk_lEQ (by omega) (by omega))]
        apply propext
        omega
      have L3 : (lN (m / 2 ^ k) &&& (1 : Int64) = (1 : Int64)) = (m / 2 ^ k % 2 = 1) := by
        rw [jJ_lN, show (1 : Int64) = jJ ((2 ^ 1 - 1 : Nat) : Int) from by decide, jJ_mask _ 1 (by decide), jJ_eq (by omega) (by omega) (by decide) (by decide)]
        apply propext
        omega
      have up : f_Size_setNearest_102 f p i (iI e) (iI (k : Int)) (lN (m / 2 ^ k)) = some (red (m / 2 ^ k + 1) (e + k)) := by
        unfold f_Size_setNearest_102 f_Size_setNearest_107
        rw [if_neg (by decide)]
        unfold f_Size_setNearest_124
        rw [iI_add, show (1 : Int64) = lN 1 from rfl, lN_add, setReduced_eq (by omega) (by omega) (by omega)]
        rfl
      have dn : f_Size_setNearest_106 f p i (iI e) (iI (k : Int)) (lN (m / 2 ^ k)) = some (red (m / 2 ^ k) (e + k)) := by
        unfold f_Size_setNearest_106 f_Size_setNearest_107
        rw [if_pos rfl]
        unfold f_Size_setNearest_124
        rw [iI_add, setReduced_eq (by omega) (by omega) (by omega)]
        rfl
      rw [ite_c L1, ite_c L2, ite_c L3, up, dn]
      unfold rq
      by_cases g1 : 2 ^ k < 2 * (m % 2 ^ k)
      · rw [if_pos g1, if_pos (Or.inl g1)]
      · rw [if_neg g1]
        by_cases g2 : 2 * (m % 2 ^ k) = 2 ^ k
        · rw [if_pos g2]
          cases st with
          | true => rw [if_neg (by decide), if_pos (Or.inr ⟨g2, Or.inl rfl⟩)]
          | false =>
            rw [if_pos (by decide)]
            by_cases g3 : m / 2 ^ k % 2 = 1
            · rw [if_pos g3, if_pos (Or.inr ⟨g2, Or.inr g3⟩)]
            · rw [if_neg g3, if_neg (by
                intro q
                rcases q with q | ⟨-, q | q⟩
                · exact g1 q
                · cases q
                · exact g3 q)]
        · rw [if_neg g2, if_neg (by
            intro q
            rcases q with q | ⟨q, -⟩
            · exact g1 q
            · exact g2 q)]
    · rw [if_neg c2]
      have hk64 : 64 ≤ k := by omega
      have hm63 : m < 9223372036854775808 := by
        rcases hbig with q | q
        · exact q
        · omega
      have hp64 : 2 ^ 64 ≤ 2 ^ k := Nat.pow_le_pow_right (by decide) hk64
      have z1 : m / 2 ^ k = 0 := Nat.div_eq_of_lt (by omega)
      have z2 : m % 2 ^ k = m := Nat.mod_eq_of_lt (by omega)
      have z3 : rq m k st = 0 := by
        unfold rq
        rw [z1, z2, if_neg (by
          intro q
          rcases q with q | ⟨q, -⟩ <;> omega)]
      rw [z3, show (0 : Int64) = lN 0 from rfl, show iI 0 = iI (0 : Int) from rfl, setReduced_eq (by decide) (by decide) (by decide)]
      rfl
  · rw [if_neg c1, if_pos (show d ≤ 0 from by omega), setReduced_eq hm (by omega) (by omega)]
    rfl

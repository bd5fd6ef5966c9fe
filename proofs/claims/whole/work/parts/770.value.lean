/-! the number m * 2^E on both sides -/
def Vv (m : Nat) (E : Int) : Nat := if 0 ≤ E then m * PB 172 * 2 ^ E.toNat else m * PB 172 / 2 ^ (-E).toNat
theorem two_309 : (2 : Nat) ^ 1024 ≤ 10 ^ 309 := by decide +kernel
theorem Rl_pow {m : Nat} {E : Int} (h : Rl m E) (hE : 0 ≤ E) : m * 2 ^ E.toNat < 2 ^ 1024 := by
  obtain ⟨hm, hR⟩ := h
  rcases hR with ⟨w1, w2, w3⟩ | ⟨w1, w2⟩
  · have hb := bl_lt m
    have h1 : m * 2 ^ E.toNat < 2 ^ bl m * 2 ^ E.toNat := Nat.mul_lt_mul_of_pos_right hb (Nat.two_pow_pos _)
    rw [← Nat.pow_add] at h1
    have h2 : 2 ^ (bl m + E.toNat) ≤ 2 ^ 1024 := Nat.pow_le_pow_right (by decide) (by omega)
    omega
  · rw [w1, Nat.zero_mul]
    exact Nat.two_pow_pos _
theorem Rl_E {m : Nat} {E : Int} (h : Rl m E) : -1074 ≤ E ∧ E ≤ 1024 := by
  obtain ⟨hm, hR⟩ := h
  rcases hR with ⟨w1, w2, w3⟩ | ⟨w1, w2⟩
  · have := bl_pos (show m ≠ 0 by omega)
    omega
  · omega
theorem Vv_lt {m : Nat} {E : Int} (h : Rl m E) : Vv m E < 10 ^ 1857 := by
  have e1 : (10 : Nat) ^ 1857 = 10 ^ 309 * 10 ^ 1548 := by rw [← Nat.pow_add]
  have e2 : PB 172 = 10 ^ 1548 := PB_ten 172
  unfold Vv
  by_cases c : 0 ≤ E
  · have h1 := Rl_pow h c
    rw [if_pos c, e2, Nat.mul_right_comm, e1]
    exact Nat.mul_lt_mul_of_pos_right (Nat.lt_of_lt_of_le h1 two_309) (ten_pos _)
  · rw [if_neg c]
    have h1 : m * PB 172 / 2 ^ (-E).toNat ≤ m * PB 172 := Nat.div_le_self _ _
    have h2 : m * PB 172 < 10 ^ 309 * 10 ^ 1548 := by
      rw [e2]
      refine Nat.mul_lt_mul_of_pos_right ?_ (ten_pos _)
      exact Nat.lt_of_lt_of_le h.1 (Nat.le_trans (show 9007199254740992 ≤ 10 ^ 16 by decide) (ten_le (by decide)))
    rw [e1]
    omega
theorem cprod {m : Nat} {E : Int} (h : Rl m E) {a : Nat → Int32} {F L W : Nat} (hR : Rw a W) (hz : Zo F L W) :
    ∃ F' L' a', f_Decimal_setProduct (nI F) (nI L) a (lN m) (iI E) = some (nI F', nI L', a') ∧ Rw a' (Vv m E) ∧ Tr F' L' (Vv m E) := by
  have hE := Rl_E h
  have hV := Vv_lt h
  have hm := h.1
  have hPB : (10 : Nat) ^ 1857 ≤ PB 208 := by
    rw [PB_ten]
    exact ten_le (by decide)
  unfold Vv at *
  by_cases c : 0 ≤ E
  · rw [if_pos c] at *
    obtain ⟨k, rfl⟩ : ∃ k : Nat, E = k := ⟨E.toNat, by omega⟩
    rw [Int.toNat_natCast, ← iI_nI] at *
    exact setProduct_pos hR hz (by omega) (by omega) (Nat.lt_of_lt_of_le hV hPB)
  · rw [if_neg c] at *
    obtain ⟨k, hk⟩ : ∃ k : Nat, E = -(k : Int) := ⟨(-E).toNat, by omega⟩
    rw [hk, show (-(-(k : Int))).toNat = k from by omega]
    exact setProduct_neg hR hz (by omega) (by omega) (by omega)
theorem five_pow (k : Nat) : (5 : Nat) ^ (10 * k) ≤ 10 ^ (7 * k) := by
  rw [Nat.pow_mul, Nat.pow_mul]
  exact Nat.pow_le_pow_left (by decide) _
set_option maxRecDepth 20000 in
theorem mexp {m : Nat} {E : Int} (h : Rl m E) (neg : Bool) (c0 l0 p0 : Int32) (ex lm : Nat → Int32) :
    ∃ (c' : Int32) (L : Nat) (pt : Int) (ex' lm' : Nat → Int32), f_M_expandValue (jJ (if neg then -(m : Int) else m)) (iI E) c0 l0 p0 ex lm = some (c', nI L, iI pt, ex', lm') ∧ Xp (Vv m E) ex' L pt ∧ -1100 ≤ pt ∧ pt ≤ 309 := by
  have hE := Rl_E h
  have hm := h.1
  have hV := Vv_lt h
  have hvn : ∀ z : Int64, (jJ (if neg then -(m : Int) else m) = (0 : Int64)) = (m = 0) := by
    intro _
    rw [show (0 : Int64) = jJ 0 from by decide, jJ_eq (by split <;> omega) (by split <;> omega) (by decide) (by decide)]
    apply propext
    split <;> omega
  by_cases z : m = 0
  · subst z
    refine ⟨c0, 0, 1, ex, lm, ?_, ?_, by omega, by omega⟩
    · unfold f_M_expandValue
      rw [ite_c (hvn 0), if_pos rfl]
      rfl
    · refine ⟨by omega, by omega, by omega, 0, 1549, ?_, by omega, by decide, fun j hj => absurd hj (by omega), Or.inl rfl⟩
      unfold Vv
      rw [Nat.zero_mul, Nat.zero_mul, Nat.zero_div]
      split <;> rfl
  · have hW : ∀ W, W = m * 2 ^ E.toNat * 5 ^ (-E).toNat → W < 10 ^ 774 ∧ Vv m E = W * 10 ^ (1548 + min E 0).toNat := by
      intro W hW
      by_cases c : 0 ≤ E
      · have h1 := Rl_pow h c
        rw [show (-E).toNat = 0 from by omega, Nat.pow_zero, Nat.mul_one] at hW
        constructor
        · rw [hW]
          exact Nat.lt_of_lt_of_le h1 (Nat.le_trans two_309 (ten_le (by decide)))
        · unfold Vv
          rw [if_pos c, hW, show (1548 + min E 0).toNat = 1548 from by omega, PB_ten, Nat.mul_right_comm]
      · obtain ⟨k, hk⟩ : ∃ k : Nat, E = -(k : Int) := ⟨(-E).toNat, by omega⟩
        rw [hk, show (-(k : Int)).toNat = 0 from by omega, show (-(-(k : Int))).toNat = k from by omega, Nat.pow_zero, Nat.mul_one] at hW
        constructor
        · rw [hW]
          have h5 : 5 ^ k ≤ 10 ^ 756 := Nat.le_trans (Nat.pow_le_pow_right (by decide) (show k ≤ 10 * 108 by omega)) (five_pow 108)
          have hp5 : 0 < 5 ^ k := Nat.pow_pos (by decide)
          calc m * 5 ^ k < 10 ^ 16 * 5 ^ k := Nat.mul_lt_mul_of_pos_right (Nat.lt_of_lt_of_le hm (by decide)) hp5
            _ ≤ 10 ^ 16 * 10 ^ 756 := Nat.mul_le_mul_left _ h5
            _ = 10 ^ (16 + 756) := (Nat.pow_add _ _ _).symm
            _ ≤ 10 ^ 774 := ten_le (by decide)
        · unfold Vv
          rw [if_neg c, hk, show (-(-(k : Int))).toNat = k from by omega, hW, show (1548 + min (-(k : Int)) 0).toNat = 1548 - k from by omega, PB_ten]
          have e3 : m * 10 ^ (9 * 172) = m * 5 ^ k * 10 ^ (1548 - k) * 2 ^ k := by
            rw [show (10 : Nat) ^ (9 * 172) = 10 ^ (1548 - k) * 10 ^ k from by rw [← Nat.pow_add]; congr 1; omega, show (10 : Nat) ^ k = 5 ^ k * 2 ^ k from by rw [← Nat.mul_pow]]
            simp only [Nat.mul_assoc, Nat.mul_comm, Nat.mul_left_comm]
          rw [e3, Nat.mul_div_cancel _ (Nat.two_pow_pos k)]
    obtain ⟨hW1, hW2⟩ := hW _ rfl
    obtain ⟨c', L, ex', lm', L1, L2, L3, L4, L5, e1⟩ := expand_eq z (by omega) (e := E) (by omega) (by omega) rfl hW1 c0 0 1 ex lm
    have hpt : (L : Int) + min E 0 ≤ 309 := by
      have h1 : 10 ^ (L - 1 + (1548 + min E 0).toNat) < 10 ^ 1857 := by
        rw [Nat.pow_add]
        refine Nat.lt_of_le_of_lt ?_ hV
        rw [hW2]
        exact Nat.mul_le_mul_right _ L3
      have := (Nat.pow_lt_pow_iff_right (show 1 < 10 by decide)).mp h1
      omega
    refine ⟨c', L, (L : Int) + min E 0, ex', lm', ?_, ⟨by omega, by omega, by omega, _, _, hW2, by omega, L4, L5, Or.inr L3⟩, by omega, hpt⟩
    unfold f_M_expandValue f_M_expandValue_41
    rw [ite_c (hvn 0), if_neg z]
    cases neg
    · rw [show (if false = true then -(m : Int) else (m : Int)) = m from rfl, ite_c (show ((0 : Int64) ≤ jJ (m : Int)) = ((0 : Int) ≤ m) from by rw [show (0 : Int64) = jJ 0 from by decide, jJ_le (by decide) (by decide) (by omega) (by omega)]), if_pos (by omega), ← jJ_lN, e1, bi5_s]
    · rw [show (if true = true then -(m : Int) else (m : Int)) = -(m : Int) from rfl, ite_c (show ((0 : Int64) ≤ jJ (-(m : Int))) = ((0 : Int) ≤ -(m : Int)) from by rw [show (0 : Int64) = jJ 0 from by decide, jJ_le (by decide) (by decide) (by omega) (by omega)]), if_neg (by omega), jJ_neg, Int.neg_neg, ← jJ_lN, e1, bi5_s]

/-! decimals out of digits: class -/
def tv (g : Nat → Nat) : Nat → Nat
  | 0 => 0
  | k + 1 => 10 * tv g k + g k
/-- T * 10^e, cut at the unit -/
def Vat (T : Nat) (e : Int) : Nat := if 0 ≤ e then T * 10 ^ e.toNat else T / 10 ^ (-e).toNat
theorem Vat_pos {T : Nat} {e : Int} (h : 0 ≤ e) : Vat T e = T * 10 ^ e.toNat := if_pos h
theorem Vat_neg {T : Nat} {e : Int} (h : ¬ 0 ≤ e) : Vat T e = T / 10 ^ (-e).toNat := if_neg h
theorem Vat_hi {T d : Nat} {e : Int} (h : 0 ≤ e) : Vat (10 * T + d) e = Vat T (e + 1) + d * 10 ^ e.toNat := by
  rw [Vat_pos h, Vat_pos (by omega), show (e + 1).toNat = e.toNat + 1 from by omega, Nat.pow_succ, Nat.add_mul, Nat.mul_comm (10 ^ e.toNat) 10, ← Nat.mul_assoc, Nat.mul_comm T 10]
theorem Vat_lo {T d : Nat} {e : Int} (hd : d < 10) (h : e < 0) : Vat (10 * T + d) e = Vat T (e + 1) := by
  rw [Vat_neg (by omega), show (-e).toNat = 1 + (-(e + 1)).toNat from by omega, Nat.pow_add, ← Nat.div_div_eq_div_mul, Nat.pow_one, show (10 * T + d) / 10 = T from by omega]
  by_cases c : e + 1 = 0
  · rw [Vat_pos (by omega), c]
    show T / 10 ^ 0 = T * 10 ^ 0
    rw [Nat.pow_zero, Nat.div_one, Nat.mul_one]
  · rw [Vat_neg (by omega)]
theorem lt1858 {V E d : Nat} (hE : E ≤ 1857) (hd : d < 10) (hV : V < 10 ^ 1858) (h : 10 ^ (E + 1) ∣ V) : V + d * 10 ^ E < 10 ^ 1858 := by
  obtain ⟨c, rfl⟩ := h
  have e1 : 10 ^ 1858 = 10 ^ (E + 1) * 10 ^ (1857 - E) := by rw [← Nat.pow_add]; congr 1; omega
  rw [e1] at hV ⊢
  have hp := ten_pos (E + 1)
  have h1 : c < 10 ^ (1857 - E) := Nat.lt_of_mul_lt_mul_left hV
  have h2 : 10 ^ (E + 1) * (c + 1) ≤ 10 ^ (E + 1) * 10 ^ (1857 - E) := Nat.mul_le_mul_left _ h1
  have h3 : d * 10 ^ E < 10 ^ (E + 1) := by
    rw [Nat.pow_succ, Nat.mul_comm]
    exact Nat.mul_lt_mul_of_pos_left hd (ten_pos E)
  rw [Nat.mul_add, Nat.mul_one] at h2
  omega
theorem PB_208_le : (10 : Nat) ^ 1858 ≤ PB 208 := by
  rw [PB_ten]
  exact Nat.pow_le_pow_right (by decide) (by decide)
def PI (g : Nat → Nat) (k1 : Nat) (P : Int) (j F L V : Nat) (a : Nat → Int32) : Prop :=
  Rw a V ∧ Tr F L V ∧ V = Vat (tv g j) (k1 + P - j + 1548) ∧ (V = 0 → F = 35) ∧ V < 10 ^ 1858
theorem pd_step {n : Nat} (hn : n ≤ 1200) (t : Nat → Int32) (fr bf pw : Int32) (g : Nat → Nat) {T i j k1 F L V d : Nat} {P : Int} {a : Nat → Int32} (hi : i < T) (hT : T ≤ n) (hk1 : k1 ≤ 1200) (hj : j ≤ 1200) (hP : -100000 ≤ P) (hP2 : P ≤ 100000) (hd : dv false (bt8 t i) = some d) (hg : d = g j) (hI : PI g k1 P j F L V a) :
    (310 ≤ k1 + P - 1 - j ∧ 1 ≤ d ∧ ∀ f, f_Numeral_putDigits_21 (f + 1) fr (nI T) bf pw (nI n) t (nI F) (nI L) a (iI (k1 + P - 1 - j)) (nI i) = some (0, nI F, nI L, a)) ∨
    (∃ F' L' V' a', PI g k1 P (j + 1) F' L' V' a' ∧ ∀ f, f_Numeral_putDigits_21 (f + 1) fr (nI T) bf pw (nI n) t (nI F) (nI L) a (iI (k1 + P - 1 - j)) (nI i) = f_Numeral_putDigits_21 f fr (nI T) bf pw (nI n) t (nI F') (nI L') a' (iI (k1 + P - 1 - (j + 1 : Nat))) (nI (i + 1))) := by
  obtain ⟨-, hd10⟩ := dv_lt _ (bt8_lt t i) false d hd
  have hd10 := hd10 rfl
  have hdg : f_Numeral_digitOf (nI (bt8 t i)) 0 = some (nI d) := by
    have := digitOf_eq _ (bt8_lt t i) false
    rw [hd] at this
    exact this
  obtain ⟨hR, hTr, hV, h0, hlt⟩ := hI
  have hpl : iI (k1 + P - 1 - j) + (-1 : Int32) = iI (k1 + P - 1 - (j + 1 : Nat)) := by
    rw [show (-1 : Int32) = iI (-1) from by decide, iI_add]
    congr 1
    omega
  have tail : ∀ f F' L' a', f_Numeral_putDigits_69 (f_Numeral_putDigits_21 f) fr (nI T) bf pw (nI n) t (nI F') (nI L') a' (iI (k1 + P - 1 - j)) (nI i) (nI d) = f_Numeral_putDigits_21 f fr (nI T) bf pw (nI n) t (nI F') (nI L') a' (iI (k1 + P - 1 - (j + 1 : Nat))) (nI (i + 1)) := by
    intro f F' L' a'
    unfold f_Numeral_putDigits_69 f_Numeral_putDigits_77
    rw [if_neg (nI_pos (by omega)), bd_s, bd_s, nI_1, hpl]
  have main : ∀ f, f_Numeral_putDigits_21 (f + 1) fr (nI T) bf pw (nI n) t (nI F) (nI L) a (iI (k1 + P - 1 - j)) (nI i) = if nI d ≤ 0 then f_Numeral_putDigits_57 (f_Numeral_putDigits_21 f) fr (nI T) bf pw (nI n) t (nI F) (nI L) a (iI (k1 + P - 1 - j)) (nI i) (nI d) else if iI (k1 + P - 1 - j) ≤ (309 : Int32) then f_Numeral_putDigits_57 (f_Numeral_putDigits_21 f) fr (nI T) bf pw (nI n) t (nI F) (nI L) a (iI (k1 + P - 1 - j)) (nI i) (nI d) else some (0, nI F, nI L, a) := by
    intro f
    show f_Numeral_putDigits_21b _ _ _ _ _ _ _ _ _ _ _ _ = _
    unfold f_Numeral_putDigits_21b
    rw [if_neg (nI_ge hi (by omega)), tape_at hn t (by omega), if_pos (by omega), bi1_s, hdg, bi1_s]
  by_cases c : d = 0
  · right
    refine ⟨F, L, V, a, ⟨hR, hTr, ?_, h0, hlt⟩, ?_⟩
    · rw [hV]
      show _ = Vat (10 * tv g j + g j) _
      rw [← hg, c]
      by_cases e : 0 ≤ (k1 : Int) + P - (j + 1 : Nat) + 1548
      · rw [Vat_hi e, Nat.zero_mul, Nat.add_zero]
        congr 1
        omega
      · rw [Vat_lo (by decide) (by omega)]
        congr 1
        omega
    · intro f
      rw [main, if_pos (by rw [c]; decide)]
      unfold f_Numeral_putDigits_57
      rw [if_pos (by rw [c]; decide), tail]
  · have cmp : (iI (k1 + P - 1 - j) ≤ (309 : Int32)) = (k1 + P - 1 - j ≤ 309) := iI_lek 309 (by decide) (by omega) (by omega) (by decide) (by decide)
    by_cases h309 : (k1 : Int) + P - 1 - j ≤ 309
    · right
      have fin : ∀ F' L' a', f_Decimal_addAt (nI F) (nI L) a (iI (k1 + P - 1 - j)) (nI d) = some (nI F', nI L', a') → ∀ f, f_Numeral_putDigits_21 (f + 1) fr (nI T) bf pw (nI n) t (nI F) (nI L) a (iI (k1 + P - 1 - j)) (nI i) = f_Numeral_putDigits_21 f fr (nI T) bf pw (nI n) t (nI F') (nI L') a' (iI (k1 + P - 1 - (j + 1 : Nat))) (nI (i + 1)) := by
        intro F' L' a' h f
        rw [main, if_neg (nI_nle (by omega) (by omega)), if_pos (by rw [cmp]; exact h309)]
        unfold f_Numeral_putDigits_57
        rw [if_neg (nI_nle (by omega) (by omega)), h, bi3_s, tail]
      by_cases e : 0 ≤ (k1 : Int) + P - 1 - j + 1548
      · obtain ⟨E, hE⟩ : ∃ E : Nat, (k1 : Int) + P - 1 - j + 1548 = E := ⟨_, (Int.toNat_of_nonneg e).symm⟩
        have hV' : V + d * 10 ^ E < 10 ^ 1858 := by
          refine lt1858 (by omega) hd10 hlt ?_
          rw [hV, Vat_pos (by omega), show ((k1 : Int) + P - j + 1548).toNat = E + 1 from by omega]
          exact Nat.dvd_mul_left _ _
        obtain ⟨F', L', a', e1, r1, t1⟩ := addAt_eq hR hTr.1 (E := E) (by omega) (d := d) (by omega) (Nat.lt_of_lt_of_le hV' PB_208_le)
        rw [show (E : Int) - 1548 = k1 + P - 1 - j from by omega] at e1
        refine ⟨F', L', _, a', ⟨r1, t1, ?_, ?_, hV'⟩, fin F' L' a' e1⟩
        · show _ = Vat (10 * tv g j + g j) _
          rw [show (k1 : Int) + P - (j + 1 : Nat) + 1548 = E from by omega, Vat_hi (by omega), hV, ← hg]
          rw [show (k1 : Int) + P - j + 1548 = E + 1 from by omega]
          rfl
        · intro q
          have := Nat.mul_pos (show 0 < d by omega) (ten_pos E)
          omega
      · obtain ⟨F', L', q1, q2, e1, t1⟩ := addAt_low (d := d) hR hTr.1 (p := k1 + P - 1 - j) (by omega) (by omega) (by omega)
        refine ⟨F', L', V, a, ⟨hR, t1, ?_, ?_, hlt⟩, fin F' L' a e1⟩
        · show _ = Vat (10 * tv g j + g j) _
          rw [Vat_lo (by omega) (by omega), hV]
          congr 1
          omega
        · intro q
          have := h0 q
          have := hTr.2.1 q
          have := t1.1.1
          omega
    · left
      refine ⟨by omega, by omega, ?_⟩
      intro f
      rw [main, if_neg (nI_nle (by omega) (by omega)), if_neg (by rw [cmp]; exact h309)]
theorem pd_point {n : Nat} (hn : n ≤ 1200) (t : Nat → Int32) (fr bf pw : Int32) {T i : Nat} (hi : i < T) (hT : T ≤ n) (h46 : bt8 t i = 46) (F L y : Int32) (a : Nat → Int32) (f : Nat) :
    f_Numeral_putDigits_21 (f + 1) fr (nI T) bf pw (nI n) t F L a y (nI i) = f_Numeral_putDigits_21 f fr (nI T) bf pw (nI n) t F L a y (nI (i + 1)) := by
  have hdg : f_Numeral_digitOf (nI (bt8 t i)) 0 = some (-1) := by
    have := digitOf_eq _ (bt8_lt t i) false
    rw [h46] at this ⊢
    exact this
  show f_Numeral_putDigits_21b _ _ _ _ _ _ _ _ _ _ _ _ = _
  unfold f_Numeral_putDigits_21b
  rw [if_neg (nI_ge hi (by omega)), tape_at hn t (by omega), if_pos (by omega), bi1_s, hdg, bi1_s, if_pos (by decide)]
  unfold f_Numeral_putDigits_57 f_Numeral_putDigits_69 f_Numeral_putDigits_77
  rw [if_pos (by decide), if_pos (by decide), bd_s, nI_1]
/-- above every real, or the digits are in the room -/
theorem pd_run {n : Nat} (hn : n ≤ 1200) (t : Nat → Int32) (fr bf pw : Int32) (g : Nat → Nat) {T k1 : Nat} {P : Int} (hT : T ≤ n) (hk1 : k1 ≤ 1200) (hP : -100000 ≤ P) (hP2 : P ≤ 100000) : ∀ (k i j F L V : Nat) (a : Nat → Int32), i + k ≤ T → j + k ≤ 1200 → (∀ s, s < k → dv false (bt8 t (i + s)) = some (g (j + s))) → PI g k1 P j F L V a →
    (∃ F' L' V' a' j', Rw a' V' ∧ Tr F' L' V' ∧ j' ≤ j + k ∧ 1 ≤ tv g j' ∧ 310 ≤ k1 + P - j' ∧ ∀ f, f_Numeral_putDigits_21 (f + k) fr (nI T) bf pw (nI n) t (nI F) (nI L) a (iI (k1 + P - 1 - j)) (nI i) = some (0, nI F', nI L', a')) ∨
    (∃ F' L' V' a', PI g k1 P (j + k) F' L' V' a' ∧ ∀ f, f_Numeral_putDigits_21 (f + k) fr (nI T) bf pw (nI n) t (nI F) (nI L) a (iI (k1 + P - 1 - j)) (nI i) = f_Numeral_putDigits_21 f fr (nI T) bf pw (nI n) t (nI F') (nI L') a' (iI (k1 + P - 1 - (j + k : Nat))) (nI (i + k))) := by
  intro k
  induction k with
  | zero =>
    intro i j F L V a _ _ _ hI
    exact Or.inr ⟨F, L, V, a, hI, fun f => rfl⟩
  | succ k ih =>
    intro i j F L V a hi hj hd hI
    have hd0 := hd 0 (by omega)
    rw [Nat.add_zero, Nat.add_zero] at hd0
    rcases pd_step hn t fr bf pw g (T := T) (i := i) (by omega) hT hk1 (by omega) hP hP2 hd0 rfl hI with ⟨q1, q2, q3⟩ | ⟨F1, L1, V1, a1, hI1, q3⟩
    · refine Or.inl ⟨F, L, V, a, j + 1, hI.1, hI.2.1, by omega, ?_, by omega, ?_⟩
      · show 1 ≤ 10 * tv g j + g j
        omega
      · intro f
        exact q3 (f + k)
    · rcases ih (i + 1) (j + 1) F1 L1 V1 a1 (by omega) (by omega) (by
        intro s hs
        have := hd (s + 1) (by omega)
        rw [show i + (s + 1) = i + 1 + s from by omega, show j + (s + 1) = j + 1 + s from by omega] at this
        exact this) hI1 with ⟨F2, L2, V2, a2, j2, r2, t2, h1, h2, h3, h4⟩ | ⟨F2, L2, V2, a2, hI2, h4⟩
      · refine Or.inl ⟨F2, L2, V2, a2, j2, r2, t2, by omega, h2, h3, ?_⟩
        intro f
        rw [← h4 f]
        exact q3 (f + k)
      · refine Or.inr ⟨F2, L2, V2, a2, by rw [show j + (k + 1) = j + 1 + k from by omega]; exact hI2, ?_⟩
        intro f
        rw [show i + (k + 1) = i + 1 + k from by omega, show j + (k + 1) = j + 1 + k from by omega, ← h4 f]
        exact q3 (f + k)

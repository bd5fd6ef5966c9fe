/-! 17 digits give the number back -/
theorem rq_close {A D X M d : Nat} (hD : 0 < D) (hd : 1 ≤ d) (hX : X = M * 2 ^ d) (h1 : 2 * (A - X * D) < 2 ^ d * D) (h2 : 2 * (X * D - A) < 2 ^ d * D) : rq (A / D) d (decide (A % D ≠ 0)) = M := by
  obtain ⟨d, rfl⟩ : ∃ j, d = j + 1 := ⟨d - 1, by omega⟩
  have hP := Nat.two_pow_pos d
  have hdm := Nat.div_add_mod A D
  have hr := Nat.mod_lt A hD
  unfold rq
  rw [Nat.pow_succ] at hX h1 h2 ⊢
  generalize 2 ^ d = P at *
  generalize hY : A / D = Y at *
  generalize A % D = r at *
  by_cases c : X * D ≤ A
  · have hXY : X ≤ Y := by rw [← hY]; exact (Nat.le_div_iff_mul_le hD).mpr c
    obtain ⟨s, rfl⟩ : ∃ s, Y = X + s := ⟨Y - X, by omega⟩
    have hs : s < P := by
      apply Nat.lt_of_not_le
      intro w
      have e1 := Nat.mul_le_mul_right D w
      have e2 : D * (X + s) = X * D + s * D := by rw [Nat.mul_comm, Nat.add_mul]
      have e3 : P * 2 * D = 2 * (P * D) := by rw [Nat.mul_comm P 2, Nat.mul_assoc]
      omega
    have em : (X + s) % (P * 2) = s := by
      rw [hX, Nat.mul_comm M, Nat.mul_add_mod, Nat.mod_eq_of_lt (by omega)]
    have ed : (X + s) / (P * 2) = M := by
      rw [hX, Nat.mul_comm M, Nat.mul_add_div (by omega), Nat.div_eq_of_lt (by omega), Nat.add_zero]
    rw [em, ed, if_neg (by omega)]
  · have hXY : Y < X := by
      rw [← hY]
      exact (Nat.div_lt_iff_lt_mul hD).mpr (by omega)
    obtain ⟨u, hu⟩ : ∃ u, X = Y + u := ⟨X - Y, by omega⟩
    have e2 : X * D = Y * D + u * D := by rw [hu, Nat.add_mul]
    have e4 : D * Y = Y * D := Nat.mul_comm _ _
    have e3 : P * 2 * D = 2 * (P * D) := by rw [Nat.mul_comm P 2, Nat.mul_assoc]
    have hu2 : u ≤ P := by
      apply Nat.le_of_not_lt
      intro w
      have e1 := Nat.mul_le_mul_right D (show P + 1 ≤ u from w)
      rw [Nat.add_mul, Nat.one_mul] at e1
      omega
    have hM : 1 ≤ M := by
      apply Nat.pos_of_ne_zero
      intro w
      rw [w, Nat.zero_mul] at hX
      omega
    obtain ⟨K, rfl⟩ : ∃ K, M = K + 1 := ⟨M - 1, by omega⟩
    have eY : Y = P * 2 * K + (P * 2 - u) := by
      rw [Nat.add_mul, Nat.one_mul, Nat.mul_comm K] at hX
      omega
    have em : Y % (P * 2) = P * 2 - u := by
      rw [eY, Nat.mul_add_mod, Nat.mod_eq_of_lt (by omega)]
    have ed : Y / (P * 2) = K := by
      rw [eY, Nat.mul_add_div (by omega), Nat.div_eq_of_lt (by omega), Nat.add_zero]
    rw [em, ed, if_pos]
    by_cases w : u = P
    · right
      refine ⟨by omega, Or.inl (decide_eq_true ?_)⟩
      intro z
      rw [w] at e2
      omega
    · left
      omega
theorem close_bits {A D m e : Nat} (hD : 0 < D) (hm0 : m ≠ 0) (hm : m < 9007199254740992) (h1 : 2 * (A - m * 2 ^ e * D) * 10000000000000000 ≤ m * 2 ^ e * D) (h2 : 2 * (m * 2 ^ e * D - A) * 10000000000000000 ≤ m * 2 ^ e * D) : bl (A / D) ≤ e + 53 ∧ m * 2 ^ e ≤ 2 ^ bl (A / D) := by
  have hdm := Nat.div_add_mod A D
  have hr := Nat.mod_lt A hD
  have hPe := Nat.two_pow_pos e
  have hG : 0 < 2 ^ e * D := Nat.mul_pos hPe hD
  have hB1 : m * 2 ^ e * D + 2 ^ e * D ≤ 9007199254740992 * (2 ^ e * D) := by
    have := Nat.mul_le_mul_right (2 ^ e * D) (show m + 1 ≤ 9007199254740992 from hm)
    rw [Nat.add_mul, Nat.one_mul, ← Nat.mul_assoc] at this
    exact this
  have hB0 : 2 ^ e * D ≤ m * 2 ^ e * D := by
    rw [Nat.mul_assoc]
    exact Nat.le_mul_of_pos_left _ (by omega)
  constructor
  · apply Nat.le_of_not_lt
    intro w
    have hY : 2 ^ (e + 53) ≤ A / D := by
      apply Nat.le_of_not_lt
      intro z
      have := bl_le_iff.mpr z
      omega
    have hA : 9007199254740992 * (2 ^ e * D) ≤ A := by
      have := (Nat.le_div_iff_mul_le hD).mp hY
      rw [Nat.pow_add, show (2 : Nat) ^ 53 = 9007199254740992 from by decide] at this
      rw [← Nat.mul_assoc, Nat.mul_comm 9007199254740992]
      exact this
    generalize m * 2 ^ e * D = B at *
    generalize 2 ^ e * D = G at *
    omega
  · apply Nat.le_of_not_lt
    intro w
    have hY : A / D < 2 ^ bl (A / D) := bl_lt _
    have hA : A < 2 ^ bl (A / D) * D := (Nat.div_lt_iff_lt_mul hD).mp hY
    generalize bl (A / D) = b at *
    by_cases c : e ≤ b
    · obtain ⟨k, rfl⟩ : ∃ k, b = e + k := ⟨b - e, by omega⟩
      rw [Nat.pow_add, Nat.mul_comm (2 ^ e)] at w hA
      have hk : 2 ^ k < m := Nat.lt_of_mul_lt_mul_right w
      have hX := Nat.mul_le_mul_right (2 ^ e * D) (show 2 ^ k + 1 ≤ m from hk)
      rw [Nat.add_mul, Nat.one_mul, ← Nat.mul_assoc, ← Nat.mul_assoc] at hX
      generalize m * 2 ^ e * D = B at *
      generalize 2 ^ k * 2 ^ e * D = C at *
      generalize 2 ^ e * D = G at *
      omega
    · obtain ⟨k, rfl⟩ : ∃ k, e = b + 1 + k := ⟨e - b - 1, by omega⟩
      have hk := Nat.two_pow_pos k
      have : 2 * (2 ^ b * D) ≤ 2 ^ (b + 1 + k) * D := by
        rw [Nat.pow_add, Nat.pow_succ, ← Nat.mul_assoc]
        apply Nat.mul_le_mul_right
        rw [Nat.mul_comm 2]
        exact Nat.le_mul_of_pos_right _ hk
      generalize m * 2 ^ (b + 1 + k) * D = B at *
      generalize 2 ^ (b + 1 + k) * D = G at *
      generalize 2 ^ b * D = C at *
      omega
theorem Vv_exact {m : Nat} {E : Int} (hE : -1074 ≤ E) : Vv m E * 2 ^ 2000 = m * 2 ^ (E + 2000).toNat * PB 172 := by
  unfold Vv
  by_cases c : 0 ≤ E
  · rw [if_pos c, show (E + 2000).toNat = E.toNat + 2000 from by omega, Nat.pow_add, Nat.mul_right_comm m (PB 172), Nat.mul_right_comm, ← Nat.mul_assoc m]
  · rw [if_neg c]
    obtain ⟨k, hk⟩ : ∃ k : Nat, k = (-E).toNat := ⟨_, rfl⟩
    have hkE : (E + 2000).toNat + k = 2000 := by omega
    have hd : 2 ^ k ∣ PB 172 := by
      rw [PB_ten, show (10 : Nat) = 5 * 2 from rfl, Nat.mul_pow]
      exact Nat.dvd_trans (Nat.pow_dvd_pow 2 (by omega)) (Nat.dvd_mul_left _ _)
    obtain ⟨Q, hQ⟩ := hd
    rw [← hk, ← hkE, hQ, Nat.pow_add, Nat.mul_left_comm m, Nat.mul_div_cancel_left _ (Nat.two_pow_pos k)]
    generalize 2 ^ (E + 2000).toNat = a
    generalize 2 ^ k = b
    rw [Nat.mul_assoc m Q, Nat.mul_assoc m a, Nat.mul_left_comm Q a, Nat.mul_comm Q b]
theorem near_back {m : Nat} {E : Int} (h : Rl m E) (hm0 : m ≠ 0) {R : Nat} (h1 : 2 * (R - Vv m E) * 10000000000000000 ≤ Vv m E) (h2 : 2 * (Vv m E - R) * 10000000000000000 ≤ Vv m E) : near R (PB 172) = (lN m, iI E, 0) := by
  have hm := h.1
  have hEr := Rl_E h
  have hD := PB_pos 172
  have hx := Vv_exact (m := m) hEr.1
  obtain ⟨e, he⟩ : ∃ e : Nat, e = (E + 2000).toNat := ⟨_, rfl⟩
  rw [← he] at hx
  have hZ := Nat.two_pow_pos 2000
  have g1 : 2 * (R * 2 ^ 2000 - m * 2 ^ e * PB 172) * 10000000000000000 ≤ m * 2 ^ e * PB 172 := by
    rw [← hx, ← Nat.sub_mul, ← Nat.mul_assoc, Nat.mul_right_comm]
    exact Nat.mul_le_mul_right _ h1
  have g2 : 2 * (m * 2 ^ e * PB 172 - R * 2 ^ 2000) * 10000000000000000 ≤ m * 2 ^ e * PB 172 := by
    rw [← hx, ← Nat.sub_mul, ← Nat.mul_assoc, Nat.mul_right_comm]
    exact Nat.mul_le_mul_right _ h2
  clear hx h1 h2
  unfold near
  generalize R * 2 ^ 2000 = A at *
  generalize PB 172 = D at *
  clear hZ
  obtain ⟨b1, b2⟩ := close_bits hD hm0 hm g1 g2
  unfold rnd
  obtain ⟨d, hd⟩ : ∃ d : Nat, d = (rd (A / D) (-2000)).toNat := ⟨_, rfl⟩
  have hrd : rd (A / D) (-2000) = (d : Int) ∧ 926 ≤ d ∧ bl (A / D) ≤ d + 53 ∧ d ≤ e := by
    unfold rd at hd ⊢
    omega
  obtain ⟨r1, r2, r3, r4⟩ := hrd
  rw [if_neg (by omega), ← hd, r1]
  have hXd : m * 2 ^ e = m * 2 ^ (e - d) * 2 ^ d := by
    rw [Nat.mul_assoc, ← Nat.pow_add, show e - d + d = e from by omega]
  have hX2 : m * 2 ^ e * D ≤ 9007199254740992 * (2 ^ d * D) := by
    have := Nat.le_trans b2 (Nat.pow_le_pow_right (by decide : 0 < 2) r3)
    have := Nat.mul_le_mul_right D this
    rw [Nat.pow_add, Nat.mul_comm (2 ^ d), show (2 : Nat) ^ 53 = 9007199254740992 from by decide, Nat.mul_assoc 9007199254740992] at this
    exact this
  have hG : 0 < 2 ^ d * D := Nat.mul_pos (Nat.two_pow_pos d) hD
  have hq := rq_close (A := A) (D := D) (X := m * 2 ^ e) (M := m * 2 ^ (e - d)) (d := d) hD (by omega) hXd (by omega) (by omega)
  rw [hq, show (-2000 : Int) + (d : Int) = E - ((e - d : Nat) : Int) from by omega, red_shift]
  have hid := rnd_id h
  unfold rnd at hid
  rw [if_pos] at hid
  · exact hid
  · have : bl m ≤ 53 := bl_le_iff.mpr hm
    unfold rd
    omega
theorem rdE_near (V E : Nat) : 2 * (rdE V E - V) ≤ 10 ^ E ∧ 2 * (V - rdE V E) ≤ 10 ^ E := by
  have hp := ten_pos E
  have hr := Nat.mod_lt V hp
  have hle := Nat.mod_le V (10 ^ E)
  unfold rdE
  cases c : ru V E
  · unfold ru at c
    have c := of_decide_eq_false c
    rw [if_neg (by decide), Nat.zero_mul]
    generalize V / 10 ^ E % 2 = z at *
    generalize V % 10 ^ E = r at *
    generalize 10 ^ E = P at *
    omega
  · unfold ru at c
    have c := of_decide_eq_true c
    rw [if_pos rfl, Nat.one_mul]
    generalize V / 10 ^ E % 2 = z at *
    generalize V % 10 ^ E = r at *
    generalize 10 ^ E = P at *
    omega
/-- 17 digits -/
theorem near_17 {m : Nat} {E : Int} (h : Rl m E) (hm0 : m ≠ 0) {k : Nat} (hk : 10 ^ (k + 16) ≤ Vv m E) : near (rdE (Vv m E) k) (PB 172) = (lN m, iI E, 0) := by
  obtain ⟨a1, a2⟩ := rdE_near (Vv m E) k
  rw [Nat.pow_add, show (10 : Nat) ^ 16 = 10000000000000000 from by decide] at hk
  apply near_back h hm0
  · exact Nat.le_trans (Nat.mul_le_mul_right _ a1) hk
  · exact Nat.le_trans (Nat.mul_le_mul_right _ a2) hk

/-! rounding looks at a cut number and at whether something was cut off -/
theorem rq_refine {T k d : Nat} (hd : 1 ≤ d) (st : Bool) : rq T (d + k) st = rq (T / 2 ^ k) d (st || decide (T % 2 ^ k ≠ 0)) := by
  have hpk := Nat.two_pow_pos k
  have hpd := Nat.two_pow_pos d
  obtain ⟨h, hh⟩ : ∃ h, 2 ^ d = 2 * h := ⟨2 ^ (d - 1), by rw [← Nat.pow_succ', show (d - 1).succ = d from by omega]⟩
  have e1 : T / 2 ^ (d + k) = T / 2 ^ k / 2 ^ d := by rw [Nat.div_div_eq_div_mul, Nat.add_comm, Nat.pow_add]
  have e2 : T % 2 ^ (d + k) = T % 2 ^ k + 2 ^ k * (T / 2 ^ k % 2 ^ d) := by
    rw [Nat.add_comm d k, Nat.pow_add]
    exact Nat.mod_mul
  unfold rq
  rw [e1, e2]
  generalize T / 2 ^ k / 2 ^ d = q
  have hr : T / 2 ^ k % 2 ^ d < 2 ^ d := Nat.mod_lt _ hpd
  have hρ : T % 2 ^ k < 2 ^ k := Nat.mod_lt _ hpk
  generalize T / 2 ^ k % 2 ^ d = r at hr
  generalize T % 2 ^ k = ρ at hρ
  have hP : 2 ^ (d + k) = 2 ^ k * (2 * h) := by rw [Nat.add_comm, Nat.pow_add, hh]
  rw [hP]
  rw [hh] at hr ⊢
  generalize 2 ^ k = K at hpk hρ
  rcases Nat.lt_trichotomy r h with c | c | c
  · have : K * r + K ≤ K * h := by rw [← Nat.mul_succ]; exact Nat.mul_le_mul_left K c
    have e3 : K * (2 * h) = 2 * (K * h) := by rw [Nat.mul_left_comm]
    rw [if_neg (by
      intro g
      rcases g with g | ⟨g, -⟩ <;> omega), if_neg (by
      intro g
      rcases g with g | ⟨g, -⟩ <;> omega)]
  · subst c
    have e3 : K * (2 * r) = 2 * (K * r) := by rw [Nat.mul_left_comm]
    by_cases z : ρ = 0
    · subst z
      simp only [ne_eq, not_true_eq_false, decide_false, Bool.or_false]
      have a1 : (K * (2 * r) < 2 * (0 + K * r)) = (2 * r < 2 * r) := propext (by omega)
      have a2 : (2 * (0 + K * r) = K * (2 * r)) = (2 * r = 2 * r) := propext (by omega)
      exact ite_c (by rw [a1, a2]; simp)
    · have b : decide (ρ ≠ 0) = true := by simp [z]
      rw [b, Bool.or_true, if_pos (Or.inl (by omega)), if_pos (Or.inr ⟨rfl, Or.inl rfl⟩)]
  · have : K * h + K ≤ K * r := by rw [← Nat.mul_succ]; exact Nat.mul_le_mul_left K c
    have e3 : K * (2 * h) = 2 * (K * h) := by rw [Nat.mul_left_comm]
    rw [if_pos (Or.inl (by omega)), if_pos (Or.inl (by omega))]
/-- the finer cut rounds as the coarser one does -/
theorem rnd_refine {T k : Nat} {e : Int} (st : Bool) (hd : 1 ≤ rd (T / 2 ^ k) e) (h0 : T / 2 ^ k ≠ 0 ∨ 1 ≤ -1074 - e) : rnd T st (e - k) = rnd (T / 2 ^ k) (st || decide (T % 2 ^ k ≠ 0)) e := by
  have hpk := Nat.two_pow_pos k
  by_cases c : T / 2 ^ k = 0
  · have hT : T < 2 ^ k := (Nat.div_eq_zero_iff_lt hpk).mp c
    have hb : bl T ≤ k := bl_le_iff.mpr hT
    have h1 : 1 ≤ -1074 - e := by
      rcases h0 with h | h
      · exact absurd c h
      · exact h
    rw [c, rnd_zero]
    obtain ⟨d, hdd⟩ : ∃ d : Nat, -1074 - e = (d : Int) := ⟨(-1074 - e).toNat, by omega⟩
    have hrd : rd T (e - k) = ((d + k : Nat) : Int) := by
      unfold rd
      omega
    unfold rnd
    rw [hrd, if_neg (by omega), Int.toNat_natCast]
    have z : rq T (d + k) st = 0 := by
      have h2 : 2 ^ (k + 1) ≤ 2 ^ (d + k) := Nat.pow_le_pow_right (by decide) (by omega)
      rw [Nat.pow_succ] at h2
      unfold rq
      rw [Nat.div_eq_of_lt (by omega), Nat.mod_eq_of_lt (by omega), if_neg (by
        intro q
        rcases q with q | ⟨q, -⟩ <;> omega)]
    rw [z]
    rfl
  · have hge : 2 ^ k ≤ T := by
      rcases Nat.lt_or_ge T (2 ^ k) with q | q
      · exact absurd (Nat.div_eq_of_lt q) c
      · exact q
    have hb := bl_div hge
    have hrd : rd T (e - k) = rd (T / 2 ^ k) e + k := by
      unfold rd
      omega
    obtain ⟨d, hdd⟩ : ∃ d : Nat, rd (T / 2 ^ k) e = (d : Int) := ⟨(rd (T / 2 ^ k) e).toNat, by omega⟩
    unfold rnd
    rw [hrd, hdd, if_neg (by omega), if_neg (by omega), show ((d : Int) + (k : Int)).toNat = d + k from by omega, Int.toNat_natCast, rq_refine (by omega)]
    congr 1
    omega
theorem rq_sticky {t d : Nat} (hd : 2 ≤ d) : rq t d true = rq (t / 2 * 2 + 1) d false := by
  obtain ⟨h, hh⟩ : ∃ h, 2 ^ d = 4 * h := ⟨2 ^ (d - 2), by rw [show 4 * 2 ^ (d - 2) = 2 ^ (2 + (d - 2)) from by rw [Nat.pow_add], show 2 + (d - 2) = d from by omega]⟩
  have hp := Nat.two_pow_pos d
  unfold rq
  rw [hh] at hp ⊢
  have hm := Nat.mod_add_div t (4 * h)
  have hlt : t % (4 * h) < 4 * h := Nat.mod_lt _ hp
  -- the same quotient, the last bit set
  have key : (t / 2 * 2 + 1) / (4 * h) = t / (4 * h) ∧ (t / 2 * 2 + 1) % (4 * h) = t % (4 * h) / 2 * 2 + 1 := by
    have e : t / 2 * 2 + 1 = (t % (4 * h) / 2 * 2 + 1) + 4 * h * (t / (4 * h)) := by
      have e9 : 4 * h * (t / (4 * h)) = 2 * (2 * h * (t / (4 * h))) := by rw [← Nat.mul_assoc, ← Nat.mul_assoc]
      rw [e9] at hm ⊢
      omega
    have hsm : t % (4 * h) / 2 * 2 + 1 < 4 * h := by omega
    constructor
    · rw [e, Nat.add_mul_div_left _ _ hp, Nat.div_eq_of_lt hsm]; omega
    · rw [e, Nat.add_mul_mod_self_left, Nat.mod_eq_of_lt hsm]
  rw [key.1, key.2]
  generalize t % (4 * h) = r at hlt
  by_cases c : 4 * h < 2 * r ∨ 2 * r = 4 * h
  · rw [if_pos (by
      rcases c with c | c
      · exact Or.inl c
      · exact Or.inr ⟨c, Or.inl rfl⟩), if_pos (Or.inl (by omega))]
  · rw [if_neg (by
      intro g
      rcases g with g | ⟨g, -⟩
      · exact c (Or.inl g)
      · exact c (Or.inr g)), if_neg (by
      intro g
      rcases g with g | ⟨g, -⟩ <;> omega)]
theorem bl_sticky {t : Nat} (h : t ≠ 0) : bl (t / 2 * 2 + 1) = bl t := by
  have a := bl_lt t
  have b := bl_le h
  have c := bl_pos h
  refine bl_uniq ?_ (by omega) c
  obtain ⟨k, hk⟩ : ∃ k, bl t = k + 1 := ⟨bl t - 1, by omega⟩
  rw [hk, Nat.pow_succ] at a ⊢
  omega
theorem rnd_sticky {t : Nat} (ht : t ≠ 0) {e : Int} (hd : 2 ≤ rd t e) : rnd t true e = rnd (t / 2 * 2 + 1) false e := by
  have hr : rd (t / 2 * 2 + 1) e = rd t e := by unfold rd; rw [bl_sticky ht]
  unfold rnd
  rw [hr, if_neg (by omega), if_neg (by omega), rq_sticky (by omega)]

/-! reals with 16: the class's cut and the reference's sticky number -/
/-- the class's state behind k digits whose number is H -/
def IC (H m held left : Nat) (more : Bool) : Prop :=
  m = H / 16 ^ left ∧ more = decide (H % 16 ^ left ≠ 0) ∧ (m = 0 → held = 0 ∧ left = 0) ∧ (m ≠ 0 → 1 ≤ held ∧ held ≤ 15 ∧ 16 ^ (held - 1) ≤ m ∧ m < 16 ^ held) ∧ (0 < left → held = 15)
theorem pow16_15 : (16 : Nat) ^ 15 = 1152921504606846976 := by decide
theorem IC_lt {H m held left : Nat} {more : Bool} (h : IC H m held left more) : m < 1152921504606846976 := by
  obtain ⟨-, -, h0, h1, -⟩ := h
  by_cases c : m = 0
  · omega
  · obtain ⟨a, b, -, d⟩ := h1 c
    have : 16 ^ held ≤ 16 ^ 15 := Nat.pow_le_pow_right (by decide) b
    rw [pow16_15] at this
    omega
theorem IC_0 : IC 0 0 0 0 false := ⟨by decide, by decide, fun _ => ⟨rfl, rfl⟩, fun h => absurd rfl h, fun h => absurd h (by decide)⟩
/-- a digit more, kept -/
theorem IC_keep {H m held left d : Nat} {more : Bool} (h : IC H m held left more) (hd : d < 16) (hh : held < 15) : IC (16 * H + d) (16 * m + d) (held + (if 16 * m + d = 0 then 0 else 1)) 0 false ∧ left = 0 ∧ more = false := by
  obtain ⟨a, b, h0, h1, h2⟩ := h
  have hl : left = 0 := by
    rcases Nat.eq_zero_or_pos left with q | q
    · exact q
    · have := h2 q; omega
  subst hl
  have hm : m = H := by rw [a]; simp
  have hmore : more = false := by rw [b]; simp [Nat.mod_one]
  subst hm
  refine ⟨⟨by simp, by simp [Nat.mod_one], ?_, ?_, fun q => absurd q (by decide)⟩, rfl, hmore⟩
  · intro z
    rw [if_pos z]
    have : m = 0 := by omega
    exact ⟨by rw [(h0 this).1], rfl⟩
  · intro z
    rw [if_neg z]
    by_cases c : m = 0
    · rw [(h0 c).1]
      refine ⟨by decide, by decide, ?_, ?_⟩
      · show 16 ^ 0 ≤ _
        simp only [Nat.pow_zero]
        omega
      · show _ < 16 ^ 1
        omega
    · obtain ⟨p, q, r, s⟩ := h1 c
      have e : 16 ^ (held + 1 - 1) = 16 * 16 ^ (held - 1) := by
        rw [show held + 1 - 1 = (held - 1) + 1 from by omega, Nat.pow_succ]; omega
      have e2 : 16 ^ (held + 1) = 16 * 16 ^ held := by rw [Nat.pow_succ]; omega
      refine ⟨by omega, by omega, ?_, ?_⟩
      · rw [e]; omega
      · rw [e2]; omega
/-- a digit more, left out -/
theorem IC_drop {H m held left d : Nat} {more : Bool} (h : IC H m held left more) (hd : d < 16) (hh : held = 15) : IC (16 * H + d) m held (left + 1) (more || decide (d ≠ 0)) := by
  obtain ⟨a, b, h0, h1, h2⟩ := h
  have hm0 : m ≠ 0 := by
    intro c
    have := (h0 c).1
    omega
  have hp : 0 < 16 ^ left := Nat.pow_pos (by decide)
  have e : 16 ^ (left + 1) = 16 * 16 ^ left := by rw [Nat.pow_succ]; omega
  have hdiv : (16 * H + d) / 16 = H := by omega
  have hmod : (16 * H + d) % 16 = d := by omega
  refine ⟨?_, ?_, fun c => absurd c hm0, h1, fun _ => hh⟩
  · rw [e, ← Nat.div_div_eq_div_mul, hdiv]; exact a
  · rw [e, Nat.mod_mul, hdiv, hmod, b]
    by_cases c : H % 16 ^ left = 0
    · by_cases c2 : d = 0
      · simp [c, c2]
      · simp [c, c2]
    · have h9 : d + 16 * (H % 16 ^ left) ≠ 0 := by omega
      rw [decide_eq_true h9, decide_eq_true c, Bool.true_or]
/-- what the class's cut rounds to -/
theorem IC_rnd {H m held left : Nat} {more : Bool} (h : IC H m held left more) (e : Int) : rnd m more (e + 4 * (left : Int)) = rnd H false e := by
  obtain ⟨a, b, h0, h1, h2⟩ := h
  rcases Nat.eq_zero_or_pos left with q | q
  · subst q
    have hm : m = H := by rw [a]; simp
    have hmore : more = false := by rw [b]; simp [Nat.mod_one]
    rw [hm, hmore]
    congr 1
    omega
  · have hh := h2 q
    have hm0 : m ≠ 0 := by
      intro c
      have := (h0 c).1
      omega
    obtain ⟨-, -, r, s⟩ := h1 hm0
    rw [hh] at r
    have hb : 57 ≤ bl m := by
      rcases Nat.lt_or_ge (bl m) 57 with c | c
      · have : m < 2 ^ 56 := bl_le_iff.mp (by omega)
        have e9 : (16 : Nat) ^ (15 - 1) = 2 ^ 56 := by decide
        omega
      · exact c
    have e16 : (16 : Nat) ^ left = 2 ^ (4 * left) := by rw [Nat.pow_mul]
    rw [e16] at a b
    have key := rnd_refine (T := H) (k := 4 * left) (e := e + 4 * (left : Int)) false (by
      rw [← a]
      have : (bl m : Int) - 53 ≤ rd m (e + 4 * (left : Int)) := Int.le_max_left _ _
      omega) (Or.inl (by rw [← a]; exact hm0))
    rw [← a, Bool.false_or, ← b] at key
    rw [← key]
    congr 1
    omega
/-- the reference's state: t with the last bit set where something was left out -/
def IM (H s left : Nat) : Prop := s = (if H % 16 ^ left = 0 then H / 16 ^ left else H / 16 ^ left / 2 * 2 + 1) ∧ H / 16 ^ left < 2305843009213693952 ∧ (0 < left → 144115188075855872 ≤ H / 16 ^ left)
theorem IM_0 : IM 0 0 0 := ⟨by decide, by decide, fun h => absurd h (by decide)⟩
theorem IM_small {H s left : Nat} (h : IM H s left) (hs : s < 144115188075855872) : left = 0 ∧ s = H := by
  obtain ⟨a, b, c⟩ := h
  have hl : left = 0 := by
    rcases Nat.eq_zero_or_pos left with q | q
    · exact q
    · have := c q
      exfalso
      rw [a] at hs
      split at hs <;> omega
  subst hl
  refine ⟨rfl, ?_⟩
  rw [a, if_pos (by simp [Nat.mod_one])]
  simp
theorem IM_lt {H s left : Nat} (h : IM H s left) : s < 2305843009213693952 := by
  obtain ⟨a, b, c⟩ := h
  rw [a]
  split <;> omega
theorem IM_keep {H s left d : Nat} (h : IM H s left) (hd : d < 16) (hs : s < 144115188075855872) : IM (16 * H + d) (16 * s + d) 0 ∧ left = 0 := by
  obtain ⟨hl, hH⟩ := IM_small h hs
  subst hH
  refine ⟨⟨?_, ?_, fun q => absurd q (by decide)⟩, hl⟩
  · rw [if_pos (by simp [Nat.mod_one])]; simp
  · simp; omega
theorem IM_drop {H s left d : Nat} (h : IM H s left) (hd : d < 16) (hs : 144115188075855872 ≤ s) : IM (16 * H + d) (if d = 0 then s else s / 2 * 2 + 1) (left + 1) := by
  obtain ⟨a, b, c⟩ := h
  have e : 16 ^ (left + 1) = 16 * 16 ^ left := by rw [Nat.pow_succ]; omega
  have hdiv : (16 * H + d) / 16 = H := by omega
  have hmod : (16 * H + d) % 16 = d := by omega
  have ed : (16 * H + d) / 16 ^ (left + 1) = H / 16 ^ left := by rw [e, ← Nat.div_div_eq_div_mul, hdiv]
  have em : (16 * H + d) % 16 ^ (left + 1) = d + 16 * (H % 16 ^ left) := by rw [e, Nat.mod_mul, hdiv, hmod]
  unfold IM
  rw [ed, em]
  refine ⟨?_, b, ?_⟩
  · by_cases z : H % 16 ^ left = 0
    · rw [if_pos z] at a
      by_cases z2 : d = 0
      · rw [if_pos z2, if_pos (by omega), a]
      · rw [if_neg z2, if_neg (by omega), a]
    · rw [if_neg z] at a
      rw [if_neg (show ¬ d + 16 * (H % 16 ^ left) = 0 from by omega)]
      by_cases z2 : d = 0
      · rw [if_pos z2, a]
      · rw [if_neg z2, a]; omega
  · intro _
    rcases Nat.eq_zero_or_pos left with q | q
    · subst q
      rw [if_pos (by simp [Nat.mod_one])] at a
      omega
    · exact c q
theorem IM_rnd {H s left : Nat} (h : IM H s left) (e : Int) : rnd s false (e + 4 * (left : Int)) = rnd H false e := by
  obtain ⟨a, b, c⟩ := h
  rcases Nat.eq_zero_or_pos left with q | q
  · subst q
    rw [if_pos (by simp [Nat.mod_one])] at a
    have : s = H := by rw [a]; simp
    rw [this]
    congr 1
    omega
  · have hc := c q
    have hm0 : H / 16 ^ left ≠ 0 := by omega
    have hb : 58 ≤ bl (H / 16 ^ left) := by
      rcases Nat.lt_or_ge (bl (H / 16 ^ left)) 58 with z | z
      · have : H / 16 ^ left < 2 ^ 57 := bl_le_iff.mp (by omega)
        omega
      · exact z
    have e16 : (16 : Nat) ^ left = 2 ^ (4 * left) := by rw [Nat.pow_mul]
    have hrd : (bl (H / 16 ^ left) : Int) - 53 ≤ rd (H / 16 ^ left) (e + 4 * (left : Int)) := Int.le_max_left _ _
    have key := rnd_refine (T := H) (k := 4 * left) (e := e + 4 * (left : Int)) false (by rw [← e16]; omega) (Or.inl (by rw [← e16]; exact hm0))
    rw [← e16, Bool.false_or] at key
    have e0 : e + 4 * (left : Int) - ((4 * left : Nat) : Int) = e := by omega
    rw [e0] at key
    rw [key]
    by_cases z : H % 16 ^ left = 0
    · rw [if_pos z] at a
      rw [a, show decide (H % 16 ^ left ≠ 0) = false from by simp [z]]
    · rw [if_neg z] at a
      rw [a, show decide (H % 16 ^ left ≠ 0) = true from by simp [z], rnd_sticky hm0 (by omega)]

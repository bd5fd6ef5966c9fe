/-! the two loops over digits with 16 -/
theorem lN_le0 {m : Nat} (h : m < 9223372036854775808) : (lN m ≤ (0 : Int64)) = (m = 0) := by
  rw [show (0 : Int64) = lN 0 from rfl, propext (pk_lLE (by omega) (by decide))]
  exact propext (by omega)
theorem c16_step {n : Nat} (hn : n ≤ 1200) (a : Nat → Int32) (fr be dg pw : Int32) (pf : Int64) (pp pi : Int32) {T i : Nat} (hi : i < T) (hT : T ≤ n) {H m held left d : Nat} {more : Bool} (hIC : IC H m held left more) (hl : left < 100000) (hd : dv true (bt8 a i) = some d) :
    ∃ m' held' left' more', IC (16 * H + d) m' held' left' more' ∧ left' ≤ left + 1 ∧ ∀ f, f_Numeral_findSizeOf16_17 (f + 1) fr (nI T) be dg pw (nI n) a pf pp pi (lN m) (nI held) (nI left) (bz more) (nI i) = f_Numeral_findSizeOf16_17 f fr (nI T) be dg pw (nI n) a pf pp pi (lN m') (nI held') (nI left') (bz more') (nI (i + 1)) := by
  have hb := bt8_lt a i
  have hd16 := (dv_lt _ hb true d hd).1
  have hdg : f_Numeral_digitOf (nI (bt8 a i)) 1 = some (nI d) := by
    have := digitOf_eq _ hb true
    rw [hd] at this
    exact this
  have hm := IC_lt hIC
  have hheld : held ≤ 15 := by
    obtain ⟨-, -, h0, h1, -⟩ := hIC
    by_cases c : m = 0
    · have := (h0 c).1; omega
    · exact (h1 c).2.1
  by_cases c : held = 15
  · refine ⟨m, held, left + 1, more || decide (d ≠ 0), IC_drop hIC hd16 c, Nat.le_refl _, ?_⟩
    intro f
    show f_Numeral_findSizeOf16_17b _ _ _ _ _ _ _ _ _ _ _ _ _ _ _ _ = _
    unfold f_Numeral_findSizeOf16_17b
    rw [if_neg (nI_ge hi (by omega)), tape_at hn a (by omega), if_pos (by omega), bi1_s, hdg, bi1_s, if_pos (nI_pos' (by omega)), if_pos (show (15 : Int32) ≤ nI held from nI_le (a := 15) (by omega) (by omega)), bd_s, nI_1]
    unfold f_Numeral_findSizeOf16_96 f_Numeral_findSizeOf16_101 f_Numeral_findSizeOf16_103
    rw [bd_s, bd_s, nI_1]
    have L : (nI d ≤ 0) = (d = 0) := by
      rw [show (0 : Int32) = nI 0 from rfl, propext (nI_leI (by omega) (by decide))]
      exact propext (by omega)
    rw [ite_c L]
    cases more
    · rw [if_pos (show bz false = 0 from rfl)]
      by_cases z : d = 0
      · rw [if_pos z, Bool.false_or, show decide (d ≠ 0) = false from by simp [z]]; rfl
      · rw [if_neg z, Bool.false_or, show decide (d ≠ 0) = true from by simp [z]]; rfl
    · rw [if_neg (show ¬ bz true = 0 from by decide), Bool.true_or]; rfl
  · obtain ⟨k1, k2, k3⟩ := IC_keep hIC hd16 (by omega)
    refine ⟨16 * m + d, held + (if 16 * m + d = 0 then 0 else 1), 0, false, k1, by omega, ?_⟩
    intro f
    show f_Numeral_findSizeOf16_17b _ _ _ _ _ _ _ _ _ _ _ _ _ _ _ _ = _
    unfold f_Numeral_findSizeOf16_17b
    have hsh : lsl (lN m) (4 : Int32) + (nI d).toInt64 = lN (16 * m + d) := by rw [jJ_lN, nI_lj (by omega), lsl_add, jJ_lN]
    rw [if_neg (nI_ge hi (by omega)), tape_at hn a (by omega), if_pos (by omega), bi1_s, hdg, bi1_s, if_pos (nI_pos' (by omega)), if_neg (show ¬ (15 : Int32) ≤ nI held from nI_ge (b := 15) (by omega) (by decide)), hsh, bd_s, ite_c (lN_le0 (by have := IC_lt k1; omega)), k2, k3]
    unfold f_Numeral_findSizeOf16_77 f_Numeral_findSizeOf16_103
    rw [bd_s, bd_s, bd_s, nI_1]
    by_cases z : 16 * m + d = 0
    · rw [if_pos z, if_pos z, Int32.add_zero]; rfl
    · rw [if_neg z, if_neg z, nI_1]; rfl
theorem c16_point {n : Nat} (hn : n ≤ 1200) (a : Nat → Int32) (fr be dg pw : Int32) (pf : Int64) (pp pi : Int32) {T i : Nat} (hi : i < T) (hT : T ≤ n) (m : Int64) (held left more : Int32) (h46 : bt8 a i = 46) (f : Nat) :
    f_Numeral_findSizeOf16_17 (f + 1) fr (nI T) be dg pw (nI n) a pf pp pi m held left more (nI i) = f_Numeral_findSizeOf16_17 f fr (nI T) be dg pw (nI n) a pf pp pi m held left more (nI (i + 1)) := by
  have hdg : f_Numeral_digitOf (nI (bt8 a i)) 1 = some (-1) := by
    have := digitOf_eq _ (bt8_lt a i) true
    rw [h46] at this ⊢
    exact this
  show f_Numeral_findSizeOf16_17b _ _ _ _ _ _ _ _ _ _ _ _ _ _ _ _ = _
  unfold f_Numeral_findSizeOf16_17b
  rw [if_neg (nI_ge hi (by omega)), tape_at hn a (by omega), if_pos (by omega), bi1_s, hdg, bi1_s, if_neg (show ¬ (0 : Int32) ≤ -1 from by decide)]
  unfold f_Numeral_findSizeOf16_103
  rw [bd_s, nI_1]
/-- k digits, numbered from j on -/
theorem c16_run {n : Nat} (hn : n ≤ 1200) (a : Nat → Int32) (fr be dg pw : Int32) (pf : Int64) (pp pi : Int32) (g : Nat → Nat) {T : Nat} (hT : T ≤ n) : ∀ (k i j m held left : Nat) (more : Bool), i + k ≤ T → left + k ≤ 100000 → (∀ t, t < k → dv true (bt8 a (i + t)) = some (g (j + t))) → IC (hv g j) m held left more →
    ∃ m' held' left' more', IC (hv g (j + k)) m' held' left' more' ∧ left' ≤ left + k ∧ ∀ f, f_Numeral_findSizeOf16_17 (f + k) fr (nI T) be dg pw (nI n) a pf pp pi (lN m) (nI held) (nI left) (bz more) (nI i) = f_Numeral_findSizeOf16_17 f fr (nI T) be dg pw (nI n) a pf pp pi (lN m') (nI held') (nI left') (bz more') (nI (i + k)) := by
  intro k
  induction k with
  | zero => intro i j m held left more _ _ _ h; exact ⟨m, held, left, more, h, Nat.le_refl _, fun f => rfl⟩
  | succ k ih =>
    intro i j m held left more hi hl hd h
    have hd0 := hd 0 (by omega)
    rw [Nat.add_zero, Nat.add_zero] at hd0
    obtain ⟨m1, h1, l1, b1, hI, hll, hs⟩ := c16_step hn a fr be dg pw pf pp pi (T := T) (i := i) (by omega) hT h (by omega) hd0
    obtain ⟨m2, h2, l2, b2, hI2, hll2, hs2⟩ := ih (i + 1) (j + 1) m1 h1 l1 b1 (by omega) (by omega) (fun t ht => by
      have := hd (t + 1) (by omega)
      rw [show i + 1 + t = i + (t + 1) from by omega, show j + 1 + t = j + (t + 1) from by omega]; exact this) hI
    refine ⟨m2, h2, l2, b2, ?_, by omega, ?_⟩
    · rw [show j + (k + 1) = j + 1 + k from by omega]; exact hI2
    · intro f
      rw [show f + (k + 1) = f + k + 1 from by omega, hs, hs2, show i + 1 + k = i + (k + 1) from by omega]
theorem or_one (s : Nat) : s ||| 1 = s / 2 * 2 + 1 := by
  have h1 : s = 2 ^ 1 * (s / 2) ||| (s % 2) := by rw [← Nat.two_pow_add_eq_or_of_lt (by omega)]; omega
  have h2 : s % 2 ||| 1 = 1 := by
    have : s % 2 = 0 ∨ s % 2 = 1 := by omega
    rcases this with h | h <;> rw [h] <;> rfl
  rw [h1, Nat.or_assoc, h2, ← h1, ← Nat.two_pow_add_eq_or_of_lt (by decide)]
  omega
theorem lN_or1 {s : Nat} (h : s < 18446744073709551616) : (lN s ||| (1 : Int64)) = lN (s / 2 * 2 + 1) := by
  rw [jJ_lN (s / 2 * 2 + 1)]
  apply jJ_ofBits
  rw [Int64.toBitVec_or, BitVec.toNat_or, jJ_lN, jJ_bits, show (1 : Int64).toBitVec.toNat = 1 from by decide, show ((s : Int) % 18446744073709551616).toNat = s from by omega, or_one]
theorem m16_run (vk : Int32) (vn : Int64) (ve : Int32) (ls : Int32) (da : Nat → Int32) (g : Nat → Nat) {D : Nat} (hD : D ≤ 1200) (hg : ∀ j, j < D → da j = nI (g j) ∧ g j < 16) (p : Int) : ∀ (m k f s left : Nat), k + m = D → m < f → IM (hv g k) s left → left ≤ k →
    ∃ s' left', IM (hv g D) s' left' ∧ left' ≤ D ∧ f_M_readSixteen_8 f vk vn ve (nI D) ls da (lN s) (iI (p + 4 * (left : Int))) (nI k) = f_M_readSixteen_70 vk vn ve (nI D) ls da (lN s') (iI (p + 4 * (left' : Int))) := by
  intro m
  induction m with
  | zero =>
    intro k f s left h hf hI hl
    obtain ⟨f, rfl⟩ : ∃ j, f = j + 1 := ⟨f - 1, by omega⟩
    have : k = D := by omega
    subst this
    refine ⟨s, left, hI, hl, ?_⟩
    show f_M_readSixteen_8b _ _ _ _ _ _ _ _ _ _ = _
    unfold f_M_readSixteen_8b
    rw [if_pos (nI_le (by omega) (by omega))]
  | succ m ih =>
    intro k f s left h hf hI hl
    obtain ⟨f, rfl⟩ : ∃ j, f = j + 1 := ⟨f - 1, by omega⟩
    obtain ⟨hda, h16⟩ := hg k (by omega)
    have hs := IM_lt hI
    have hdk : da (nI k).toNatClampNeg = nI (g k) := by rw [nI_clamp (by omega), hda]
    have L : ((144115188075855872 : Int64) ≤ lN s) = (144115188075855872 ≤ s) := propext (pk_lLE (a := 144115188075855872) (b := s) (by decide) (by omega))
    have Z : (nI (g k) = 0) = (g k = 0) := propext (nI_eq (a := g k) (b := 0) (by omega) (by decide))
    by_cases c : 144115188075855872 ≤ s
    · have hI' := IM_drop hI h16 c
      obtain ⟨s2, l2, hI2, hl2, hr2⟩ := ih (k + 1) f _ (left + 1) (by omega) (by omega) hI' (by omega)
      refine ⟨s2, l2, hI2, hl2, ?_⟩
      show f_M_readSixteen_8b _ _ _ _ _ _ _ _ _ _ = _
      unfold f_M_readSixteen_8b
      rw [if_neg (nI_ge (by omega) (by omega)), ite_c L, if_pos c, ck_s (gin_nI (by omega) (by decide)), hdk, ite_c Z]
      unfold f_M_readSixteen_60 f_M_readSixteen_64
      rw [bd_s, bd_s, bd_s, nI_1, show (4 : Int32) = iI 4 from by decide, iI_add, show p + 4 * (left : Int) + 4 = p + 4 * ((left + 1 : Nat) : Int) from by omega, lN_or1 (by omega)]
      by_cases z : g k = 0
      · rw [if_pos z]; rw [if_pos z] at hr2; exact hr2
      · rw [if_neg z]; rw [if_neg z] at hr2; exact hr2
    · obtain ⟨hI', hl0⟩ := IM_keep hI h16 (by omega)
      obtain ⟨s2, l2, hI2, hl2, hr2⟩ := ih (k + 1) f _ 0 (by omega) (by omega) hI' (by omega)
      refine ⟨s2, l2, hI2, hl2, ?_⟩
      show f_M_readSixteen_8b _ _ _ _ _ _ _ _ _ _ = _
      unfold f_M_readSixteen_8b
      rw [if_neg (nI_ge (by omega) (by omega)), ite_c L, if_neg c, ck_s (gin_nI (by omega) (by decide)), hdk, bd_s, show (nI (g k)).toInt64 = lN (g k) from nI_l (by omega), show (16 : Int64) = lN 16 from rfl, lN_mul, lN_add]
      unfold f_M_readSixteen_64
      rw [bd_s, nI_1, hl0]
      exact hr2

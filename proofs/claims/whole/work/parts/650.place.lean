/-! decimals: places, digits, cuts, sums -/
theorem PB_ten (k : Nat) : PB k = 10 ^ (9 * k) := by
  unfold PB
  rw [Nat.pow_mul]
theorem ten_split (E : Nat) : 10 ^ E = PB (E / 9) * 10 ^ (E % 9) := by
  rw [PB_ten, ← Nat.pow_add, Nat.div_add_mod]
theorem ten_pos (k : Nat) : 0 < 10 ^ k := Nat.pow_pos (by decide)
theorem tens_9 {k : Nat} (hk : k < 9) : 10 ^ k ≤ 100000000 ∧ 10 ^ k * 10 ^ (9 - k) = 1000000000 := by
  constructor
  · exact Nat.pow_le_pow_right (n := 10) (by decide) (show k ≤ 8 by omega)
  · rw [← Nat.pow_add, show k + (9 - k) = 9 from by omega]
theorem tdiv9 (x : Int) : x.tdiv 9 = if 0 ≤ x then x / 9 else -((-x) / 9) := by
  by_cases c : 0 ≤ x
  · rw [if_pos c, Int.tdiv_eq_ediv_of_nonneg c]
  · rw [if_neg c]
    have := Int.neg_tdiv (-x) 9
    rw [Int.neg_neg, Int.tdiv_eq_ediv_of_nonneg (show 0 ≤ -x from by omega)] at this
    exact this
theorem tmod9 (x : Int) : x.tmod 9 = if 0 ≤ x then x % 9 else -((-x) % 9) := by
  by_cases c : 0 ≤ x
  · rw [if_pos c, Int.tmod_eq_emod_of_nonneg c]
  · rw [if_neg c]
    have := Int.neg_tmod (-x) 9
    rw [Int.neg_neg, Int.tmod_eq_emod_of_nonneg (show 0 ≤ -x from by omega)] at this
    exact this
theorem TENS_eq : ∀ k, k < 9 → tb_Decimal_TENS k = nI (10 ^ k) := by decide +kernel
theorem iI_tdiv9 {x : Nat} (h : x < 2147483648) : iI (x : Int) / (9 : Int32) = nI (x / 9) := by
  rw [show (9 : Int32) = iI 9 from by decide, iI_div (by omega) (by omega) (by decide) (by decide), iI_nI]
  congr 1
theorem limbOf_eq {E : Nat} (hE : E < 1872) : f_Decimal_limbOf (iI ((E : Int) - 1548)) = some (nI (207 - E / 9)) := by
  unfold f_Decimal_limbOf
  rw [show (1872 : Int32) = iI 1872 from by decide, iI_add, show (E : Int) - 1548 + 1872 = ((E + 324 : Nat) : Int) from by omega, iI_tdiv9 (by omega), show (243 : Int32) = iI 243 from by decide, iI_nI, iI_sub, iI_nI]
  congr 2
  omega
theorem unitOf_eq {E : Nat} (hE : E < 1872) : f_Decimal_unitOf (iI ((E : Int) - 1548)) = some (nI (10 ^ (E % 9))) := by
  unfold f_Decimal_unitOf
  have h9 : E % 9 < 9 := Nat.mod_lt _ (by decide)
  have e1 : irm (iI ((E : Int) - 1548) + (1872 : Int32)) (9 : Int32) = nI (E % 9) := by
    rw [show (1872 : Int32) = iI 1872 from by decide, iI_add, show (9 : Int32) = iI 9 from by decide, iI_rem (by omega) (by omega) (by decide) (by decide), iI_nI]
    congr 1
    rw [tmod9, if_pos (by omega)]
    omega
  rw [e1, bd_s, if_neg (nI_pos (by omega)), if_pos (show nI (E % 9) < (9 : Int32) from nI_lt (b := 9) h9 (by decide)), ck_s (gin_nI h9 (by decide)), nI_clamp (by omega), TENS_eq _ h9]
/-- places too low -/
theorem limbOf_low {p : Int} (h : p < -1548) (h2 : -300000 ≤ p) : ∃ x : Int, 208 ≤ x ∧ x < 100000 ∧ f_Decimal_limbOf (iI p) = some (iI x) := by
  have hq := tdiv9 (p + 1872)
  refine ⟨243 - (p + 1872).tdiv 9, by split at hq <;> omega, by split at hq <;> omega, ?_⟩
  unfold f_Decimal_limbOf
  rw [show (1872 : Int32) = iI 1872 from by decide, iI_add, show (9 : Int32) = iI 9 from by decide, iI_div (by omega) (by omega) (by decide) (by decide), show (243 : Int32) = iI 243 from by decide, iI_sub]
theorem unitOf_low {p : Int} (h2 : -300000 ≤ p) (h : p < 300000) : ∃ u : Nat, 1 ≤ u ∧ u ≤ 100000000 ∧ f_Decimal_unitOf (iI p) = some (nI u) := by
  unfold f_Decimal_unitOf f_Decimal_unitOf_21
  have e1 : irm (iI p + (1872 : Int32)) (9 : Int32) = iI ((p + 1872).tmod 9) := by
    rw [show (1872 : Int32) = iI 1872 from by decide, iI_add, show (9 : Int32) = iI 9 from by decide, iI_rem (by omega) (by omega) (by decide) (by decide)]
  have hlt : (p + 1872).tmod 9 < 9 := Int.tmod_lt_of_pos _ (by decide)
  have hgt : -9 < (p + 1872).tmod 9 := by
    have hq := tmod9 (p + 1872)
    split at hq <;> omega
  rw [e1, bd_s]
  generalize (p + 1872).tmod 9 = y at hlt hgt
  rw [ite_c (iI_ltk 0 (c := 0) (by decide) (by omega) (by omega) (by decide) (by decide))]
  by_cases c : y < 0
  · rw [if_pos c]; exact ⟨1, by decide, by decide, rfl⟩
  · rw [if_neg c]
    obtain ⟨k, rfl⟩ : ∃ k : Nat, y = (k : Int) := ⟨y.toNat, by omega⟩
    rw [← iI_nI, if_pos (show nI k < (9 : Int32) from nI_lt (b := 9) (by omega) (by decide)), ck_s (gin_nI (by omega) (by decide)), nI_clamp (by omega), TENS_eq _ (by omega)]
    exact ⟨10 ^ k, ten_pos k, (tens_9 (by omega)).1, rfl⟩
def dg (V E : Nat) : Nat := V / 10 ^ E % 10
theorem dg_lt (V E : Nat) : dg V E < 10 := Nat.mod_lt _ (by decide)
theorem lm_digit {V E : Nat} (hE : E < 1872) : lm V (207 - E / 9) / 10 ^ (E % 9) % 10 = dg V E := by
  have h9 : E % 9 < 9 := Nat.mod_lt _ (by decide)
  obtain ⟨-, h2⟩ := tens_9 h9
  rw [lm_of (k := E / 9) (by omega)]
  unfold dg
  rw [ten_split E, ← Nat.div_div_eq_div_mul]
  generalize V / PB (E / 9) = X
  have hu := ten_pos (E % 9)
  have h3 : 10 ^ (9 - E % 9) = 10 * 10 ^ (8 - E % 9) := by
    rw [show 9 - E % 9 = (8 - E % 9) + 1 from by omega, Nat.pow_succ]; omega
  rw [← h2, Nat.mod_mul_right_div_self, h3, Nat.mod_mul_right_mod]
theorem digit_eq {a : Nat → Int32} {V E : Nat} (hR : Rw a V) (hE : E < 1872) : f_Decimal_digit a (iI ((E : Int) - 1548)) = some (nI (dg V E)) := by
  have h9 : E % 9 < 9 := Nat.mod_lt _ (by decide)
  have hu := ten_pos (E % 9)
  have hu2 := (tens_9 h9).1
  have hl := lm_lt V (207 - E / 9)
  unfold f_Decimal_digit
  rw [unitOf_eq hE, bi1_s, if_pos (show (0 : Int32) < nI (10 ^ (E % 9)) from nI_lt (a := 0) hu (by omega)), limbOf_eq hE, bi1_s, limb_in hR (by omega), bi1_s, ck_s (nI_ne0 hu (by omega))]
  congr 1
  rw [← lm_digit hE]
  generalize lm V (207 - E / 9) = X at hl
  generalize 10 ^ (E % 9) = u at hu hu2
  have e1 : nI X / nI u = nI (X / u) := by
    rw [iI_nI, iI_nI, iI_div (by omega) (by omega) (by omega) (by omega), iI_nI]
    congr 1
  have hle : X / u ≤ X := Nat.div_le_self _ _
  rw [e1]
  generalize X / u = Y at hle
  rw [iI_nI, show (10 : Int32) = iI 10 from by decide, iI_rem (by omega) (by omega) (by decide) (by decide), iI_nI]
  congr 1
theorem irm_nI {x y : Nat} (hx : x < 2147483648) (hy : 0 < y) (hy2 : y < 2147483648) : irm (nI x) (nI y) = nI (x % y) := by
  rw [iI_nI, iI_nI, iI_rem (by omega) (by omega) (by omega) (by omega), iI_nI]
  congr 1
/-- the rest below a place: limb by limb -/
theorem low_zero {V E L : Nat} (hE : E < 1872) (hL : L ≤ 207 - E / 9) (h : PB (207 - L) ∣ V) : (V % 10 ^ E = 0) = (lm V (207 - E / 9) % 10 ^ (E % 9) = 0) := by
  have h9 : E % 9 < 9 := Nat.mod_lt _ (by decide)
  obtain ⟨-, h2⟩ := tens_9 h9
  have h1 : PB (E / 9) ∣ V := Nat.dvd_trans (PB_dvd (by omega)) h
  obtain ⟨X, rfl⟩ := h1
  have hp := PB_pos (E / 9)
  rw [lm_of (k := E / 9) (by omega), Nat.mul_div_cancel_left _ hp, ten_split E, Nat.mul_mod_mul_left]
  rw [← h2, Nat.mod_mul_right_mod]
  apply propext
  constructor
  · intro q
    rcases Nat.mul_eq_zero.mp q with c | c
    · omega
    · exact c
  · intro q
    rw [q, Nat.mul_zero]
theorem hasBelow_eq {a : Nat → Int32} {F L V E : Nat} (hR : Rw a V) (hT : Tr F L V) (hE : E < 1872) : f_Decimal_hasBelow (nI L) a (iI ((E : Int) - 1548)) = some (bz (decide (V % 10 ^ E ≠ 0))) := by
  obtain ⟨⟨h0, hl, h1, h2⟩, hz, hn⟩ := hT
  have h9 : E % 9 < 9 := Nat.mod_lt _ (by decide)
  have hu := ten_pos (E % 9)
  have hu2 := (tens_9 h9).1
  have hlm := lm_lt V (207 - E / 9)
  have hlL := lm_lt V L
  unfold f_Decimal_hasBelow
  rw [unitOf_eq hE, bi1_s, limbOf_eq hE, bi1_s, ite_c (propext (nI_leI (by omega) (by omega)))]
  have small : L ≤ 207 - E / 9 → f_Decimal_hasBelow_29 (nI L) a (nI (10 ^ (E % 9))) (nI (207 - E / 9)) = some (bz (decide (V % 10 ^ E ≠ 0))) := by
    intro c
    unfold f_Decimal_hasBelow_29 f_Decimal_hasBelow_43
    have e := low_zero hE c h2
    have hml : lm V (207 - E / 9) % 10 ^ (E % 9) < 10 ^ (E % 9) := Nat.mod_lt _ hu
    rw [if_neg (nI_nle hu (by omega)), limb_in hR (by omega), bi1_s, ck_s (nI_ne0 hu (by omega)), irm_nI (by omega) hu (by omega), ite_c (nI_eq0 (by omega))]
    by_cases d : lm V (207 - E / 9) % 10 ^ (E % 9) = 0
    · rw [if_pos d, show decide (V % 10 ^ E ≠ 0) = false from by rw [← e] at d; simp [d]]; rfl
    · rw [if_neg d, show decide (V % 10 ^ E ≠ 0) = true from by rw [← e] at d; simp [d]]; rfl
  by_cases c : L ≤ 207 - E / 9
  · rw [if_pos c]; exact small c
  · rw [if_neg c, limb_in hR hl, bi1_s, ite_c (nI_eq0 (by omega))]
    by_cases d : lm V L = 0
    · rw [if_pos d]
      by_cases v0 : V = 0
      · subst v0
        rw [lm_0] at hlm
        unfold f_Decimal_hasBelow_29
        rw [if_neg (nI_nle hu (by omega)), limb_in hR (by omega), bi1_s, ck_s (nI_ne0 hu (by omega)), lm_0, irm_nI (by omega) hu (by omega), Nat.zero_mod, if_pos (show nI 0 = 0 from rfl), Nat.zero_mod]
        rfl
      · exact absurd ((lm_last hl h2).mp d) (hn v0).2
    · rw [if_neg d]
      have : V % 10 ^ E ≠ 0 := by
        intro q
        have q1 : 10 ^ E ∣ V := Nat.dvd_of_mod_eq_zero q
        have q2 : PB (E / 9) ∣ V := Nat.dvd_trans ⟨10 ^ (E % 9), ten_split E⟩ q1
        have := lm_below (L := 207 - E / 9) (j := L) (V := V) (by rw [show 207 - (207 - E / 9) = E / 9 from by omega]; exact q2) (by omega) hl
        exact d this
      rw [decide_eq_true this]
      rfl
/-- limbs of a cut number -/
theorem lm_cut {V E : Nat} (hE : E < 1872) {j : Nat} (hj : j < 208) : lm (V - V % 10 ^ E) j = (if j < 207 - E / 9 then lm V j else if j = 207 - E / 9 then lm V j - lm V j % 10 ^ (E % 9) else 0) := by
  have h9 : E % 9 < 9 := Nat.mod_lt _ (by decide)
  obtain ⟨-, h2⟩ := tens_9 h9
  have hc := ten_pos E
  have hu := ten_pos (E % 9)
  have hp := PB_pos (E / 9)
  have e0 : V - V % 10 ^ E = 10 ^ E * (V / 10 ^ E) := by
    have := Nat.div_add_mod V (10 ^ E)
    omega
  by_cases c1 : j < 207 - E / 9
  · rw [if_pos c1, e0]
    unfold lm
    have e1 : PB (207 - j) = 10 ^ E * 10 ^ (9 * (207 - j) - E) := by
      rw [PB_ten, ← Nat.pow_add, show E + (9 * (207 - j) - E) = 9 * (207 - j) from by omega]
    rw [e1, ← Nat.div_div_eq_div_mul, Nat.mul_div_cancel_left _ hc, Nat.div_div_eq_div_mul]
  · rw [if_neg c1]
    by_cases c2 : j = 207 - E / 9
    · rw [if_pos c2, e0, c2, lm_of (k := E / 9) (by omega), lm_of (k := E / 9) (by omega), ten_split E, Nat.mul_assoc, Nat.mul_div_cancel_left _ hp, ← Nat.div_div_eq_div_mul]
      generalize V / PB (E / 9) = X
      generalize 10 ^ (E % 9) = u at hu h2
      have a1 := Nat.div_add_mod X u
      have a2 := Nat.div_add_mod X 1000000000
      have a3 : X % 1000000000 % u = X % u := Nat.mod_mod_of_dvd _ ⟨10 ^ (9 - E % 9), h2.symm⟩
      rw [a3]
      have a4 : X % u ≤ X % 1000000000 := by rw [← a3]; exact Nat.mod_le _ _
      have a5 : u * (X / u) = 1000000000 * (X / 1000000000) + (X % 1000000000 - X % u) := by omega
      rw [a5, Nat.mul_add_mod]
      exact Nat.mod_eq_of_lt (by omega)
    · rw [if_neg c2, e0]
      refine lm_below (L := 207 - E / 9) ?_ (by omega) hj
      rw [show 207 - (207 - E / 9) = E / 9 from by omega]
      exact Nat.dvd_trans ⟨10 ^ (E % 9), ten_split E⟩ (Nat.dvd_mul_right _ _)
theorem cut_zo {F L V E : Nat} (hz : Zo F L V) (hE : E < 1872) : Zo F L (V - V % 10 ^ E) := by
  obtain ⟨h0, hl, h1, h2⟩ := hz
  refine ⟨h0, hl, by omega, ?_⟩
  have e0 : V - V % 10 ^ E = 10 ^ E * (V / 10 ^ E) := by
    have := Nat.div_add_mod V (10 ^ E)
    omega
  by_cases c : 207 - L ≤ E / 9
  · rw [e0]
    exact Nat.dvd_trans (PB_dvd c) (Nat.dvd_trans ⟨10 ^ (E % 9), ten_split E⟩ (Nat.dvd_mul_right _ _))
  · have : 10 ^ E ∣ V := by
      refine Nat.dvd_trans ?_ h2
      rw [PB_ten]
      exact Nat.pow_dvd_pow 10 (by omega)
    rw [Nat.mod_eq_zero_of_dvd this]
    exact h2
theorem cut22 {F L V E : Nat} (hz : Zo F L V) (hE : E < 1872) : ∀ (m k f : Nat) (a : Nat → Int32), k + m = L + 1 ∨ (m = 0 ∧ L < k) → F ≤ k → 207 - E / 9 < k → k ≤ 208 → m < f → (∀ j, j < 208 → a j = nI (if 207 - E / 9 < j ∧ (j < k ∨ L < j) then 0 else lm V j)) →
    ∃ F' L' a', f_Decimal_cutBelow_22 f (nI F) (nI L) a (nI (10 ^ (E % 9))) (nI (207 - E / 9)) (nI k) = some (nI F', nI L', a') ∧ Rw a' (V - V % 10 ^ E) ∧ Tr F' L' (V - V % 10 ^ E) := by
  have hz' := hz
  obtain ⟨h0, hl, h1, h2⟩ := hz
  have h9 : E % 9 < 9 := Nat.mod_lt _ (by decide)
  have hu := ten_pos (E % 9)
  have hu2 := (tens_9 h9).1
  have hlm := lm_lt V (207 - E / 9)
  intro m
  induction m with
  | zero =>
    intro k f a h hFk hik hk hf ha
    obtain ⟨f, rfl⟩ : ∃ j, f = j + 1 := ⟨f - 1, by omega⟩
    have hLk : L < k := by omega
    show ∃ F' L' a', f_Decimal_cutBelow_22b _ _ _ _ _ _ _ = _ ∧ _
    unfold f_Decimal_cutBelow_22b f_Decimal_cutBelow_44 f_Decimal_cutBelow_82
    rw [if_pos (nI_lt hLk (by omega)), if_neg (nI_nle hu (by omega)), ite_c (propext (nI_ltI (by omega) (by omega))), ite_c (propext (nI_ltI (by omega) (by omega)))]
    have ha2 : ∀ j, j < 208 → j ≠ 207 - E / 9 → a j = nI (lm (V - V % 10 ^ E) j) := by
      intro j hj hne
      rw [ha j hj, lm_cut hE hj]
      by_cases c : j < 207 - E / 9
      · rw [if_pos c, if_neg (by omega)]
      · rw [if_neg c, if_neg hne]
        by_cases d : j < k
        · rw [if_pos ⟨by omega, Or.inl d⟩]
        · rw [if_pos ⟨by omega, Or.inr (by omega)⟩]
    have ha3 : a (207 - E / 9) = nI (lm V (207 - E / 9)) := by
      rw [ha _ (by omega), if_neg (by omega)]
    have hout : lm V (207 - E / 9) = 0 → ∃ F' L' a', (bi2 (f_Decimal_trim (nI F) (nI L) a) fun v1 v2 => some (v1, v2, a)) = some (nI F', nI L', a') ∧ Rw a' (V - V % 10 ^ E) ∧ Tr F' L' (V - V % 10 ^ E) := by
      intro q
      have hR' : Rw a (V - V % 10 ^ E) := by
        intro j hj
        by_cases c : j = 207 - E / 9
        · rw [lm_cut hE hj, if_neg (by omega), if_pos c, c, ha3, q, Nat.zero_sub]
        · exact ha2 j hj c
      obtain ⟨F', L', -, -, ht, hT⟩ := trim_eq hR' (cut_zo hz' hE)
      exact ⟨F', L', a, by rw [ht]; rfl, hR', hT⟩
    by_cases c : 207 - E / 9 < F
    · rw [if_pos c]
      exact hout (lm_above h1 c)
    · rw [if_neg c]
      by_cases d : L < 207 - E / 9
      · rw [if_pos d]
        exact hout (lm_below h2 d (by omega))
      · rw [if_neg d]
        have hlimb : f_Decimal_limb a (nI (207 - E / 9)) = some (nI (lm V (207 - E / 9))) := by
          unfold f_Decimal_limb
          rw [if_neg (nI_pos (by omega)), if_pos (show nI (207 - E / 9) < (208 : Int32) from nI_lt (b := 208) (by omega) (by decide)), ck_s (gin_nI (by omega) (by decide)), nI_clamp (by omega), ha3]
        have hml : lm V (207 - E / 9) % 10 ^ (E % 9) ≤ lm V (207 - E / 9) := Nat.mod_le _ _
        rw [hlimb, bi1_s, bi1_s, ck_s (nI_ne0 hu (by omega)), irm_nI (by omega) hu (by omega), show nI (lm V (207 - E / 9)) - nI (lm V (207 - E / 9) % 10 ^ (E % 9)) = nI (lm V (207 - E / 9) - lm V (207 - E / 9) % 10 ^ (E % 9)) from by
          rw [iI_nI, iI_nI, iI_sub, iI_nI]
          congr 1
          omega, setLimb_in (by omega) hl (by omega), bi3_s, Nat.min_eq_left (by omega), Nat.max_eq_left (by omega)]
        have hR' : Rw (upd a (207 - E / 9) (nI (lm V (207 - E / 9) - lm V (207 - E / 9) % 10 ^ (E % 9)))) (V - V % 10 ^ E) := by
          intro j hj
          unfold upd
          by_cases c : j = 207 - E / 9
          · rw [if_pos c, lm_cut hE hj, if_neg (by omega), if_pos c, c]
          · rw [if_neg c]; exact ha2 j hj c
        obtain ⟨F', L', -, -, ht, hT⟩ := trim_eq hR' (cut_zo hz' hE)
        exact ⟨F', L', _, by rw [ht]; rfl, hR', hT⟩
  | succ m ih =>
    intro k f a h hFk hik hk hf ha
    obtain ⟨f, rfl⟩ : ∃ j, f = j + 1 := ⟨f - 1, by omega⟩
    show ∃ F' L' a', f_Decimal_cutBelow_22b _ _ _ _ _ _ _ = _ ∧ _
    unfold f_Decimal_cutBelow_22b
    rw [if_neg (nI_nlt (by omega) (by omega)), setLimb_in (by omega) hl (by omega), bi3_s, Nat.min_eq_left hFk, Nat.max_eq_left (by omega), bd_s, nI_1]
    refine ih (k + 1) f _ (by omega) (by omega) (by omega) (by omega) (by omega) ?_
    intro j hj
    unfold upd
    by_cases c : j = k
    · rw [if_pos c, if_pos ⟨by omega, Or.inl (by omega)⟩]; rfl
    · rw [if_neg c, ha j hj]
      by_cases d : 207 - E / 9 < j ∧ (j < k ∨ L < j)
      · rw [if_pos d, if_pos ⟨d.1, by omega⟩]
      · rw [if_neg d, if_neg (by omega)]
theorem cutBelow_eq {F L V E : Nat} {a : Nat → Int32} (hR : Rw a V) (hz : Zo F L V) (hE : E < 1872) :
    ∃ F' L' a', f_Decimal_cutBelow (nI F) (nI L) a (iI ((E : Int) - 1548)) = some (nI F', nI L', a') ∧ Rw a' (V - V % 10 ^ E) ∧ Tr F' L' (V - V % 10 ^ E) := by
  have hz' := hz
  obtain ⟨h0, hl, h1, h2⟩ := hz
  unfold f_Decimal_cutBelow
  rw [unitOf_eq hE, bi1_s, limbOf_eq hE, bi1_s, nI_1, iI_nI (207 - E / 9 + 1), iI_nI F, imx_iI (by omega) (by omega) (by omega) (by omega), show max ((207 - E / 9 + 1 : Nat) : Int) (F : Int) = ((max (207 - E / 9 + 1) F : Nat) : Int) from by omega, ← iI_nI, ← iI_nI, bd_s]
  refine cut22 hz' hE (L + 1 - max (207 - E / 9 + 1) F) (max (207 - E / 9 + 1) F) fu a (by omega) (by omega) (by omega) (by omega) (by unfold fu; omega) ?_
  intro j hj
  rw [hR j hj]
  by_cases d : 207 - E / 9 < j ∧ (j < max (207 - E / 9 + 1) F ∨ L < j)
  · rw [if_pos d]
    congr 1
    rcases d with ⟨d1, d2 | d2⟩
    · exact lm_above h1 (by omega)
    · exact lm_below h2 d2 hj
  · rw [if_neg d]

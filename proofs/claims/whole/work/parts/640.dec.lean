theorem iI_ltk {x : Int} (y : Int) {c : Int32} (hc : c = iI y) (hx : -2147483648 ≤ x) (hx2 : x < 2147483648) (hy : -2147483648 ≤ y) (hy2 : y < 2147483648) : (iI x < c) = (x < y) := by subst hc; exact iI_lt hx hx2 hy hy2
theorem iI_lek {x : Int} (y : Int) {c : Int32} (hc : c = iI y) (hx : -2147483648 ≤ x) (hx2 : x < 2147483648) (hy : -2147483648 ≤ y) (hy2 : y < 2147483648) : (iI x ≤ c) = (x ≤ y) := by subst hc; exact iI_le hx hx2 hy hy2
theorem iI_kle {x : Int} (y : Int) {c : Int32} (hc : c = iI y) (hx : -2147483648 ≤ x) (hx2 : x < 2147483648) (hy : -2147483648 ≤ y) (hy2 : y < 2147483648) : (c ≤ iI x) = (y ≤ x) := by subst hc; exact iI_le hy hy2 hx hx2
theorem iI_klt {x : Int} (y : Int) {c : Int32} (hc : c = iI y) (hx : -2147483648 ≤ x) (hx2 : x < 2147483648) (hy : -2147483648 ≤ y) (hy2 : y < 2147483648) : (c < iI x) = (y < x) := by subst hc; exact iI_lt hy hy2 hx hx2
/-! decimals: limbs of nine digits; V is the number times 10^1548 -/
def PB (k : Nat) : Nat := 1000000000 ^ k
theorem PB_0 : PB 0 = 1 := rfl
theorem PB_s (k : Nat) : PB (k + 1) = PB k * 1000000000 := Nat.pow_succ _ _
theorem PB_pos (k : Nat) : 0 < PB k := Nat.pow_pos (by decide)
theorem PB_add (a b : Nat) : PB (a + b) = PB a * PB b := Nat.pow_add _ _ _
theorem PB_le {a b : Nat} (h : a ≤ b) : PB a ≤ PB b := Nat.pow_le_pow_right (by decide) h
theorem PB_dvd {a b : Nat} (h : a ≤ b) : PB a ∣ PB b := ⟨PB (b - a), by rw [← PB_add, show a + (b - a) = b from by omega]⟩
theorem PB_207 {j : Nat} (h : j < 208) : PB (208 - j) = PB (207 - j) * 1000000000 := by
  rw [← PB_s, show 207 - j + 1 = 208 - j from by omega]
def lm (V j : Nat) : Nat := V / PB (207 - j) % 1000000000
theorem lm_lt (V j : Nat) : lm V j < 1000000000 := Nat.mod_lt _ (by decide)
theorem lm_0 (j : Nat) : lm 0 j = 0 := by unfold lm; rw [Nat.zero_div]
def Rw (a : Nat → Int32) (V : Nat) : Prop := ∀ j, j < 208 → a j = nI (lm V j)
def Zo (F L V : Nat) : Prop := F ≤ L ∧ L < 208 ∧ V < PB (208 - F) ∧ PB (207 - L) ∣ V
def Tr (F L V : Nat) : Prop := Zo F L V ∧ (V = 0 → F = L) ∧ (V ≠ 0 → PB (207 - F) ≤ V ∧ ¬ PB (208 - L) ∣ V)
theorem lm_above {F j V : Nat} (h : V < PB (208 - F)) (hj : j < F) : lm V j = 0 := by
  unfold lm
  have := PB_le (show 208 - F ≤ 207 - j from by omega)
  rw [Nat.div_eq_of_lt (by omega)]
theorem lm_below {L j V : Nat} (h : PB (207 - L) ∣ V) (hj : L < j) (h2 : j < 208) : lm V j = 0 := by
  obtain ⟨c, rfl⟩ := h
  unfold lm
  rw [show 207 - L = (207 - j) + ((j - L - 1) + 1) from by omega, PB_add, PB_s, Nat.mul_assoc, Nat.mul_div_cancel_left _ (PB_pos _), Nat.mul_right_comm]
  exact Nat.mul_mod_left _ _
theorem lm_last {L V : Nat} (hL : L < 208) (h : PB (207 - L) ∣ V) : lm V L = 0 ↔ PB (208 - L) ∣ V := by
  obtain ⟨c, rfl⟩ := h
  have hp := PB_pos (207 - L)
  unfold lm
  rw [Nat.mul_div_cancel_left _ hp, PB_207 hL]
  constructor
  · intro q
    exact Nat.mul_dvd_mul_left _ (Nat.dvd_of_mod_eq_zero q)
  · intro q
    exact Nat.mod_eq_zero_of_dvd (Nat.dvd_of_mul_dvd_mul_left hp q)
theorem lm_first {F V : Nat} (hF : F < 208) (h : V < PB (208 - F)) : lm V F = V / PB (207 - F) := by
  unfold lm
  apply Nat.mod_eq_of_lt
  rw [PB_207 hF] at h
  exact Nat.div_lt_of_lt_mul h
theorem lm_first0 {F V : Nat} (hF : F < 208) (h : V < PB (208 - F)) : lm V F = 0 ↔ V < PB (207 - F) := by
  rw [lm_first hF h]
  exact Nat.div_eq_zero_iff_lt (PB_pos _)
theorem nI_eq0 {n : Nat} (h : n < 2147483648) : (nI n = 0) = (n = 0) := propext (nI_eq (b := 0) h (by decide))
theorem limb_in {a : Nat → Int32} {V i : Nat} (h : Rw a V) (hi : i < 208) : f_Decimal_limb a (nI i) = some (nI (lm V i)) := by
  unfold f_Decimal_limb
  rw [if_neg (nI_pos (by omega)), if_pos (show nI i < (208 : Int32) from nI_lt (b := 208) hi (by decide)), ck_s (gin_nI hi (by decide)), nI_clamp (by omega), h i hi]
theorem limb_out {a : Nat → Int32} {x : Int} (h : x < 0 ∨ 208 ≤ x) (h1 : -2147483648 ≤ x) (h2 : x < 2147483648) : f_Decimal_limb a (iI x) = some 0 := by
  unfold f_Decimal_limb f_Decimal_limb_13
  rw [ite_c (iI_ltk 0 (c := 0) (by decide) h1 h2 (by decide) (by decide)), ite_c (iI_ltk 208 (c := 208) (by decide) h1 h2 (by decide) (by decide))]
  by_cases c : x < 0
  · rw [if_pos c]
  · rw [if_neg c, if_neg (by omega)]
theorem setLimb_in {a : Nat → Int32} {F L i : Nat} (hF : F < 208) (hL : L < 208) (hi : i < 208) (v : Int32) : f_Decimal_setLimb (nI F) (nI L) a (nI i) v = some (nI (min F i), nI (max L i), upd a i v) := by
  unfold f_Decimal_setLimb f_Decimal_setLimb_34
  rw [if_neg (nI_pos (by omega)), if_pos (show nI i < (208 : Int32) from nI_lt (b := 208) hi (by decide)), ck_s (gin_nI hi (by decide)), nI_clamp (by omega), bd_s, ite_c (propext (nI_leI (a := F) (b := i) (by omega) (by omega)))]
  have e : ∀ x : Int32, (if nI i ≤ nI L then some (x, nI L, upd a i v) else some (x, nI i, upd a i v)) = some (x, nI (max L i), upd a i v) := by
    intro x
    rw [ite_c (propext (nI_leI (by omega) (by omega)))]
    by_cases d : i ≤ L
    · rw [if_pos d, Nat.max_eq_left d]
    · rw [if_neg d, Nat.max_eq_right (by omega)]
  rw [e, e]
  by_cases c : F ≤ i
  · rw [if_pos c, Nat.min_eq_left c]
  · rw [if_neg c, Nat.min_eq_right (by omega)]
theorem setLimb_out {a : Nat → Int32} {f l : Int32} {x : Int} (h : x < 0 ∨ 208 ≤ x) (h1 : -2147483648 ≤ x) (h2 : x < 2147483648) (v : Int32) : f_Decimal_setLimb f l a (iI x) v = some (f, l, a) := by
  unfold f_Decimal_setLimb
  rw [ite_c (iI_ltk 0 (c := 0) (by decide) h1 h2 (by decide) (by decide)), ite_c (iI_ltk 208 (c := 208) (by decide) h1 h2 (by decide) (by decide))]
  by_cases c : x < 0
  · rw [if_pos c]
  · rw [if_neg c, if_neg (by omega)]
theorem trim35 {a : Nat → Int32} {L V : Nat} (hR : Rw a V) : ∀ (m F f : Nat), F + m = L → m < f → Zo F L V → (F = L ∨ ¬ PB (208 - L) ∣ V) →
    ∃ F', F ≤ F' ∧ f_Decimal_trim_35 f (nI F) (nI L) a = some (nI F', nI L) ∧ Tr F' L V := by
  intro m
  induction m with
  | zero =>
    intro F f h hf hz hc
    obtain ⟨f, rfl⟩ : ∃ j, f = j + 1 := ⟨f - 1, by omega⟩
    have : F = L := by omega
    subst this
    refine ⟨F, Nat.le_refl _, ?_, hz, fun _ => rfl, ?_⟩
    · show f_Decimal_trim_35b _ _ _ _ = _
      unfold f_Decimal_trim_35b
      rw [if_pos (nI_le (Nat.le_refl _) (by have := hz.2.1; omega))]
    · intro h0
      obtain ⟨-, hl, h1, h2⟩ := hz
      refine ⟨Nat.le_of_dvd (by omega) h2, ?_⟩
      intro h3
      have := Nat.le_of_dvd (by omega) h3
      omega
  | succ m ih =>
    intro F f h hf hz hc
    obtain ⟨f, rfl⟩ : ∃ j, f = j + 1 := ⟨f - 1, by omega⟩
    obtain ⟨h0, hl, h1, h2⟩ := hz
    have hc : ¬ PB (208 - L) ∣ V := by
      rcases hc with c | c
      · omega
      · exact c
    have hlm := lm_lt V F
    show ∃ F', F ≤ F' ∧ f_Decimal_trim_35b _ _ _ _ = _ ∧ _
    unfold f_Decimal_trim_35b
    rw [if_neg (nI_ge (by omega) (by omega)), limb_in hR (by omega), bi1_s, ite_c (nI_eq0 (by omega))]
    by_cases c : lm V F = 0
    · rw [if_pos c, bd_s, nI_1]
      have hv := (lm_first0 (by omega) h1).mp c
      obtain ⟨F', hF', hr, ht⟩ := ih (F + 1) f (by omega) (by omega) ⟨by omega, hl, by rw [show 208 - (F + 1) = 207 - F from by omega]; exact hv, h2⟩ (Or.inr hc)
      exact ⟨F', by omega, hr, ht⟩
    · rw [if_neg c]
      refine ⟨F, Nat.le_refl _, rfl, ⟨h0, hl, h1, h2⟩, ?_, ?_⟩
      · intro z
        subst z
        exact absurd (lm_0 F) c
      · intro _
        refine ⟨?_, hc⟩
        have : ¬ V < PB (207 - F) := fun q => c ((lm_first0 (by omega) h1).mpr q)
        omega
theorem trim0 {a : Nat → Int32} {F V : Nat} (hR : Rw a V) : ∀ (m L f : Nat), F + m = L → m < f → Zo F L V →
    ∃ F' L', F ≤ F' ∧ L' ≤ L ∧ f_Decimal_trim_0 f (nI F) (nI L) a = some (nI F', nI L') ∧ Tr F' L' V := by
  intro m
  induction m with
  | zero =>
    intro L f h hf hz
    obtain ⟨f, rfl⟩ : ∃ j, f = j + 1 := ⟨f - 1, by omega⟩
    have : F = L := by omega
    subst this
    obtain ⟨F', hF', hr, ht⟩ := trim35 hR 0 F fu (by omega) (by decide) hz (Or.inl rfl)
    refine ⟨F', F, hF', Nat.le_refl _, ?_, ht⟩
    show f_Decimal_trim_0b _ _ _ _ = _
    unfold f_Decimal_trim_0b
    rw [if_pos (nI_le (Nat.le_refl _) (by have := hz.2.1; omega))]
    exact hr
  | succ m ih =>
    intro L f h hf hz
    obtain ⟨f, rfl⟩ : ∃ j, f = j + 1 := ⟨f - 1, by omega⟩
    have hz' := hz
    obtain ⟨h0, hl, h1, h2⟩ := hz
    have hlm := lm_lt V L
    show ∃ F' L', F ≤ F' ∧ L' ≤ L ∧ f_Decimal_trim_0b _ _ _ _ = _ ∧ _
    unfold f_Decimal_trim_0b
    rw [if_neg (nI_ge (by omega) (by omega)), limb_in hR (by omega), bi1_s, ite_c (nI_eq0 (by omega))]
    by_cases c : lm V L = 0
    · rw [if_pos c, bd_s, show L = (L - 1) + 1 from by omega, nI_pred]
      have hv := (lm_last hl h2).mp c
      obtain ⟨F', L', hF', hL', hr, ht⟩ := ih (L - 1) f (by omega) (by omega) ⟨by omega, by omega, h1, by rw [show 207 - (L - 1) = 208 - L from by omega]; exact hv⟩
      exact ⟨F', L', hF', by omega, hr, ht⟩
    · rw [if_neg c]
      obtain ⟨F', hF', hr, ht⟩ := trim35 hR (m + 1) F fu (by omega) (by unfold fu; omega) hz' (Or.inr (fun q => c ((lm_last hl h2).mpr q)))
      exact ⟨F', L, hF', Nat.le_refl _, hr, ht⟩
theorem trim_eq {a : Nat → Int32} {F L V : Nat} (hR : Rw a V) (hz : Zo F L V) : ∃ F' L', F ≤ F' ∧ L' ≤ L ∧ f_Decimal_trim (nI F) (nI L) a = some (nI F', nI L') ∧ Tr F' L' V := by
  have h1 := hz.1
  have h2 := hz.2.1
  exact trim0 hR (L - F) L fu (by omega) (by unfold fu; omega) hz
theorem clear5 {F L : Nat} (hFL : F ≤ L) (hL : L < 208) : ∀ (m i f : Nat) (a : Nat → Int32), F ≤ i → i + m = L + 1 → m < f → (∀ j, j < 208 → (i ≤ j ∧ j ≤ L) ∨ a j = 0) →
    ∃ a', f_Decimal_clear_5 f (nI F) (nI L) a (nI i) = some (35, 35, a') ∧ Rw a' 0 := by
  intro m
  induction m with
  | zero =>
    intro i f a hFi h hf hz
    obtain ⟨f, rfl⟩ : ∃ j, f = j + 1 := ⟨f - 1, by omega⟩
    refine ⟨a, ?_, ?_⟩
    · show f_Decimal_clear_5b _ _ _ _ _ = _
      unfold f_Decimal_clear_5b
      rw [if_pos (nI_lt (by omega) (by omega))]
      rfl
    · intro j hj
      rw [lm_0]
      rcases hz j hj with c | c
      · omega
      · exact c
  | succ m ih =>
    intro i f a hFi h hf hz
    obtain ⟨f, rfl⟩ : ∃ j, f = j + 1 := ⟨f - 1, by omega⟩
    show ∃ a', f_Decimal_clear_5b _ _ _ _ _ = _ ∧ _
    unfold f_Decimal_clear_5b
    rw [if_neg (nI_nlt (by omega) (by omega)), setLimb_in (by omega) hL (by omega), bi3_s, Nat.min_eq_left hFi, Nat.max_eq_left (by omega), bd_s, nI_1]
    refine ih (i + 1) f _ (by omega) (by omega) (by omega) ?_
    intro j hj
    unfold upd
    by_cases c : j = i
    · rw [if_pos c]; exact Or.inr rfl
    · rw [if_neg c]
      rcases hz j hj with d | d
      · exact Or.inl (by omega)
      · exact Or.inr d
theorem clear_eq {a : Nat → Int32} {F L V : Nat} (hR : Rw a V) (hz : Zo F L V) : ∃ a', f_Decimal_clear (nI F) (nI L) a = some (35, 35, a') ∧ Rw a' 0 := by
  obtain ⟨h0, hl, h1, h2⟩ := hz
  refine clear5 h0 hl (L + 1 - F) F fu a (Nat.le_refl _) (by omega) (by unfold fu; omega) ?_
  intro j hj
  by_cases c : F ≤ j ∧ j ≤ L
  · exact Or.inl c
  · refine Or.inr ?_
    rw [hR j hj]
    rcases Nat.lt_or_ge j F with d | d
    · rw [lm_above h1 d]; rfl
    · rw [lm_below h2 (by omega) hj]; rfl
theorem Zo_0 : Zo 35 35 0 := ⟨Nat.le_refl _, by decide, PB_pos _, Nat.dvd_zero _⟩
theorem Tr_0 : Tr 35 35 0 := ⟨Zo_0, fun _ => rfl, fun h => absurd rfl h⟩

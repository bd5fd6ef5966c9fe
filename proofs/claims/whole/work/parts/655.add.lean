/-! decimals: a digit added, the first two limbs before the point, the top place -/
theorem PB_div (X a b : Nat) : X / PB (a + b) = X / PB a / PB b := by rw [PB_add, Nat.div_div_eq_div_mul]
theorem add22 {V W : Nat} (hW : W < PB 208) : ∀ (i f n s Fc Lc : Nat) (a : Nat → Int32), i < 208 → n + i < 208 → i < f → Fc < 208 → Lc < 208 → V < PB (208 - Fc) → PB (207 - max Lc i) ∣ W → W / PB (207 - i) = V / PB (208 - i) * 1000000000 + s → s < 2000000000 → (∀ j, j < 208 → a j = nI (if i < j then lm W j else lm V j)) →
    ∃ F' L' a', f_Decimal_addAt_22 f (nI Fc) (nI Lc) a (nI i) (nI s) (nI n) = some (nI F', nI L', a') ∧ Rw a' W ∧ Tr F' L' W := by
  have key : ∀ (i s Fc Lc : Nat) (a : Nat → Int32), i < 208 → Fc < 208 → Lc < 208 → V < PB (208 - Fc) → PB (207 - max Lc i) ∣ W → W / PB (207 - i) = V / PB (208 - i) * 1000000000 + s → s < 1000000000 → (∀ j, j < 208 → a j = nI (if i < j then lm W j else lm V j)) →
      ∃ F' L' a', f_Decimal_addAt_65 (nI Fc) (nI Lc) a (nI i) (nI s) = some (nI F', nI L', a') ∧ Rw a' W ∧ Tr F' L' W := by
    intro i s Fc Lc a hi hF hL hV hd he hs ha
    unfold f_Decimal_addAt_65
    rw [setLimb_in hF hL hi, bi3_s]
    have e1 : W / PB (208 - i) = V / PB (208 - i) := by
      rw [show 208 - i = (207 - i) + 1 from by omega, PB_s, ← Nat.div_div_eq_div_mul, he, show 208 - i = (207 - i) + 1 from by omega, PB_s]
      generalize V / (PB (207 - i) * 1000000000) = X
      omega
    have hR : Rw (upd a i (nI s)) W := by
      intro j hj
      unfold upd
      by_cases c : j = i
      · rw [if_pos c, c, lm_of (k := 207 - i) rfl, he]
        congr 1
        generalize V / PB (208 - i) = X
        omega
      · rw [if_neg c, ha j hj]
        by_cases d : i < j
        · rw [if_pos d]
        · rw [if_neg d]
          unfold lm
          rw [show 207 - j = (208 - i) + (i - j - 1) from by omega, PB_div, PB_div, e1]
    have hz : Zo (min Fc i) (max Lc i) W := by
      refine ⟨by omega, by omega, ?_, hd⟩
      have h1 : V < PB (208 - min Fc i) := Nat.lt_of_lt_of_le hV (PB_le (by omega))
      have h2 : W / PB (208 - min Fc i) = V / PB (208 - min Fc i) := by
        rw [show 208 - min Fc i = (208 - i) + (i - min Fc i) from by omega, PB_div, PB_div, e1]
      rw [Nat.div_eq_of_lt h1] at h2
      exact (Nat.div_eq_zero_iff_lt (PB_pos _)).mp h2
    obtain ⟨F', L', -, -, ht, hT⟩ := trim_eq hR hz
    exact ⟨F', L', _, by rw [ht]; rfl, hR, hT⟩
  intro i
  induction i with
  | zero =>
    intro f n s Fc Lc a hi hn hf hF hL hV hd he hs ha
    obtain ⟨f, rfl⟩ : ∃ j, f = j + 1 := ⟨f - 1, by omega⟩
    have hs' : s < 1000000000 := by
      have h1 : W / PB 207 < 1000000000 := Nat.div_lt_of_lt_mul (by rw [← PB_s]; exact hW)
      rw [show 207 - 0 = 207 from rfl] at he
      generalize V / PB (208 - 0) = X at he
      omega
    show ∃ F' L' a', f_Decimal_addAt_22b _ _ _ _ _ _ _ = _ ∧ _
    unfold f_Decimal_addAt_22b
    rw [if_neg (show ¬ (208 : Int32) ≤ nI n from nI_ge (b := 208) (by omega) (by decide)), if_pos (show nI s < (1000000000 : Int32) from nI_lt (b := 1000000000) hs' (by decide))]
    exact key 0 s Fc Lc a hi hF hL hV hd he hs' ha
  | succ i ih =>
    intro f n s Fc Lc a hi hn hf hF hL hV hd he hs ha
    obtain ⟨f, rfl⟩ : ∃ j, f = j + 1 := ⟨f - 1, by omega⟩
    show ∃ F' L' a', f_Decimal_addAt_22b _ _ _ _ _ _ _ = _ ∧ _
    unfold f_Decimal_addAt_22b
    rw [if_neg (show ¬ (208 : Int32) ≤ nI n from nI_ge (b := 208) (by omega) (by decide))]
    by_cases hs' : s < 1000000000
    · rw [if_pos (show nI s < (1000000000 : Int32) from nI_lt (b := 1000000000) hs' (by decide))]
      exact key (i + 1) s Fc Lc a hi hF hL hV hd he hs' ha
    · have hl := lm_lt V i
      have hai : (upd a (i + 1) (nI (s - 1000000000))) i = nI (lm V i) := by
        unfold upd
        rw [if_neg (by omega), ha i (by omega), if_neg (by omega)]
      have hlimb : f_Decimal_limb (upd a (i + 1) (nI (s - 1000000000))) (nI i) = some (nI (lm V i)) := by
        unfold f_Decimal_limb
        rw [if_neg (nI_pos (by omega)), if_pos (show nI i < (208 : Int32) from nI_lt (b := 208) (by omega) (by decide)), ck_s (gin_nI (by omega) (by decide)), nI_clamp (by omega), hai]
      rw [if_neg (show ¬ nI s < (1000000000 : Int32) from nI_nlt (b := 1000000000) (by omega) (by omega)), show nI s - (1000000000 : Int32) = nI (s - 1000000000) from pk_sub (b := 1000000000) (by omega), setLimb_in hF hL hi, bi3_s, bd_s, show nI (i + 1) + (-1 : Int32) = nI i from by rw [sub_one _ (by omega), iI_nI]; congr 1; omega, hlimb, bi1_s, bd_s, bd_s, nI_1, nI_1]
      have e1 : W / PB (207 - i) = V / PB (207 - i) + 1 := by
        rw [show 207 - i = (207 - (i + 1)) + 1 from by omega, PB_s, ← Nat.div_div_eq_div_mul, he, show 208 - (i + 1) = (207 - (i + 1)) + 1 from by omega, PB_s]
        generalize V / (PB (207 - (i + 1)) * 1000000000) = X
        omega
      refine ih f (n + 1) (lm V i + 1) (min Fc (i + 1)) (max Lc (i + 1)) _ (by omega) (by omega) (by omega) (by omega) (by omega) (Nat.lt_of_lt_of_le hV (PB_le (by omega))) ?_ ?_ (by omega) ?_
      · rw [show max (max Lc (i + 1)) i = max Lc (i + 1) from by omega]; exact hd
      · rw [e1, show 208 - i = (207 - i) + 1 from by omega, PB_s, ← Nat.div_div_eq_div_mul]
        unfold lm
        generalize V / PB (207 - i) = X
        omega
      · intro j hj
        unfold upd
        by_cases c : j = i + 1
        · rw [if_pos c, if_pos (by omega), c, lm_of (k := 207 - (i + 1)) rfl, he]
          refine congrArg nI ?_
          generalize V / PB (208 - (i + 1)) = X
          omega
        · rw [if_neg c, ha j hj]
          by_cases d : i + 1 < j
          · rw [if_pos d, if_pos (by omega)]
          · rw [if_neg d, if_neg (by omega)]
theorem addAt_eq {a : Nat → Int32} {F L V E d : Nat} (hR : Rw a V) (hz : Zo F L V) (hE : E < 1872) (hd : d ≤ 9) (hV : V + d * 10 ^ E < PB 208) :
    ∃ F' L' a', f_Decimal_addAt (nI F) (nI L) a (iI ((E : Int) - 1548)) (nI d) = some (nI F', nI L', a') ∧ Rw a' (V + d * 10 ^ E) ∧ Tr F' L' (V + d * 10 ^ E) := by
  have h9 : E % 9 < 9 := Nat.mod_lt _ (by decide)
  have hu := ten_pos (E % 9)
  have hu2 := (tens_9 h9).1
  have hl := lm_lt V (207 - E / 9)
  obtain ⟨h0, hl2, h1, h2⟩ := hz
  have hdu : d * 10 ^ (E % 9) ≤ 9 * 100000000 := Nat.mul_le_mul hd hu2
  unfold f_Decimal_addAt
  rw [limbOf_eq hE, bi1_s, limb_in hR (by omega), bi1_s, unitOf_eq hE, bi1_s, bd_s, pk_mul, nI_add]
  refine add22 hV (207 - E / 9) fu 0 (lm V (207 - E / 9) + d * 10 ^ (E % 9)) F L a (by omega) (by omega) (by unfold fu; omega) (by omega) hl2 h1 ?_ ?_ (by omega) ?_
  · apply Nat.dvd_add
    · exact Nat.dvd_trans (PB_dvd (by omega)) h2
    · refine Nat.dvd_trans (PB_dvd (b := E / 9) (by omega)) ?_
      rw [ten_split E]
      exact Nat.dvd_trans (Nat.dvd_mul_right _ _) (Nat.dvd_mul_left _ d)
  · rw [show 207 - (207 - E / 9) = E / 9 from by omega, show 208 - (207 - E / 9) = E / 9 + 1 from by omega, lm_of (k := E / 9) (by omega), PB_s, ← Nat.div_div_eq_div_mul, ten_split E, show d * (PB (E / 9) * 10 ^ (E % 9)) = PB (E / 9) * (d * 10 ^ (E % 9)) from by rw [Nat.mul_left_comm], Nat.add_comm V, Nat.mul_add_div (PB_pos _)]
    generalize V / PB (E / 9) = X
    generalize d * 10 ^ (E % 9) = Y
    omega
  · intro j hj
    rw [hR j hj]
    by_cases c : 207 - E / 9 < j
    · rw [if_pos c]
      congr 1
      unfold lm
      have : 10 ^ E = PB (207 - j) * (1000000000 * (PB (E / 9 - (207 - j) - 1) * 10 ^ (E % 9))) := by
        rw [ten_split E, show E / 9 = (207 - j) + ((E / 9 - (207 - j) - 1) + 1) from by omega, PB_add, PB_s, show (207 - j) + ((E / 9 - (207 - j) - 1) + 1) - (207 - j) - 1 = E / 9 - (207 - j) - 1 from by omega]
        simp only [Nat.mul_assoc, Nat.mul_comm, Nat.mul_left_comm]
      rw [this, show d * (PB (207 - j) * (1000000000 * (PB (E / 9 - (207 - j) - 1) * 10 ^ (E % 9)))) = PB (207 - j) * (1000000000 * (d * (PB (E / 9 - (207 - j) - 1) * 10 ^ (E % 9)))) from by rw [Nat.mul_left_comm, Nat.mul_left_comm d 1000000000], Nat.add_comm V, Nat.mul_add_div (PB_pos _), Nat.mul_add_mod]
    · rw [if_neg c]
theorem addAt_low {a : Nat → Int32} {F L V d : Nat} {p : Int} (hR : Rw a V) (hz : Zo F L V) (hp : p < -1548) (hp2 : -300000 ≤ p) (hd : d ≤ 9) :
    ∃ F' L', F ≤ F' ∧ L' ≤ L ∧ f_Decimal_addAt (nI F) (nI L) a (iI p) (nI d) = some (nI F', nI L', a) ∧ Tr F' L' V := by
  obtain ⟨x, hx, hx2, hxe⟩ := limbOf_low hp hp2
  obtain ⟨u, hu, hu2, hue⟩ := unitOf_low hp2 (by omega)
  have hdu : d * u ≤ 9 * 100000000 := Nat.mul_le_mul hd hu2
  unfold f_Decimal_addAt
  rw [hxe, bi1_s, limb_out (Or.inr hx) (by omega) (by omega), bi1_s, hue, bi1_s, bd_s, pk_mul, show (0 : Int32) + nI (d * u) = nI (d * u) from by rw [show (0 : Int32) = nI 0 from rfl, nI_add, Nat.zero_add]]
  show ∃ F' L', F ≤ F' ∧ L' ≤ L ∧ f_Decimal_addAt_22b _ _ _ _ _ _ _ = _ ∧ _
  unfold f_Decimal_addAt_22b
  rw [if_neg (by decide), if_pos (show nI (d * u) < (1000000000 : Int32) from nI_lt (b := 1000000000) (by omega) (by decide))]
  unfold f_Decimal_addAt_65
  rw [setLimb_out (Or.inr hx) (by omega) (by omega), bi3_s]
  obtain ⟨F', L', q1, q2, ht, hT⟩ := trim_eq hR hz
  exact ⟨F', L', q1, q2, by rw [ht]; rfl, hT⟩
theorem units_eq {a : Nat → Int32} {V : Nat} (hR : Rw a V) : f_Decimal_units a = some (lN (V / PB 172 % 1000000000000000000)) := by
  unfold f_Decimal_units
  have h1 := lm_lt V 34
  have h2 := lm_lt V 35
  rw [show (34 : Int32) = nI 34 from rfl, limb_in hR (by decide), bi1_s, show (35 : Int32) = nI 35 from rfl, limb_in hR (by decide), bi1_s, nI_l (by omega), nI_l (by omega), show (1000000000 : Int64) = lN 1000000000 from rfl, lN_mul, lN_add]
  congr 2
  rw [lm_of (k := 173) rfl, lm_of (k := 172) rfl, show 173 = 172 + 1 from rfl, PB_s, ← Nat.div_div_eq_div_mul]
  generalize V / PB 172 = X
  omega
theorem top28 {a : Nat → Int32} {v : Int32} {t : Nat} (ht : t < 1000000000) : ∀ (m k f : Nat) (y : Int), k + m = 9 → m < f → 1 ≤ k → 10 ^ (k - 1) ≤ t →
    ∃ K : Nat, 10 ^ K ≤ t ∧ t < 10 ^ (K + 1) ∧ K < 9 ∧ f_Decimal_topPlace_28 f v a (iI y) (nI t) (nI k) = some (iI (y + K - (k - 1 : Nat))) := by
  intro m
  induction m with
  | zero =>
    intro k f y h hf hk ht2
    obtain ⟨f, rfl⟩ : ∃ j, f = j + 1 := ⟨f - 1, by omega⟩
    have : k = 9 := by omega
    subst this
    refine ⟨8, ht2, ht, by decide, ?_⟩
    show f_Decimal_topPlace_28b _ _ _ _ _ _ = _
    unfold f_Decimal_topPlace_28b
    rw [if_pos (by decide)]
    congr 2
    omega
  | succ m ih =>
    intro k f y h hf hk ht2
    obtain ⟨f, rfl⟩ : ∃ j, f = j + 1 := ⟨f - 1, by omega⟩
    have hk9 := (tens_9 (k := k) (by omega)).1
    show ∃ K : Nat, 10 ^ K ≤ t ∧ t < 10 ^ (K + 1) ∧ K < 9 ∧ f_Decimal_topPlace_28b _ _ _ _ _ _ = _
    unfold f_Decimal_topPlace_28b
    rw [if_neg (show ¬ (9 : Int32) ≤ nI k from nI_ge (b := 9) (by omega) (by decide)), ck_s (gin_nI (by omega) (by decide)), nI_clamp (by omega), TENS_eq _ (by omega), ite_c (propext (nI_ltI (by omega) (by omega)))]
    by_cases c : t < 10 ^ k
    · rw [if_pos c]
      refine ⟨k - 1, ht2, by rw [show k - 1 + 1 = k from by omega]; exact c, by omega, ?_⟩
      congr 2
      omega
    · rw [if_neg c, bd_s, bd_s, nI_1, show (1 : Int32) = iI 1 from by decide, iI_add]
      obtain ⟨K, h1, h2, h3, h4⟩ := ih (k + 1) f (y + 1) (by omega) (by omega) (by omega) (by rw [show k + 1 - 1 = k from rfl]; omega)
      refine ⟨K, h1, h2, h3, ?_⟩
      rw [h4]
      congr 2
      omega
theorem topPlace_eq {a : Nat → Int32} {F L V : Nat} (hR : Rw a V) (hT : Tr F L V) (h0 : V ≠ 0) : ∃ E : Nat, 10 ^ E ≤ V ∧ V < 10 ^ (E + 1) ∧ E < 1872 ∧ f_Decimal_topPlace (nI F) a = some (iI ((E : Int) - 1548)) := by
  obtain ⟨⟨h1, hl, h2, h3⟩, -, hn⟩ := hT
  obtain ⟨h4, -⟩ := hn h0
  have hF : F < 208 := by omega
  have hfirst := lm_first hF h2
  have hlm := lm_lt V F
  have hne : 0 < lm V F := by
    rw [hfirst]
    exact Nat.div_pos h4 (PB_pos _)
  unfold f_Decimal_topPlace
  rw [bd_s, limb_in hR hF, bi1_s, if_neg (nI_ne0 hne (by omega)), show (9 : Int32) * ((35 : Int32) - nI F) = iI (9 * (35 - (F : Int))) from by
    rw [iI_nI, show (35 : Int32) = iI 35 from by decide, iI_sub, show (9 : Int32) = iI 9 from by decide, iI_mul]]
  obtain ⟨K, k1, k2, k3, k4⟩ := top28 (a := a) (v := nI F) hlm 8 1 fu (9 * (35 - (F : Int))) rfl (by decide) (by decide) (by show 1 ≤ _; omega)
  refine ⟨9 * (207 - F) + K, ?_, ?_, by omega, ?_⟩
  · rw [Nat.pow_add, ← PB_ten]
    rw [hfirst] at k1
    calc PB (207 - F) * 10 ^ K ≤ PB (207 - F) * (V / PB (207 - F)) := Nat.mul_le_mul_left _ k1
      _ ≤ V := Nat.mul_div_le _ _
  · rw [show 9 * (207 - F) + K + 1 = 9 * (207 - F) + (K + 1) from rfl, Nat.pow_add, ← PB_ten, Nat.mul_comm]
    rw [hfirst] at k2
    exact (Nat.div_lt_iff_lt_mul (PB_pos _)).mp k2
  · rw [show (1 : Int32) = nI 1 from rfl, k4]
    congr 2
    omega
theorem topPlace_0 {a : Nat → Int32} {F L : Nat} (hR : Rw a 0) (hT : Tr F L 0) : f_Decimal_topPlace (nI F) a = some 0 := by
  obtain ⟨⟨h1, hl, h2, h3⟩, -, hn⟩ := hT
  unfold f_Decimal_topPlace
  rw [bd_s, limb_in hR (by omega), bi1_s, lm_0, if_pos (show nI 0 = 0 from rfl)]

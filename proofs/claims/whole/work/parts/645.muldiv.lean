/-! decimals: times and divided by powers of 2 -/
theorem mul_key (V M Q : Nat) (hQ : 0 < Q) : V * M / Q % 1000000000 = ((V / Q % 1000000000) * M + (V % Q) * M / Q) % 1000000000 ∧ (V % (Q * 1000000000)) * M / (Q * 1000000000) = ((V / Q % 1000000000) * M + (V % Q) * M / Q) / 1000000000 := by
  have e1 : V * M = Q * (V / Q * M) + V % Q * M := by
    rw [← Nat.mul_assoc, ← Nat.add_mul, Nat.div_add_mod]
  constructor
  · rw [e1, Nat.mul_add_div hQ]
    generalize V % Q * M / Q = c
    generalize V / Q = A
    have e2 : A * M + c = 1000000000 * (A / 1000000000 * M) + (A % 1000000000 * M + c) := by
      rw [← Nat.add_assoc, ← Nat.mul_assoc, ← Nat.add_mul, Nat.div_add_mod]
    rw [e2, Nat.mul_add_mod]
  · rw [Nat.mod_mul, ← Nat.div_div_eq_div_mul, Nat.add_mul, Nat.add_comm, Nat.mul_assoc, Nat.mul_add_div hQ]
theorem carry_lt (V M Q : Nat) (hQ : 0 < Q) (hM : 0 < M) : (V % Q) * M / Q < M := by
  rw [Nat.div_lt_iff_lt_mul hQ, Nat.mul_comm M Q]
  exact Nat.mul_lt_mul_of_pos_right (Nat.mod_lt _ hQ) hM
theorem lsl_nI {x b : Nat} (hx : x < 2147483648) (hb : b < 64) : lsl (nI x).toInt64 (nI b) = lN (x * 2 ^ b) := by
  rw [nI_lj hx, iI_nI, jJ_lsl _ hb, jJ_lN]
  rfl
theorem sub_one (i : Nat) (h : 1 ≤ i) : nI i + (-1 : Int32) = iI ((i : Int) - 1) := by
  rw [show (-1 : Int32) = iI (-1) from by decide, iI_nI, iI_add]
  congr 1
theorem mul8 {F L V b : Nat} (hF : F < 208) (hb : b ≤ 29) : ∀ (m f : Nat) (a : Nat → Int32) (c : Nat), F + m ≤ 208 → m < f → (∀ j, j < 208 → a j = nI (if F + m ≤ j then lm (V * 2 ^ b) j else lm V j)) → c = (V % PB (208 - F - m)) * 2 ^ b / PB (208 - F - m) →
    ∃ a', f_Decimal_multiply_8 f (nI F) (nI L) a (nI b) (lN c) (iI ((F : Int) + m - 1)) = f_Decimal_multiply_75 (nI F) (nI L) a' (lN ((V % PB (208 - F)) * 2 ^ b / PB (208 - F))) ∧ (∀ j, j < 208 → a' j = nI (if F ≤ j then lm (V * 2 ^ b) j else lm V j)) := by
  intro m
  induction m with
  | zero =>
    intro f a c hm hf ha hc
    obtain ⟨f, rfl⟩ : ∃ j, f = j + 1 := ⟨f - 1, by omega⟩
    refine ⟨a, ?_, ha⟩
    rw [hc]
    show f_Decimal_multiply_8b _ _ _ _ _ _ _ = _
    unfold f_Decimal_multiply_8b
    rw [iI_nI F, ite_c (iI_lt (x := (F : Int) + (0 : Nat) - 1) (y := F) (by omega) (by omega) (by omega) (by omega)), if_pos (by omega)]
    rfl
  | succ m ih =>
    intro f a c hm hf ha hc
    obtain ⟨f, rfl⟩ : ∃ j, f = j + 1 := ⟨f - 1, by omega⟩
    have hQ := PB_pos (208 - F - (m + 1))
    have hM : 0 < 2 ^ b := Nat.two_pow_pos b
    have hM2 : 2 ^ b ≤ 2 ^ 29 := Nat.pow_le_pow_right (by decide) hb
    obtain ⟨k1, k2⟩ := mul_key V (2 ^ b) (PB (208 - F - (m + 1))) hQ
    have hcl := carry_lt V (2 ^ b) (PB (208 - F - (m + 1))) hQ hM
    rw [← hc] at k1 k2 hcl
    have hi : (F : Int) + ((m + 1 : Nat) : Int) - 1 = ((F + m : Nat) : Int) := by omega
    have hlm : V / PB (208 - F - (m + 1)) % 1000000000 = lm V (F + m) := by
      unfold lm; rw [show 208 - F - (m + 1) = 207 - (F + m) from by omega]
    have hlm2 : V * 2 ^ b / PB (208 - F - (m + 1)) % 1000000000 = lm (V * 2 ^ b) (F + m) := by
      unfold lm; rw [show 208 - F - (m + 1) = 207 - (F + m) from by omega]
    rw [hlm] at k1 k2
    rw [hlm2] at k1
    have hl := lm_lt V (F + m)
    have hprod : lm V (F + m) * 2 ^ b ≤ 999999999 * 2 ^ 29 := Nat.mul_le_mul (by omega) hM2
    have hai : a (F + m) = nI (lm V (F + m)) := by
      rw [ha (F + m) (by omega), if_neg (by omega)]
    show ∃ a', f_Decimal_multiply_8b _ _ _ _ _ _ _ = _ ∧ _
    unfold f_Decimal_multiply_8b
    rw [hi, ← iI_nI, if_neg (nI_nlt (by omega) (by omega)), if_neg (nI_pos (by omega)), if_neg (show ¬ (208 : Int32) ≤ nI (F + m) from nI_ge (b := 208) (by omega) (by decide)), ck_s (gin_nI (by omega) (by decide)), bd_s, bd_s, ck_s (gin_nI (by omega) (by decide)), bd_s, nI_clamp (by omega), hai, lsl_nI (by omega) (by omega), lN_add, show (1000000000 : Int64) = lN 1000000000 from rfl, pk_lDiv (by omega) (by decide) (by decide), lN_mul, lN_sub (Nat.div_mul_le_self _ _), lN_i]
    generalize hS : lm V (F + m) * 2 ^ b + c = S at k1 k2 ⊢
    have hmod : S - S / 1000000000 * 1000000000 = lm (V * 2 ^ b) (F + m) := by rw [k1]; omega
    rw [hmod, show nI (F + m) + (-1 : Int32) = iI ((F : Int) + m - 1) from by
      rw [show (-1 : Int32) = iI (-1) from by decide, iI_nI, iI_add]
      congr 1
      , bd_s]
    refine ih f _ _ (by omega) (by omega) ?_ ?_
    · intro j hj
      unfold upd
      by_cases d : j = F + m
      · rw [if_pos d, if_pos (by omega), d]
      · rw [if_neg d, ha j hj]
        by_cases d2 : F + (m + 1) ≤ j
        · rw [if_pos d2, if_pos (by omega)]
        · rw [if_neg d2, if_neg (by omega)]
    · rw [show 208 - F - m = (208 - F - (m + 1)) + 1 from by omega, PB_s, k2]
theorem lm_of {V j k : Nat} (h : 207 - j = k) : lm V j = V / PB k % 1000000000 := by rw [← h]; rfl
theorem multiply_eq {F L V b : Nat} {a : Nat → Int32} (hb : b ≤ 29) (hR : Rw a V) (hz : Zo F L V) (hV : V * 2 ^ b < PB 208) :
    ∃ F' L' a', f_Decimal_multiply (nI F) (nI L) a (nI b) = some (nI F', nI L', a') ∧ Rw a' (V * 2 ^ b) ∧ Tr F' L' (V * 2 ^ b) := by
  obtain ⟨h0, hl, h1, h2⟩ := hz
  have hd : PB (207 - L) ∣ V * 2 ^ b := Nat.dvd_trans h2 (Nat.dvd_mul_right _ _)
  obtain ⟨a', he, ha'⟩ := mul8 (F := F) (L := L) (V := V) (b := b) (by omega) hb (L + 1 - F) fu a 0 (by omega) (by unfold fu; omega) (by
    intro j hj
    rw [hR j hj]
    by_cases c : F + (L + 1 - F) ≤ j
    · rw [if_pos c, lm_below h2 (by omega) hj, lm_below hd (by omega) hj]
    · rw [if_neg c]) (by
    rw [show 208 - F - (L + 1 - F) = 207 - L from by omega, Nat.mod_eq_zero_of_dvd h2, Nat.zero_mul, Nat.zero_div])
  have hM : 0 < 2 ^ b := Nat.two_pow_pos b
  have hM2 : 2 ^ b ≤ 2 ^ 29 := Nat.pow_le_pow_right (by decide) hb
  have hcl := carry_lt V (2 ^ b) (PB (208 - F)) (PB_pos _) hM
  rw [Nat.mod_eq_of_lt h1] at he hcl
  have hx : (F : Int) + ((L + 1 - F : Nat) : Int) - 1 = ((L : Nat) : Int) := by omega
  rw [hx, ← iI_nI] at he
  have hstart : f_Decimal_multiply (nI F) (nI L) a (nI b) = f_Decimal_multiply_75 (nI F) (nI L) a' (lN (V * 2 ^ b / PB (208 - F))) := he
  rw [hstart]
  unfold f_Decimal_multiply_75 f_Decimal_multiply_93
  rw [ite_c (lN_le0 (by omega))]
  by_cases c : V * 2 ^ b / PB (208 - F) = 0
  · rw [if_pos c]
    have hlt := (Nat.div_eq_zero_iff_lt (PB_pos _)).mp c
    have hR' : Rw a' (V * 2 ^ b) := by
      intro j hj
      rw [ha' j hj]
      by_cases d : F ≤ j
      · rw [if_pos d]
      · rw [if_neg d, lm_above h1 (by omega), lm_above hlt (by omega)]
    obtain ⟨F', L', -, -, ht, hT⟩ := trim_eq hR' ⟨h0, hl, hlt, hd⟩
    exact ⟨F', L', a', by rw [ht]; rfl, hR', hT⟩
  · rw [if_neg c]
    have hF1 : 1 ≤ F := by
      rcases Nat.eq_zero_or_pos F with q | q
      · exfalso
        apply c
        rw [q]
        exact Nat.div_eq_of_lt hV
      · exact q
    have hlt : V * 2 ^ b < PB (208 - (F - 1)) := by
      rw [show 208 - (F - 1) = 208 - F + 1 from by omega, PB_s]
      have : V * 2 ^ b / PB (208 - F) < 1000000000 := by omega
      rw [Nat.mul_comm (PB (208 - F))]
      exact (Nat.div_lt_iff_lt_mul (PB_pos _)).mp this
    have hcar : lm (V * 2 ^ b) (F - 1) = V * 2 ^ b / PB (208 - F) := by
      rw [lm_of (k := 208 - F) (by omega)]
      exact Nat.mod_eq_of_lt (by omega)
    rw [show nI F - (1 : Int32) = nI (F - 1) from by
      have := nI_pred (F - 1)
      rw [show F - 1 + 1 = F from by omega] at this
      exact this, lN_i, setLimb_in (by omega) hl (by omega), bi3_s, Nat.min_eq_right (by omega), Nat.max_eq_left (by omega)]
    have hR' : Rw (upd a' (F - 1) (nI (V * 2 ^ b / PB (208 - F)))) (V * 2 ^ b) := by
      intro j hj
      unfold upd
      by_cases d : j = F - 1
      · rw [if_pos d, d, hcar]
      · rw [if_neg d, ha' j hj]
        by_cases d2 : F ≤ j
        · rw [if_pos d2]
        · rw [if_neg d2, lm_above h1 (by omega), lm_above hlt (by omega)]
    obtain ⟨F', L', -, -, ht, hT⟩ := trim_eq hR' ⟨by omega, hl, hlt, hd⟩
    exact ⟨F', L', _, by rw [ht]; rfl, hR', hT⟩
theorem div_key (V M Q : Nat) (hM : 0 < M) :
    ((V / (Q * 1000000000)) % M * 1000000000 + V / Q % 1000000000) / M = V / M / Q % 1000000000 ∧ ((V / (Q * 1000000000)) % M * 1000000000 + V / Q % 1000000000) % M = V / Q % M := by
  have e0 : V / M / Q = V / Q / M := by rw [Nat.div_div_eq_div_mul, Nat.div_div_eq_div_mul, Nat.mul_comm]
  rw [← Nat.div_div_eq_div_mul, e0]
  generalize V / Q = X
  have e1 : X = M * (X / 1000000000 / M * 1000000000) + (X / 1000000000 % M * 1000000000 + X % 1000000000) := by
    have a1 := Nat.div_add_mod (X / 1000000000) M
    have a2 := Nat.div_add_mod X 1000000000
    rw [← Nat.add_assoc, ← Nat.mul_assoc, ← Nat.add_mul, a1]
    omega
  have hlt : X / 1000000000 % M * 1000000000 + X % 1000000000 < M * 1000000000 := by
    have b1 : X / 1000000000 % M < M := Nat.mod_lt _ hM
    omega
  generalize X / 1000000000 % M * 1000000000 + X % 1000000000 = S at e1 hlt
  generalize X / 1000000000 / M = D at e1
  subst e1
  constructor
  · rw [Nat.mul_add_div hM, Nat.add_comm, Nat.add_mul_mod_self_right]
    rw [Nat.mod_eq_of_lt ((Nat.div_lt_iff_lt_mul hM).mpr (by omega))]
  · rw [Nat.mul_add_mod]
theorem div15 {F L V b : Nat} (hFL : F ≤ L) (hL : L < 208) (hd : PB (207 - L) ∣ V) (h1 : V < PB (208 - F)) (hb : b ≤ 30) : ∀ (m i f : Nat) (a : Nat → Int32), i + m = 208 → F ≤ i → m < f → (∀ j, j < 208 → a j = nI (if j < i then lm (V / 2 ^ b) j else lm V j)) →
    ∃ F' L' a', f_Decimal_divide_15 f (nI F) (nI L) a (nI b) (jJ ((2 ^ b - 1 : Nat) : Int)) (lN (V / PB (208 - i) % 2 ^ b)) (nI i) = some (nI F', nI L', a') ∧ Rw a' (V / 2 ^ b) ∧ Tr F' L' (V / 2 ^ b) := by
  have hM : 0 < 2 ^ b := Nat.two_pow_pos b
  have hM2 : 2 ^ b ≤ 2 ^ 30 := Nat.pow_le_pow_right (by decide) hb
  have hvle : V / 2 ^ b ≤ V := Nat.div_le_self _ _
  have fin : ∀ (i : Nat) (a : Nat → Int32), 1 ≤ i → i ≤ 208 → (∀ j, j < 208 → a j = nI (if j < i then lm (V / 2 ^ b) j else lm V j)) → (i = 208 ∨ (L < i ∧ V / PB (208 - i) % 2 ^ b = 0)) →
      ∃ F' L' a', f_Decimal_divide_87 (nI F) (nI L) a (nI i) = some (nI F', nI L', a') ∧ Rw a' (V / 2 ^ b) ∧ Tr F' L' (V / 2 ^ b) := by
    intro i a hi hi2 ha hc
    have hdv : PB (208 - i) ∣ V / 2 ^ b := by
      rcases hc with c | ⟨c, c2⟩
      · rw [c]; exact Nat.one_dvd _
      · have : PB (208 - i) ∣ V := Nat.dvd_trans (PB_dvd (by omega)) hd
        obtain ⟨A, hA⟩ := this
        rw [hA, Nat.mul_div_cancel_left _ (PB_pos _)] at c2
        obtain ⟨A', hA'⟩ := Nat.dvd_of_mod_eq_zero c2
        refine ⟨A', ?_⟩
        rw [hA, hA', Nat.mul_left_comm, Nat.mul_div_cancel_left _ hM]
    have hLi : L ≤ i - 1 := by omega
    have hR' : Rw a (V / 2 ^ b) := by
      intro j hj
      rw [ha j hj]
      by_cases d : j < i
      · rw [if_pos d]
      · rw [if_neg d]
        have hdV : PB (207 - L) ∣ V := hd
        rw [lm_below hd (by omega) hj, lm_below (L := i - 1) (by rw [show 207 - (i - 1) = 208 - i from by omega]; exact hdv) (by omega) hj]
    unfold f_Decimal_divide_87
    rw [show nI i - (1 : Int32) = nI (i - 1) from by
      have := nI_pred (i - 1)
      rw [show i - 1 + 1 = i from by omega] at this
      exact this, iI_nI L, iI_nI (i - 1), imx_iI (by omega) (by omega) (by omega) (by omega), show max (L : Int) ((i - 1 : Nat) : Int) = ((i - 1 : Nat) : Int) from by omega, ← iI_nI, bd_s]
    obtain ⟨F', L', -, -, ht, hT⟩ := trim_eq (F := F) (L := i - 1) hR' ⟨by omega, by omega, by omega, by rw [show 207 - (i - 1) = 208 - i from by omega]; exact hdv⟩
    exact ⟨F', L', a, by rw [ht]; rfl, hR', hT⟩
  intro m
  induction m with
  | zero =>
    intro i f a h hFi hf ha
    obtain ⟨f, rfl⟩ : ∃ j, f = j + 1 := ⟨f - 1, by omega⟩
    show ∃ F' L' a', f_Decimal_divide_15b _ _ _ _ _ _ _ _ = _ ∧ _
    unfold f_Decimal_divide_15b
    rw [if_neg (nI_pos (by omega)), if_pos (show (208 : Int32) ≤ nI i from nI_le (a := 208) (by omega) (by omega))]
    exact fin i a (by omega) (by omega) ha (Or.inl (by omega))
  | succ m ih =>
    intro i f a h hFi hf ha
    obtain ⟨f, rfl⟩ : ∃ j, f = j + 1 := ⟨f - 1, by omega⟩
    have hmod : V / PB (208 - i) % 2 ^ b < 2 ^ b := Nat.mod_lt _ hM
    have hstep : ∃ F' L' a', f_Decimal_divide_46 (f_Decimal_divide_15 f) (nI F) (nI L) a (nI b) (jJ ((2 ^ b - 1 : Nat) : Int)) (lN (V / PB (208 - i) % 2 ^ b)) (nI i) = some (nI F', nI L', a') ∧ Rw a' (V / 2 ^ b) ∧ Tr F' L' (V / 2 ^ b) := by
      obtain ⟨k1, k2⟩ := div_key V (2 ^ b) (PB (207 - i)) hM
      rw [← PB_207 (by omega)] at k1 k2
      have hl := lm_lt V i
      rw [show V / PB (207 - i) % 1000000000 = lm V i from rfl, show V / 2 ^ b / PB (207 - i) % 1000000000 = lm (V / 2 ^ b) i from rfl] at k1
      rw [show V / PB (207 - i) % 1000000000 = lm V i from rfl] at k2
      have hai : a i = nI (lm V i) := by
        rw [ha i (by omega), if_neg (by omega)]
      unfold f_Decimal_divide_46
      rw [ck_s (gin_nI (by omega) (by decide)), bd_s, ck_s (gin_nI (by omega) (by decide)), bd_s, nI_clamp (by omega), hai, nI_l (by omega), show (1000000000 : Int64) = lN 1000000000 from rfl, lN_mul, lN_add]
      generalize hS : V / PB (208 - i) % 2 ^ b * 1000000000 + lm V i = S at k1 k2 ⊢
      have hSlt : S < 18446744073709551616 := by omega
      rw [show lus (lN S) (nI b) = lN (S / 2 ^ b) from by rw [jJ_lN, iI_nI, jJ_lus hSlt (by omega), ← jJ_lN], lN_i, k1, show lN S &&& jJ ((2 ^ b - 1 : Nat) : Int) = lN (S % 2 ^ b) from by rw [jJ_lN, jJ_mask _ b (by omega), jJ_lN]; rfl, k2, bd_s, nI_1, bd_s]
      have := ih (i + 1) f (upd a i (nI (lm (V / 2 ^ b) i))) (by omega) (by omega) (by omega) (by
        intro j hj
        unfold upd
        by_cases d : j = i
        · rw [if_pos d, if_pos (by omega), d]
        · rw [if_neg d, ha j hj]
          by_cases d2 : j < i
          · rw [if_pos d2, if_pos (by omega)]
          · rw [if_neg d2, if_neg (by omega)])
      rw [show 208 - (i + 1) = 207 - i from by omega] at this
      exact this
    show ∃ F' L' a', f_Decimal_divide_15b _ _ _ _ _ _ _ _ = _ ∧ _
    unfold f_Decimal_divide_15b
    rw [if_neg (nI_pos (by omega)), if_neg (show ¬ (208 : Int32) ≤ nI i from nI_ge (b := 208) (by omega) (by decide)), ite_c (propext (nI_leI (by omega) (by omega))), ite_c (lN_le0 (by omega))]
    by_cases c : i ≤ L
    · rw [if_pos c]; exact hstep
    · rw [if_neg c]
      by_cases c2 : V / PB (208 - i) % 2 ^ b = 0
      · rw [if_pos c2]
        exact fin i a (by omega) (by omega) ha (Or.inr ⟨by omega, c2⟩)
      · rw [if_neg c2]; exact hstep
theorem divide_eq {F L V b : Nat} {a : Nat → Int32} (hb : b ≤ 30) (hR : Rw a V) (hz : Zo F L V) :
    ∃ F' L' a', f_Decimal_divide (nI F) (nI L) a (nI b) = some (nI F', nI L', a') ∧ Rw a' (V / 2 ^ b) ∧ Tr F' L' (V / 2 ^ b) := by
  obtain ⟨h0, hl, h1, h2⟩ := hz
  have hM : 0 < 2 ^ b := Nat.two_pow_pos b
  have hvle : V / 2 ^ b ≤ V := Nat.div_le_self _ _
  have hm : lsl (1 : Int64) (nI b) - (1 : Int64) = jJ ((2 ^ b - 1 : Nat) : Int) := by
    rw [show (1 : Int64) = jJ 1 from by decide, iI_nI, jJ_lsl 1 (by omega), jJ_sub]
    congr 1
    omega
  have key := div15 (b := b) h0 hl h2 h1 hb (208 - F) F fu a (by omega) (Nat.le_refl _) (by unfold fu; omega) (by
    intro j hj
    rw [hR j hj]
    by_cases d : j < F
    · rw [if_pos d, lm_above h1 d, lm_above (show V / 2 ^ b < PB (208 - F) from by omega) d]
    · rw [if_neg d])
  rw [Nat.div_eq_of_lt h1, Nat.zero_mod] at key
  unfold f_Decimal_divide
  rw [hm, bd_s]
  exact key

/-! decimals: rounding at a place; products m * 2^e -/
theorem bz_f (x : Bool) : (bz x = 0) = (x = false) := by cases x <;> decide
/-- half to even at 10^E -/
def ru (V E : Nat) : Bool := decide (10 ^ E < 2 * (V % 10 ^ E) ∨ (10 ^ E = 2 * (V % 10 ^ E) ∧ V / 10 ^ E % 2 = 1))
def rdE (V E : Nat) : Nat := V - V % 10 ^ E + (if ru V E then 1 else 0) * 10 ^ E
theorem dg_split (V E : Nat) : V % 10 ^ (E + 1) = dg V E * 10 ^ E + V % 10 ^ E := by
  unfold dg
  rw [Nat.pow_succ, Nat.mod_mul, Nat.mul_comm (10 ^ E)]
  omega
theorem roundsUpAt_eq {a : Nat → Int32} {F L V E : Nat} (hR : Rw a V) (hT : Tr F L V) (h1 : 1 ≤ E) (hE : E < 1872) : f_Decimal_roundsUpAt (nI L) a (iI ((E : Int) - 1548)) = some (bz (ru V E)) := by
  obtain ⟨E, rfl⟩ : ∃ j, E = j + 1 := ⟨E - 1, by omega⟩
  unfold f_Decimal_roundsUpAt f_Decimal_roundsUpAt_45
  have hd := dg_lt V E
  have hd2 := dg_lt V (E + 1)
  have hp := ten_pos E
  have hs := dg_split V E
  have hr : V % 10 ^ E < 10 ^ E := Nat.mod_lt _ hp
  have hb := hasBelow_eq hR hT (E := E) (by omega)
  have hpar : V / 10 ^ (E + 1) % 2 = dg V (E + 1) % 2 := by
    unfold dg
    generalize V / 10 ^ (E + 1) = X
    omega
  rw [show (1 : Int32) = iI 1 from by decide, iI_sub, show ((E + 1 : Nat) : Int) - 1548 - 1 = (E : Int) - 1548 from by omega, digit_eq hR (by omega), bi1_s, show (5 : Int32) = nI 5 from rfl, ite_c (propext (nI_eq (by omega) (by decide)))]
  unfold ru
  rw [hs, hpar, Nat.pow_succ]
  generalize V % 10 ^ E = r at hr hs hb
  generalize 10 ^ E = x at hp hr hs
  have hx : dg V E * x = x * dg V E := Nat.mul_comm _ _
  by_cases c : dg V E = 5
  · rw [if_pos c, hb, bi1_s, ite_c (bz_f _), c]
    by_cases d : r = 0
    · rw [if_pos (by simp [d]), digit_eq hR hE, bi1_s, show (2 : Int32) = nI 2 from rfl, irm_nI (by omega) (by decide) (by decide), ite_c (show (nI (dg V (E + 1) % 2) = iI 1) = (dg V (E + 1) % 2 = 1) from propext (nI_eq (b := 1) (by omega) (by decide)))]
      by_cases o : dg V (E + 1) % 2 = 1
      · rw [if_pos o, decide_eq_true (Or.inr ⟨by omega, o⟩)]; rfl
      · rw [if_neg o, decide_eq_false (by omega)]; rfl
    · rw [if_neg (by simp [d]), decide_eq_true (Or.inl (by omega))]; rfl
  · rw [if_neg c, ite_c (propext (nI_leI (by omega) (by decide)))]
    by_cases d : dg V E ≤ 5
    · rw [if_pos d, decide_eq_false]
      · rfl
      · have : x * dg V E ≤ x * 4 := Nat.mul_le_mul_left _ (by omega)
        omega
    · rw [if_neg d, decide_eq_true]
      · rfl
      · have : x * 6 ≤ x * dg V E := Nat.mul_le_mul_left _ (by omega)
        omega
theorem roundAt_eq {a : Nat → Int32} {F L V E : Nat} (hR : Rw a V) (hT : Tr F L V) (h1 : 1 ≤ E) (hE : E < 1872) (hV : rdE V E < PB 208) :
    ∃ F' L' a', f_Decimal_roundAt (nI F) (nI L) a (iI ((E : Int) - 1548)) = some (nI F', nI L', a') ∧ Rw a' (rdE V E) ∧ Tr F' L' (rdE V E) := by
  unfold f_Decimal_roundAt
  obtain ⟨F1, L1, a1, e1, r1, t1⟩ := cutBelow_eq hR hT.1 hE
  rw [roundsUpAt_eq hR hT h1 hE, bi1_s, e1, bi3_s, ite_c (bz_f _)]
  unfold rdE at hV ⊢
  by_cases c : ru V E = false
  · rw [if_pos c, c]
    rw [if_neg (by decide), Nat.zero_mul, Nat.add_zero]
    exact ⟨F1, L1, a1, rfl, r1, t1⟩
  · rw [if_neg c]
    have c : ru V E = true := by cases h : ru V E <;> simp_all
    rw [c, if_pos rfl] at hV ⊢
    obtain ⟨F2, L2, a2, e2, r2, t2⟩ := addAt_eq r1 t1.1 hE (d := 1) (by decide) hV
    rw [show (1 : Int32) = nI 1 from rfl, e2, bi3_s]
    exact ⟨F2, L2, a2, rfl, r2, t2⟩
/-- the limbs down to one of them -/
theorem lm_keep {V k : Nat} (hk : k < 208) {j : Nat} (hj : j < 208) : lm (V - V % PB k) j = (if j ≤ 207 - k then lm V j else 0) := by
  have h := lm_cut (V := V) (E := 9 * k) (by omega) hj
  rw [← PB_ten, show 9 * k / 9 = k from by omega, show 9 * k % 9 = 0 from by omega] at h
  rw [h]
  by_cases c : j < 207 - k
  · rw [if_pos c, if_pos (by omega)]
  · rw [if_neg c]
    by_cases d : j = 207 - k
    · rw [if_pos d, if_pos (by omega), Nat.pow_zero, Nat.mod_one, Nat.sub_zero]
    · rw [if_neg d, if_neg (by omega)]
theorem keep_cut (V k E : Nat) (hk : k ≤ E / 9) : (V - V % PB k) - (V - V % PB k) % 10 ^ E = V - V % 10 ^ E := by
  have e0 : ∀ (X c : Nat), X - X % c = c * (X / c) := by
    intro X c
    have := Nat.div_add_mod X c
    omega
  rw [e0 _ (10 ^ E), e0 V (10 ^ E), e0 V (PB k)]
  congr 1
  have : 10 ^ E = PB k * 10 ^ (E - 9 * k) := by
    rw [PB_ten, ← Nat.pow_add]
    congr 1
    omega
  rw [this, ← Nat.div_div_eq_div_mul, ← Nat.div_div_eq_div_mul, Nat.mul_div_cancel_left _ (PB_pos k)]
theorem setRounded9 {a2 : Nat → Int32} {F2 L2 V E : Nat} (hR : Rw a2 V) (hT : Tr F2 L2 V) (h1 : 1 ≤ E) (hE : E < 1872) (hV : rdE V E < PB 208) : ∀ (m i f Fc Lc : Nat) (a : Nat → Int32), i + m = 208 - E / 9 ∨ (m = 0 ∧ 208 - E / 9 ≤ i) → m < f → i < 209 → Fc < 208 → Lc < 208 → Fc ≤ 35 → 35 ≤ Lc → F2 ≤ i → (Fc ≤ F2 ∨ i = F2) → (i = F2 ∨ i ≤ Lc + 1) → (∀ j, j < 208 → a j = nI (if j < i ∧ j < 208 - E / 9 then lm V j else 0)) →
    ∃ F' L' a', f_Decimal_setRounded_9 f (nI Fc) (nI Lc) a (nI F2) (nI L2) a2 (iI ((E : Int) - 1548)) (nI i) = some (nI F', nI L', a') ∧ Rw a' (rdE V E) ∧ Tr F' L' (rdE V E) := by
  obtain ⟨⟨g1, gl, g2, g3⟩, -, -⟩ := id hT
  intro m
  induction m with
  | zero =>
    intro i f Fc Lc a h hf hi hFc hLc hF35 hL35 hFi hA hB ha
    obtain ⟨f, rfl⟩ : ∃ j, f = j + 1 := ⟨f - 1, by omega⟩
    show ∃ F' L' a', f_Decimal_setRounded_9b _ _ _ _ _ _ _ _ _ = _ ∧ _
    unfold f_Decimal_setRounded_9b
    rw [limbOf_eq hE, bi1_s, if_pos (nI_lt (by omega) (by omega))]
    have hi2 : 208 - E / 9 ≤ i := by omega
    have hR1 : Rw a (V - V % PB (E / 9)) := by
      intro j hj
      rw [ha j hj, lm_keep (by omega) hj]
      by_cases c : j ≤ 207 - E / 9
      · rw [if_pos c, if_pos (by omega)]
      · rw [if_neg c, if_neg (by omega)]
    have hz1 : Zo Fc Lc (V - V % PB (E / 9)) := by
      refine ⟨by omega, hLc, ?_, ?_⟩
      · rcases hA with c | c
        · have := PB_le (show 208 - F2 ≤ 208 - Fc from by omega)
          omega
        · have hp := PB_pos (208 - Fc)
          have : V < PB (E / 9) := Nat.lt_of_lt_of_le g2 (PB_le (by omega))
          rw [Nat.mod_eq_of_lt this]
          omega
      · have e0 : V - V % PB (E / 9) = PB (E / 9) * (V / PB (E / 9)) := by
          have := Nat.div_add_mod V (PB (E / 9))
          omega
        rcases hB with c | c
        · have : V < PB (E / 9) := Nat.lt_of_lt_of_le g2 (PB_le (by omega))
          rw [Nat.mod_eq_of_lt this, Nat.sub_self]
          exact Nat.dvd_zero _
        · rw [e0]
          exact Nat.dvd_trans (PB_dvd (by omega)) (Nat.dvd_mul_right _ _)
    obtain ⟨F1, L1, a1, e1, r1, t1⟩ := cutBelow_eq hR1 hz1 hE
    rw [keep_cut _ _ _ (Nat.le_refl _)] at r1 t1
    unfold f_Decimal_setRounded_33
    rw [e1, bi3_s, roundsUpAt_eq hR hT h1 hE, bi1_s, ite_c (bz_f _)]
    unfold rdE at hV ⊢
    by_cases c : ru V E = false
    · rw [if_pos c, c]
      rw [if_neg (by decide), Nat.zero_mul, Nat.add_zero]
      exact ⟨F1, L1, a1, rfl, r1, t1⟩
    · rw [if_neg c]
      have c : ru V E = true := by cases h : ru V E <;> simp_all
      rw [c, if_pos rfl] at hV ⊢
      obtain ⟨F2, L2, a2, e2, r2, t2⟩ := addAt_eq r1 t1.1 hE (d := 1) (by decide) hV
      rw [show (1 : Int32) = nI 1 from rfl, e2, bi3_s]
      exact ⟨F2, L2, a2, rfl, r2, t2⟩
  | succ m ih =>
    intro i f Fc Lc a h hf hi hFc hLc hF35 hL35 hFi hA hB ha
    obtain ⟨f, rfl⟩ : ∃ j, f = j + 1 := ⟨f - 1, by omega⟩
    show ∃ F' L' a', f_Decimal_setRounded_9b _ _ _ _ _ _ _ _ _ = _ ∧ _
    unfold f_Decimal_setRounded_9b
    rw [limbOf_eq hE, bi1_s, if_neg (nI_nlt (by omega) (by omega)), limb_in hR (by omega), bi1_s, setLimb_in hFc hLc (by omega), bi3_s, bd_s, nI_1]
    refine ih (i + 1) f (min Fc i) (max Lc i) _ (by omega) (by omega) (by omega) (by omega) (by omega) (by omega) (by omega) (by omega) (by omega) (by omega) ?_
    intro j hj
    unfold upd
    by_cases c : j = i
    · rw [if_pos c, if_pos (by omega), c]
    · rw [if_neg c, ha j hj]
      by_cases d : j < i ∧ j < 208 - E / 9
      · rw [if_pos d, if_pos (by omega)]
      · rw [if_neg d, if_neg (by omega)]
theorem setRounded_eq {a a2 : Nat → Int32} {F L W F2 L2 V E : Nat} (hR0 : Rw a W) (hT0 : Zo F L W) (hR : Rw a2 V) (hT : Tr F2 L2 V) (h1 : 1 ≤ E) (hE : E < 1872) (hV : rdE V E < PB 208) :
    ∃ F' L' a', f_Decimal_setRounded (nI F) (nI L) a (nI F2) (nI L2) a2 (iI ((E : Int) - 1548)) = some (nI F', nI L', a') ∧ Rw a' (rdE V E) ∧ Tr F' L' (rdE V E) := by
  obtain ⟨a1, e1, r1⟩ := clear_eq hR0 hT0
  have g1 := hT.1.1
  have gl := hT.1.2.1
  have g2 := hT.1.2.2.1
  unfold f_Decimal_setRounded
  rw [e1, bi3_s]
  refine setRounded9 hR hT h1 hE hV (208 - E / 9 - F2) F2 fu 35 35 a1 (by omega) (by unfold fu; omega) (by omega) (by decide) (by decide) (by decide) (by decide) (Nat.le_refl _) (Or.inr rfl) (Or.inl rfl) ?_
  intro j hj
  rw [r1 j hj, lm_0]
  by_cases c : j < F2 ∧ j < 208 - E / 9
  · rw [if_pos c, lm_above g2 c.1]
  · rw [if_neg c]
theorem imn29 {b : Nat} (h : b < 2147483648) : imn (29 : Int32) (nI b) = nI (min 29 b) := by
  unfold imn
  rw [ite_c (show (nI b < (29 : Int32)) = (b < 29) from propext (nI_ltI (b := 29) (by omega) (by decide)))]
  by_cases c : b < 29
  · rw [if_pos c, Nat.min_eq_right (by omega)]
  · rw [if_neg c, Nat.min_eq_left (by omega)]; rfl
theorem prod47 {y3 : Int32} (neg : ¬ 0 ≤ y3) : ∀ (m n b f F L V : Nat) (a : Nat → Int32), n + m = 64 → b ≤ 29 * m → m < f → Rw a V → Tr F L V →
    ∃ F' L' a', f_Decimal_setProduct_47 f (nI F) (nI L) a y3 (nI b) (nI n) = some (nI F', nI L', a') ∧ Rw a' (V / 2 ^ b) ∧ Tr F' L' (V / 2 ^ b) := by
  intro m
  induction m with
  | zero =>
    intro n b f F L V a h hb hf hR hT
    obtain ⟨f, rfl⟩ : ∃ j, f = j + 1 := ⟨f - 1, by omega⟩
    have : n = 64 := by omega
    have hb0 : b = 0 := by omega
    subst this hb0
    rw [Nat.pow_zero, Nat.div_one]
    exact ⟨F, L, a, rfl, hR, hT⟩
  | succ m ih =>
    intro n b f F L V a h hb hf hR hT
    obtain ⟨f, rfl⟩ : ∃ j, f = j + 1 := ⟨f - 1, by omega⟩
    show ∃ F' L' a', f_Decimal_setProduct_47b _ _ _ _ _ _ _ = _ ∧ _
    unfold f_Decimal_setProduct_47b
    rw [if_neg (show ¬ (64 : Int32) ≤ nI n from nI_ge (b := 64) (by omega) (by decide))]
    by_cases c : b = 0
    · subst c
      rw [if_pos (by decide), Nat.pow_zero, Nat.div_one]
      exact ⟨F, L, a, rfl, hR, hT⟩
    · rw [if_neg (nI_nle (by omega) (by omega)), bd_s, imn29 (by omega), if_neg neg]
      obtain ⟨F1, L1, a1, e1, r1, t1⟩ := divide_eq (b := min 29 b) (by omega) hR hT.1
      unfold f_Decimal_setProduct_87
      rw [e1, bi3_s, bd_s, bd_s, nI_1, pk_sub (by omega)]
      obtain ⟨F2, L2, a2, e2, r2, t2⟩ := ih (n + 1) (b - min 29 b) f F1 L1 _ a1 (by omega) (by omega) (by omega) r1 t1
      rw [Nat.div_div_eq_div_mul, ← Nat.pow_add, show min 29 b + (b - min 29 b) = b from by omega] at r2 t2
      exact ⟨F2, L2, a2, e2, r2, t2⟩
theorem prod47p {y3 : Int32} (pos : 0 ≤ y3) : ∀ (m n b f F L V : Nat) (a : Nat → Int32), n + m = 64 → b ≤ 29 * m → m < f → Rw a V → Tr F L V → V * 2 ^ b < PB 208 →
    ∃ F' L' a', f_Decimal_setProduct_47 f (nI F) (nI L) a y3 (nI b) (nI n) = some (nI F', nI L', a') ∧ Rw a' (V * 2 ^ b) ∧ Tr F' L' (V * 2 ^ b) := by
  intro m
  induction m with
  | zero =>
    intro n b f F L V a h hb hf hR hT hV
    obtain ⟨f, rfl⟩ : ∃ j, f = j + 1 := ⟨f - 1, by omega⟩
    have : n = 64 := by omega
    have hb0 : b = 0 := by omega
    subst this hb0
    rw [Nat.pow_zero, Nat.mul_one]
    exact ⟨F, L, a, rfl, hR, hT⟩
  | succ m ih =>
    intro n b f F L V a h hb hf hR hT hV
    obtain ⟨f, rfl⟩ : ∃ j, f = j + 1 := ⟨f - 1, by omega⟩
    show ∃ F' L' a', f_Decimal_setProduct_47b _ _ _ _ _ _ _ = _ ∧ _
    unfold f_Decimal_setProduct_47b
    rw [if_neg (show ¬ (64 : Int32) ≤ nI n from nI_ge (b := 64) (by omega) (by decide))]
    by_cases c : b = 0
    · subst c
      rw [if_pos (by decide), Nat.pow_zero, Nat.mul_one]
      exact ⟨F, L, a, rfl, hR, hT⟩
    · have e0 : V * 2 ^ min 29 b * 2 ^ (b - min 29 b) = V * 2 ^ b := by
        rw [Nat.mul_assoc, ← Nat.pow_add, show min 29 b + (b - min 29 b) = b from by omega]
      have hV1 : V * 2 ^ min 29 b < PB 208 := by
        have : V * 2 ^ min 29 b * 1 ≤ V * 2 ^ min 29 b * 2 ^ (b - min 29 b) := Nat.mul_le_mul_left _ (Nat.two_pow_pos _)
        omega
      rw [if_neg (nI_nle (by omega) (by omega)), bd_s, imn29 (by omega), if_pos pos]
      obtain ⟨F1, L1, a1, e1, r1, t1⟩ := multiply_eq (b := min 29 b) (by omega) hR hT.1 hV1
      unfold f_Decimal_setProduct_87
      rw [e1, bi3_s, bd_s, bd_s, nI_1, pk_sub (by omega)]
      obtain ⟨F2, L2, a2, e2, r2, t2⟩ := ih (n + 1) (b - min 29 b) f F1 L1 _ a1 (by omega) (by omega) (by omega) r1 t1 (by rw [e0]; exact hV)
      rw [e0] at r2 t2
      exact ⟨F2, L2, a2, e2, r2, t2⟩
theorem PB_174 : PB 174 = PB 172 * 1000000000000000000 := by
  rw [show PB 174 = PB (172 + 2) from rfl, PB_add, show PB 2 = 1000000000000000000 from rfl]
theorem m174 {m : Nat} (hm : m < 1000000000000000000) : m * PB 172 < PB 174 := by
  rw [PB_174, Nat.mul_comm]
  exact Nat.mul_lt_mul_of_pos_left hm (PB_pos 172)
theorem lm_two {m : Nat} (hm : m < 1000000000000000000) {j : Nat} (hj : j < 208) : lm (m * PB 172) j = if j = 35 then m % 1000000000 else if j = 34 then m / 1000000000 else 0 := by
  by_cases c : j = 35
  · rw [if_pos c, c, lm_of (k := 172) rfl, Nat.mul_div_cancel _ (PB_pos _)]
  · rw [if_neg c]
    by_cases d : j = 34
    · rw [if_pos d, d, lm_of (k := 172 + 1) rfl, PB_s 172, ← Nat.div_div_eq_div_mul, Nat.mul_div_cancel _ (PB_pos _)]
      omega
    · rw [if_neg d]
      by_cases g : j < 34
      · exact lm_above (F := 34) (m174 hm) g
      · exact lm_below (L := 35) (Nat.dvd_mul_left _ _) (by omega) hj
theorem zo_two {m : Nat} (hm : m < 1000000000000000000) : Zo 34 35 (m * PB 172) := by
  exact ⟨by decide, by decide, m174 hm, Nat.dvd_mul_left _ _⟩
theorem setProduct_start {a : Nat → Int32} {F L W m : Nat} {e : Int32} (hR : Rw a W) (hz : Zo F L W) (hm : m < 1000000000000000000) :
    ∃ F' L' a', f_Decimal_setProduct (nI F) (nI L) a (lN m) e = (if 0 ≤ e then f_Decimal_setProduct_47 fu (nI F') (nI L') a' e e 0 else f_Decimal_setProduct_47 fu (nI F') (nI L') a' e (-e) 0) ∧ Rw a' (m * PB 172) ∧ Tr F' L' (m * PB 172) := by
  obtain ⟨a1, e1, r1⟩ := clear_eq hR hz
  unfold f_Decimal_setProduct f_Decimal_setProduct_42
  have e2 : (lrm (lN m) (1000000000 : Int64)).toInt32 = nI (m % 1000000000) := by
    unfold lrm
    rw [show (1000000000 : Int64) = lN 1000000000 from rfl, pk_lRem (by omega) (by decide) (by decide), lN_i]
  have e3 : (lN m / (1000000000 : Int64)).toInt32 = nI (m / 1000000000) := by
    rw [show (1000000000 : Int64) = lN 1000000000 from rfl, pk_lDiv (by omega) (by decide) (by decide), lN_i]
  rw [e1, bi3_s, e2, show (35 : Int32) = nI 35 from rfl, setLimb_in (by decide) (by decide) (by decide), bi3_s, e3, show (34 : Int32) = nI 34 from rfl, setLimb_in (by decide) (by decide) (by decide), bi3_s]
  have hR2 : Rw (upd (upd a1 35 (nI (m % 1000000000))) 34 (nI (m / 1000000000))) (m * PB 172) := by
    intro j hj
    rw [lm_two hm hj]
    unfold upd
    by_cases c : j = 34
    · rw [if_pos c, if_neg (by omega), if_pos c]
    · rw [if_neg c, if_neg c]
      by_cases d : j = 35
      · rw [if_pos d, if_pos d]
      · rw [if_neg d, if_neg d, r1 j hj, lm_0]
  obtain ⟨F2, L2, -, -, ht, hT⟩ := trim_eq hR2 (zo_two hm)
  refine ⟨F2, L2, _, ?_, hR2, hT⟩
  rw [show min (min 35 35) 34 = 34 from by decide, show max (max 35 35) 34 = 35 from by decide, ht, bi2_s]
theorem setProduct_pos {a : Nat → Int32} {F L W m b : Nat} (hR : Rw a W) (hz : Zo F L W) (hm : m < 1000000000000000000) (hb : b ≤ 1856) (hV : m * PB 172 * 2 ^ b < PB 208) :
    ∃ F' L' a', f_Decimal_setProduct (nI F) (nI L) a (lN m) (nI b) = some (nI F', nI L', a') ∧ Rw a' (m * PB 172 * 2 ^ b) ∧ Tr F' L' (m * PB 172 * 2 ^ b) := by
  obtain ⟨F1, L1, a1, e1, r1, t1⟩ := setProduct_start (e := nI b) hR hz hm
  rw [e1, if_pos (nI_pos' (by omega))]
  exact prod47p (nI_pos' (by omega)) 64 0 b fu F1 L1 _ a1 rfl (by omega) (by decide) r1 t1 hV
theorem setProduct_neg {a : Nat → Int32} {F L W m b : Nat} (hR : Rw a W) (hz : Zo F L W) (hm : m < 1000000000000000000) (hb0 : 1 ≤ b) (hb : b ≤ 1856) :
    ∃ F' L' a', f_Decimal_setProduct (nI F) (nI L) a (lN m) (iI (-(b : Int))) = some (nI F', nI L', a') ∧ Rw a' (m * PB 172 / 2 ^ b) ∧ Tr F' L' (m * PB 172 / 2 ^ b) := by
  obtain ⟨F1, L1, a1, e1, r1, t1⟩ := setProduct_start (e := iI (-(b : Int))) hR hz hm
  have hn : ¬ 0 ≤ iI (-(b : Int)) := by
    rw [iI_kle 0 (by decide) (by omega) (by omega) (by decide) (by decide)]
    omega
  rw [e1, if_neg hn, iI_neg, Int.neg_neg, ← iI_nI]
  exact prod47 hn 64 0 b fu F1 L1 _ a1 rfl (by omega) (by decide) r1 t1

/-! decimals: findNearest -/
theorem bl_mono {a b : Nat} (h : a ≤ b) : bl a ≤ bl b := bl_le_iff.mpr (Nat.lt_of_le_of_lt h (bl_lt b))
theorem imn_nI' {a b : Nat} (ha : a < 2147483648) (hb : b < 2147483648) : imn (nI a) (nI b) = nI (min a b) := by
  unfold imn
  rw [ite_c (propext (nI_ltI (by omega) (by omega)))]
  by_cases c : b < a
  · rw [if_pos c, Nat.min_eq_right (by omega)]
  · rw [if_neg c, Nat.min_eq_left (by omega)]
theorem div_lt18 {V : Nat} (h : V < PB 174) : V / PB 172 < 1000000000000000000 := Nat.div_lt_of_lt_mul (by rw [← PB_174]; exact h)
theorem fn94 {V0 : Nat} (sf : Int64) (sp si : Int32) : ∀ (m n k f F L : Nat) (a : Nat → Int32), n + m = 64 → m < f → k ≤ 1075 → Rw a (V0 * 2 ^ k) → Tr F L (V0 * 2 ^ k) → V0 * 2 ^ k < PB 174 → (1075 ≤ k + 29 * m ∨ 54 ≤ bl (V0 * 2 ^ k / PB 172)) →
    ∃ F' L' a' V', f_Decimal_findNearest_94 f (nI F) (nI L) a sf sp si (iI (-(k : Int))) 0 (nI n) = some (nI F', nI L', a', near V0 (PB 172)) ∧ Rw a' V' ∧ Tr F' L' V' := by
  intro m
  have ex : ∀ (k F L : Nat) (a : Nat → Int32), k ≤ 1075 → Rw a (V0 * 2 ^ k) → Tr F L (V0 * 2 ^ k) → V0 * 2 ^ k < PB 174 → (1075 ≤ k ∨ 54 ≤ bl (V0 * 2 ^ k / PB 172)) →
      ∃ F' L' a' V', f_Decimal_findNearest_162 (nI F) (nI L) a sf sp si (iI (-(k : Int))) 0 = some (nI F', nI L', a', near V0 (PB 172)) ∧ Rw a' V' ∧ Tr F' L' V' := by
    intro k F L a hk hR hT hV hg
    refine ⟨F, L, a, _, ?_, hR, hT⟩
    have e := fn162 hR hT sf sp si (p := -(k : Int)) (by omega) (by omega) false
    rw [show (0 : Int32) = bz false from rfl, e, Nat.mod_eq_of_lt (div_lt18 hV), Bool.false_or, near_down (PB_pos _) (by omega) (by omega)]
  induction m with
  | zero =>
    intro n k f F L a h hf hk hR hT hV hg
    obtain ⟨f, rfl⟩ : ∃ j, f = j + 1 := ⟨f - 1, by omega⟩
    have : n = 64 := by omega
    subst this
    show ∃ F' L' a' V', f_Decimal_findNearest_94b _ _ _ _ _ _ _ _ _ _ = _ ∧ _
    unfold f_Decimal_findNearest_94b
    rw [if_pos (by decide)]
    exact ex k F L a hk hR hT hV (by omega)
  | succ m ih =>
    intro n k f F L a h hf hk hR hT hV hg
    obtain ⟨f, rfl⟩ : ∃ j, f = j + 1 := ⟨f - 1, by omega⟩
    show ∃ F' L' a' V', f_Decimal_findNearest_94b _ _ _ _ _ _ _ _ _ _ = _ ∧ _
    unfold f_Decimal_findNearest_94b
    rw [if_neg (show ¬ (64 : Int32) ≤ nI n from nI_ge (b := 64) (by omega) (by decide)), ite_c (iI_lek (-1075) (by decide) (by omega) (by omega) (by decide) (by decide))]
    by_cases c : 1075 ≤ k
    · rw [if_pos (by omega)]
      exact ex k F L a hk hR hT hV (Or.inl c)
    · have hX := div_lt18 hV
      have hbl : bl (V0 * 2 ^ k / PB 172) ≤ 60 := bl_le_iff.mpr (by omega)
      rw [if_neg (by omega), units_eq hR, bi1_s, Nat.mod_eq_of_lt hX, bitsOf_eq (by omega), bi1_s, ← iI_nI, ite_c (show ((54 : Int32) ≤ nI (bl (V0 * 2 ^ k / PB 172))) = (54 ≤ bl (V0 * 2 ^ k / PB 172)) from propext (nI_leI (a := 54) (by decide) (by omega)))]
      by_cases d : 54 ≤ bl (V0 * 2 ^ k / PB 172)
      · rw [if_pos d]
        exact ex k F L a hk hR hT hV (Or.inr d)
      · rw [if_neg d, bi1_s, bitsOf_eq (by omega), bi1_s, ← iI_nI, bd_s, show (54 : Int32) - nI (bl (V0 * 2 ^ k / PB 172)) = nI (54 - bl (V0 * 2 ^ k / PB 172)) from pk_sub (a := 54) (by omega), show (1075 : Int32) + iI (-(k : Int)) = nI (1075 - k) from by
          rw [show (1075 : Int32) = iI 1075 from by decide, iI_add, iI_nI]; congr 1; omega, imn_nI' (by omega) (by omega), show (29 : Int32) = nI 29 from rfl, imn_nI' (by omega) (by omega)]
        have hlt := bl_lt (V0 * 2 ^ k / PB 172)
        have hX0 : V0 * 2 ^ k / PB 172 * PB 172 ≤ V0 * 2 ^ k := Nat.div_mul_le_self _ _
        have hX1 : V0 * 2 ^ k < 2 ^ bl (V0 * 2 ^ k / PB 172) * PB 172 := (Nat.div_lt_iff_lt_mul (PB_pos 172)).mp hlt
        have hblm : ∀ s, V0 * 2 ^ k / PB 172 ≠ 0 → bl (V0 * 2 ^ k / PB 172) + s ≤ bl (V0 * 2 ^ (k + s) / PB 172) := by
          intro s hne
          rw [← bl_mul _ _ hne]
          apply bl_mono
          rw [Nat.le_div_iff_mul_le (PB_pos 172), Nat.pow_add, ← Nat.mul_assoc, Nat.mul_right_comm]
          exact Nat.mul_le_mul_right _ hX0
        have hb0 : V0 * 2 ^ k / PB 172 = 0 → bl (V0 * 2 ^ k / PB 172) = 0 := by
          intro q
          rw [q]
          rfl
        generalize hB : bl (V0 * 2 ^ k / PB 172) = B at *
        generalize hs : min 29 (min (54 - B) (1075 - k)) = s
        have hV2 : V0 * 2 ^ k * 2 ^ s < PB 174 := by
          have h1 : V0 * 2 ^ k * 2 ^ s < 2 ^ B * PB 172 * 2 ^ s := Nat.mul_lt_mul_of_pos_right hX1 (Nat.two_pow_pos s)
          have h2 : 2 ^ (B + s) ≤ 2 ^ 54 := Nat.pow_le_pow_right (by decide) (by omega)
          have h3 : 2 ^ B * PB 172 * 2 ^ s = PB 172 * 2 ^ (B + s) := by rw [Nat.pow_add, Nat.mul_right_comm, Nat.mul_comm]
          have h4 : PB 172 * 2 ^ (B + s) ≤ PB 172 * 1000000000000000000 := Nat.mul_le_mul_left _ (Nat.le_trans h2 (by decide))
          rw [PB_174]
          omega
        obtain ⟨F1, L1, a1, e1, r1, t1⟩ := multiply_eq (b := s) (by omega) hR hT.1 (Nat.lt_of_lt_of_le hV2 (PB_le (by decide)))
        rw [e1, bi3_s, bd_s, bd_s, nI_1, show iI (-(k : Int)) - nI s = iI (-((k + s : Nat) : Int)) from by rw [iI_nI, iI_sub]; congr 1; omega]
        rw [Nat.mul_assoc, ← Nat.pow_add] at r1 t1 hV2
        refine ih (n + 1) (k + s) f F1 L1 a1 (by omega) (by omega) (by omega) r1 t1 hV2 ?_
        by_cases g : s = 54 - B
        · right
          by_cases z : V0 * 2 ^ k / PB 172 = 0
          · have := hb0 z
            omega
          · have := hblm s z
            omega
        · left
          omega
theorem two30_172 : 1073741824 ∣ PB 172 := by
  rw [show PB 172 = PB (4 + 168) from rfl, PB_add]
  exact Nat.dvd_trans (show 1073741824 ∣ PB 4 from by decide) (Nat.dvd_mul_right _ _)
/-- what the first loop keeps: X is what is left above the point, p bits are cut off, mo: were they all 0? -/
def Fn (V0 p V : Nat) (mo : Bool) : Prop :=
  V / PB 172 = V0 / (PB 172 * 2 ^ p) ∧ (mo || decide (V % PB 172 ≠ 0)) = decide (V0 % (PB 172 * 2 ^ p) ≠ 0) ∧ (PB 174 ≤ V → 1073741824 ∣ V) ∧ (p = 0 → V = V0 ∧ mo = false) ∧ (0 < p → 500000000000000000 ≤ V / PB 172)
theorem fn91 {V0 p F L V : Nat} {mo : Bool} {a : Nat → Int32} (sf : Int64) (sp si : Int32) (hp : p ≤ 2000) (hR : Rw a V) (hT : Tr F L V) (hF : Fn V0 p V mo) (hV : V < PB 174) :
    ∃ F' L' a' V', f_Decimal_findNearest_91 (nI F) (nI L) a sf sp si (nI p) (bz mo) = some (nI F', nI L', a', near V0 (PB 172)) ∧ Rw a' V' ∧ Tr F' L' V' := by
  obtain ⟨h1, h2, h3, h4, h5⟩ := hF
  unfold f_Decimal_findNearest_91
  by_cases c : p = 0
  · obtain ⟨q1, q2⟩ := h4 c
    subst q1 q2 c
    have := fn94 (V0 := V) sf sp si 64 0 0 fu F L a rfl (by decide) (by omega) (by rw [Nat.pow_zero, Nat.mul_one]; exact hR) (by rw [Nat.pow_zero, Nat.mul_one]; exact hT) (by rw [Nat.pow_zero, Nat.mul_one]; exact hV) (by omega)
    exact this
  · have hX := div_lt18 hV
    have h5 := h5 (by omega)
    have hb : 54 ≤ bl (V / PB 172) := by
      rcases Nat.lt_or_ge (bl (V / PB 172)) 54 with g | g
      · have := bl_le_iff.mp (show bl (V / PB 172) ≤ 53 from by omega)
        omega
      · exact g
    refine ⟨F, L, a, V, ?_, hR, hT⟩
    show f_Decimal_findNearest_94b _ _ _ _ _ _ _ _ _ _ = _
    unfold f_Decimal_findNearest_94b
    have e := fn162 hR hT sf sp si (p := (p : Int)) (by omega) (by omega) mo
    rw [h2, Nat.mod_eq_of_lt hX, h1, near_up (PB_pos _) (by rw [← h1]; exact hb), ← iI_nI] at e
    rw [if_neg (by decide), if_neg (show ¬ nI p ≤ (-1075 : Int32) from by
      rw [iI_nI, iI_lek (-1075) (by decide) (by omega) (by omega) (by decide) (by decide)]; omega), units_eq hR, bi1_s, Nat.mod_eq_of_lt hX, bitsOf_eq (by omega), bi1_s, if_pos (show (54 : Int32) ≤ iI (bl (V / PB 172)) from by
        have hbl : bl (V / PB 172) ≤ 60 := bl_le_iff.mpr (by omega)
        rw [← iI_nI]
        exact nI_le (a := 54) hb (by omega)), e]
theorem fn_step {V0 p V s : Nat} {mo : Bool} (hs : s ≤ 30) (hV : PB 174 ≤ V) (hF : Fn V0 p V mo) (hX : 500000000000000000 ≤ V / PB 172 / 2 ^ s) (hs1 : 1 ≤ s) :
    Fn V0 (p + s) (V / 2 ^ s - V / 2 ^ s % PB 172) (mo || decide (V / 2 ^ s % PB 172 ≠ 0)) := by
  obtain ⟨h1, h2, h3, h4, h5⟩ := hF
  have hD := PB_pos 172
  have h2s := Nat.two_pow_pos s
  have hd : 2 ^ s ∣ V := Nat.dvd_trans (show 2 ^ s ∣ 2 ^ 30 from Nat.pow_dvd_pow 2 hs) (h3 hV)
  have e0 : V / 2 ^ s - V / 2 ^ s % PB 172 = PB 172 * (V / 2 ^ s / PB 172) := by
    have := Nat.div_add_mod (V / 2 ^ s) (PB 172)
    omega
  have e1 : V / 2 ^ s / PB 172 = V / PB 172 / 2 ^ s := by
    rw [Nat.div_div_eq_div_mul, Nat.mul_comm, ← Nat.div_div_eq_div_mul]
  have e2 : PB 172 * (V / 2 ^ s / PB 172) / PB 172 = V / PB 172 / 2 ^ s := by
    rw [Nat.mul_div_cancel_left _ hD, e1]
  have e3 : PB 172 * 2 ^ (p + s) = PB 172 * 2 ^ p * 2 ^ s := by rw [Nat.pow_add, Nat.mul_assoc]
  refine ⟨?_, ?_, ?_, by omega, ?_⟩
  · rw [e0, e2, h1, Nat.div_div_eq_div_mul, e3]
  · rw [e0, Nat.mul_mod_right]
    have m1 : V0 % (PB 172 * 2 ^ (p + s)) = V0 % (PB 172 * 2 ^ p) + PB 172 * 2 ^ p * (V / PB 172 % 2 ^ s) := by
      rw [e3, Nat.mod_mul, h1]
    have m2 : V % (PB 172 * 2 ^ s) = V % PB 172 + PB 172 * (V / PB 172 % 2 ^ s) := Nat.mod_mul
    have m3 : V % (PB 172 * 2 ^ s) = 2 ^ s * (V / 2 ^ s % PB 172) := by
      obtain ⟨q, rfl⟩ := hd
      rw [Nat.mul_div_cancel_left _ h2s, Nat.mul_comm (PB 172), Nat.mul_mod_mul_left]
    have hDp : PB 172 * 2 ^ p ≠ 0 := Nat.mul_ne_zero (by omega) (by have := Nat.two_pow_pos p; omega)
    have k1 : (V / 2 ^ s % PB 172 = 0) ↔ (V % PB 172 = 0 ∧ V / PB 172 % 2 ^ s = 0) := by
      constructor
      · intro q
        rw [q, Nat.mul_zero] at m3
        rw [m3] at m2
        have g1 : V % PB 172 = 0 := by omega
        have g2 : PB 172 * (V / PB 172 % 2 ^ s) = 0 := by omega
        refine ⟨g1, ?_⟩
        rcases Nat.mul_eq_zero.mp g2 with c | c
        · omega
        · exact c
      · intro ⟨g1, g2⟩
        rw [g1, g2, Nat.mul_zero, m3] at m2
        rcases Nat.mul_eq_zero.mp m2 with c | c
        · omega
        · exact c
    have k2 : (V0 % (PB 172 * 2 ^ (p + s)) = 0) ↔ (V0 % (PB 172 * 2 ^ p) = 0 ∧ V / PB 172 % 2 ^ s = 0) := by
      rw [m1]
      constructor
      · intro q
        have g2 : PB 172 * 2 ^ p * (V / PB 172 % 2 ^ s) = 0 := by omega
        refine ⟨by omega, ?_⟩
        rcases Nat.mul_eq_zero.mp g2 with c | c
        · exact absurd c hDp
        · exact c
      · intro ⟨g1, g2⟩
        rw [g1, g2, Nat.mul_zero]
    have k3 : (V0 % (PB 172 * 2 ^ p) = 0) ↔ (mo = false ∧ V % PB 172 = 0) := by
      constructor
      · intro q
        rw [decide_eq_false (show ¬ (V0 % (PB 172 * 2 ^ p) ≠ 0) from fun z => z q)] at h2
        obtain ⟨z1, z2⟩ := Bool.or_eq_false_iff.mp h2
        exact ⟨z1, Decidable.not_not.mp (of_decide_eq_false z2)⟩
      · intro ⟨z1, z2⟩
        rw [z1, Bool.false_or, decide_eq_false (show ¬ (V % PB 172 ≠ 0) from fun z => z z2)] at h2
        exact Decidable.not_not.mp (of_decide_eq_false h2.symm)
    rw [decide_eq_false (show ¬ ((0 : Nat) ≠ 0) from fun z => z rfl), Bool.or_false]
    by_cases g : V0 % (PB 172 * 2 ^ (p + s)) = 0
    · rw [decide_eq_false (show ¬ (V0 % (PB 172 * 2 ^ (p + s)) ≠ 0) from fun z => z g)]
      obtain ⟨g1, g2⟩ := k2.mp g
      obtain ⟨g3, g4⟩ := k3.mp g1
      rw [g3, Bool.false_or, decide_eq_false (show ¬ (V / 2 ^ s % PB 172 ≠ 0) from fun z => z (k1.mpr ⟨g4, g2⟩))]
    · rw [decide_eq_true (show V0 % (PB 172 * 2 ^ (p + s)) ≠ 0 from g)]
      by_cases g5 : mo = true
      · rw [g5, Bool.true_or]
      · have g5 : mo = false := by cases mo <;> simp_all
        rw [g5, Bool.false_or, decide_eq_true]
        intro q
        obtain ⟨z1, z2⟩ := k1.mp q
        exact g (k2.mpr ⟨k3.mpr ⟨g5, z1⟩, z2⟩)
  · intro _
    rw [e0]
    exact Nat.dvd_trans two30_172 (Nat.dvd_mul_right _ _)
  · intro _
    rw [e0, e2]
    exact hX
theorem fn7 {V0 : Nat} (sf : Int64) (sp si : Int32) : ∀ (m n p f F L V : Nat) (mo : Bool) (a : Nat → Int32), n + m = 64 → m < f → p ≤ 30 * n → Rw a V → Tr F L V → Fn V0 p V mo → (V = 0 → F = 35) → (bl (V / PB 172) ≤ 29 * m ∨ V < PB 174) →
    ∃ F' L' a' V', f_Decimal_findNearest_7 f (nI F) (nI L) a sf sp si (nI p) (bz mo) (nI n) = some (nI F', nI L', a', near V0 (PB 172)) ∧ Rw a' V' ∧ Tr F' L' V' := by
  intro m
  induction m with
  | zero =>
    intro n p f F L V mo a h hf hp hR hT hF h0 hm
    obtain ⟨f, rfl⟩ : ∃ j, f = j + 1 := ⟨f - 1, by omega⟩
    have : n = 64 := by omega
    subst this
    have hV : V < PB 174 := by
      rcases hm with c | c
      · have := bl_le_iff.mp c
        have hD : V < 1 * PB 172 := (Nat.div_lt_iff_lt_mul (PB_pos 172)).mp (by omega)
        have := PB_le (show 172 ≤ 174 by decide)
        omega
      · exact c
    show ∃ F' L' a' V', f_Decimal_findNearest_7b _ _ _ _ _ _ _ _ _ _ = _ ∧ _
    unfold f_Decimal_findNearest_7b
    rw [if_pos (by decide)]
    exact fn91 sf sp si (by omega) hR hT hF hV
  | succ m ih =>
    intro n p f F L V mo a h hf hp hR hT hF h0 hm
    obtain ⟨f, rfl⟩ : ∃ j, f = j + 1 := ⟨f - 1, by omega⟩
    obtain ⟨⟨g1, gl, g2, g3⟩, gz, gn⟩ := id hT
    have hD := PB_pos 172
    show ∃ F' L' a' V', f_Decimal_findNearest_7b _ _ _ _ _ _ _ _ _ _ = _ ∧ _
    unfold f_Decimal_findNearest_7b
    rw [if_neg (show ¬ (64 : Int32) ≤ nI n from nI_ge (b := 64) (by omega) (by decide)), ite_c (show ((34 : Int32) ≤ nI F) = (34 ≤ F) from propext (nI_leI (a := 34) (by decide) (by omega)))]
    by_cases c : 34 ≤ F
    · rw [if_pos c]
      exact fn91 sf sp si (by omega) hR hT hF (Nat.lt_of_lt_of_le g2 (PB_le (by omega)))
    · have hV0 : V ≠ 0 := fun q => c (by rw [h0 q]; decide)
      have hVF := (gn hV0).1
      have hV174 : PB 174 ≤ V := Nat.le_trans (PB_le (by omega)) hVF
      have step : ∀ s, 1 ≤ s → s ≤ 30 → 500000000000000000 ≤ V / PB 172 / 2 ^ s → (V / PB 172 / 2 ^ s < 1000000000000000000 ∨ s = 29) →
          ∃ F' L' a' V', f_Decimal_findNearest_49 (f_Decimal_findNearest_7 f) (nI F) (nI L) a sf sp si (nI p) (bz mo) (nI n) (nI s) = some (nI F', nI L', a', near V0 (PB 172)) ∧ Rw a' V' ∧ Tr F' L' V' := by
        intro s hs1 hs hX hX2
        obtain ⟨F1, L1, a1, e1, r1, t1⟩ := divide_eq hs hR hT.1
        obtain ⟨F2, L2, a2, e2, r2, t2⟩ := cut0 r1 t1.1
        have hF2 := fn_step hs hV174 hF hX hs1
        have e3 : V / 2 ^ s - V / 2 ^ s % PB 172 = PB 172 * (V / PB 172 / 2 ^ s) := by
          have := Nat.div_add_mod (V / 2 ^ s) (PB 172)
          rw [show V / PB 172 / 2 ^ s = V / 2 ^ s / PB 172 from by rw [Nat.div_div_eq_div_mul, Nat.mul_comm, ← Nat.div_div_eq_div_mul]]
          omega
        have hne : V / 2 ^ s - V / 2 ^ s % PB 172 ≠ 0 := by
          rw [e3]
          exact Nat.mul_ne_zero (by omega) (by omega)
        have hm2 : bl ((V / 2 ^ s - V / 2 ^ s % PB 172) / PB 172) ≤ 29 * m ∨ V / 2 ^ s - V / 2 ^ s % PB 172 < PB 174 := by
          rcases hX2 with q | q
          · right
            rw [e3, PB_174]
            exact Nat.mul_lt_mul_of_pos_left q hD
          · left
            rw [e3, Nat.mul_div_cancel_left _ hD]
            subst q
            rcases hm with hm | hm
            · have h2 : 2 ^ 29 ≤ V / PB 172 := by
                rcases Nat.lt_or_ge (V / PB 172) (2 ^ 29) with w | w
                · rw [Nat.div_eq_of_lt w] at hX
                  omega
                · exact w
              rw [bl_div h2] at hm
              omega
            · omega
        have fin : ∀ mo2, mo2 = (mo || decide (V / 2 ^ s % PB 172 ≠ 0)) → ∃ F' L' a' V', f_Decimal_findNearest_74 (f_Decimal_findNearest_7 f) (nI F1) (nI L1) a1 sf sp si (nI p) (nI n) (nI s) (bz mo2) = some (nI F', nI L', a', near V0 (PB 172)) ∧ Rw a' V' ∧ Tr F' L' V' := by
          intro mo2 hmo
          unfold f_Decimal_findNearest_74
          rw [e2, bi3_s, bd_s, bd_s, nI_1, nI_add]
          subst hmo
          exact ih (n + 1) (p + s) f F2 L2 _ _ a2 (by omega) (by omega) (by omega) r2 t2 hF2 (fun q => absurd q hne) hm2
        unfold f_Decimal_findNearest_49 f_Decimal_findNearest_69
        rw [e1, bi3_s, ite_c (bz_f mo)]
        cases mo with
        | true =>
          rw [if_neg (by decide)]
          exact fin true (by rw [Bool.true_or])
        | false =>
          rw [if_pos rfl, below0 r1 t1, bi1_s, ite_c (bz_f _)]
          rw [Bool.false_or] at fin
          cases hq : decide (V / 2 ^ s % PB 172 ≠ 0) with
          | true =>
            rw [if_neg (by decide)]
            exact fin true hq.symm
          | false =>
            rw [if_pos rfl]
            exact fin false hq.symm
      have e174 : V / PB 172 / 1000000000000000000 = V / PB 174 := by rw [Nat.div_div_eq_div_mul, ← PB_174]
      rw [if_neg c, ite_c (show ((33 : Int32) ≤ nI F) = (33 ≤ F) from propext (nI_leI (a := 33) (by decide) (by omega)))]
      by_cases d : 33 ≤ F
      · have hF33 : F = 33 := by omega
        subst hF33
        have hlm := lm_lt V 33
        have hfirst : lm V 33 = V / PB 174 := lm_first (by decide) g2
        have hpos : lm V 33 ≠ 0 := by
          rw [hfirst]
          have := Nat.div_pos hV174 (PB_pos 174)
          omega
        have b1 := bl_lt (lm V 33)
        have b2 := bl_le hpos
        have b3 := bl_pos hpos
        have b4 : bl (lm V 33) ≤ 30 := bl_le_iff.mpr (by omega)
        have b5 : 2 ^ bl (lm V 33) = 2 * 2 ^ (bl (lm V 33) - 1) := by
          rw [show bl (lm V 33) = (bl (lm V 33) - 1) + 1 from by omega, Nat.pow_succ]
          rw [show bl (lm V 33) - 1 + 1 - 1 = bl (lm V 33) - 1 from by omega]
          omega
        rw [← hfirst] at e174
        rw [if_pos d, limb_in hR (by decide), bi1_s, nI_l (by omega), bitsOf_eq (by omega), bi1_s, ← iI_nI]
        refine step (bl (lm V 33)) b3 b4 ?_ (Or.inl ?_)
        · rw [Nat.le_div_iff_mul_le (Nat.two_pow_pos _), b5]
          have := Nat.div_mul_le_self (V / PB 172) 1000000000000000000
          rw [e174] at this
          generalize 2 ^ (bl (lm V 33) - 1) = y at b2
          omega
        · rw [Nat.div_lt_iff_lt_mul (Nat.two_pow_pos _)]
          have h1 : V / PB 172 / 1000000000000000000 < 2 ^ bl (lm V 33) := by rw [e174]; exact b1
          have h2 := (Nat.div_lt_iff_lt_mul (by decide)).mp h1
          rw [Nat.mul_comm]
          exact h2
      · rw [if_neg d]
        have hV175 : PB 175 ≤ V := Nat.le_trans (PB_le (by omega)) hVF
        have hX : 1000000000000000000000000000 ≤ V / PB 172 := by
          rw [Nat.le_div_iff_mul_le hD]
          have : PB 175 = 1000000000000000000000000000 * PB 172 := by
            rw [show PB 175 = PB (172 + 3) from rfl, PB_add, show PB 3 = 1000000000000000000000000000 from rfl, Nat.mul_comm]
          omega
        refine step 29 (by decide) (by decide) ?_ (Or.inr rfl)
        rw [Nat.le_div_iff_mul_le (Nat.two_pow_pos _)]
        omega
theorem findNearest_eq {a : Nat → Int32} {F L V : Nat} (sf : Int64) (sp si : Int32) (hR : Rw a V) (hT : Tr F L V) (h0 : V = 0 → F = 35) (h30 : PB 174 ≤ V → 1073741824 ∣ V) :
    ∃ F' L' a' V', f_Decimal_findNearest (nI F) (nI L) a sf sp si = some (nI F', nI L', a', near V (PB 172)) ∧ Rw a' V' ∧ Tr F' L' V' := by
  unfold f_Decimal_findNearest
  refine fn7 (V0 := V) sf sp si 64 0 0 fu F L V false a rfl (by decide) (by decide) hR hT ⟨?_, ?_, h30, fun _ => ⟨rfl, rfl⟩, fun h => absurd h (by decide)⟩ h0 ?_
  · rw [Nat.pow_zero, Nat.mul_one]
  · rw [Nat.pow_zero, Nat.mul_one, Bool.false_or]
  · left
    apply bl_le_iff.mpr
    rw [Nat.div_lt_iff_lt_mul (PB_pos 172)]
    have h1 : V < PB 208 := Nat.lt_of_lt_of_le hT.1.2.2.1 (PB_le (by omega))
    rw [show PB 208 = PB (36 + 172) from rfl, PB_add] at h1
    have h2 : PB 36 ≤ 2 ^ (29 * 64) := by
      unfold PB
      calc (1000000000 : Nat) ^ 36 ≤ (2 ^ 30) ^ 36 := Nat.pow_le_pow_left (by decide) _
        _ = 2 ^ (30 * 36) := (Nat.pow_mul _ _ _).symm
        _ ≤ 2 ^ (29 * 64) := Nat.pow_le_pow_right (by decide) (by decide)
    exact Nat.lt_of_lt_of_le h1 (Nat.mul_le_mul_right _ h2)

/-! the least precision: class -/
def Sm (m : Nat) (E : Int) (tv : Int) (q : Nat) : Prop := near (rdE (Vv m E) (tv - q + 1548).toNat) (PB 172) = (lN m, iI E, 0)
theorem isSame_eq (r s : Int64 × Int32 × Int32) : f_Size_isSame r.1 r.2.1 r.2.2 s.1 s.2.1 s.2.2 = some (bz (decide (r = s))) := by
  obtain ⟨a, b, c⟩ := r
  obtain ⟨x, y, z⟩ := s
  unfold f_Size_isSame
  dsimp only
  by_cases h1 : c = z
  · rw [if_pos h1]
    by_cases h2 : a = x
    · rw [if_pos h2]
      by_cases h3 : b = y
      · rw [if_pos h3, decide_eq_true (by rw [h1, h2, h3])]; rfl
      · rw [if_neg h3, decide_eq_false (fun w => h3 (congrArg (fun t => t.2.1) w))]; rfl
    · rw [if_neg h2, decide_eq_false (fun w => h2 (congrArg (fun t => t.1) w))]; rfl
  · rw [if_neg h1, decide_eq_false (fun w => h1 (congrArg (fun t => t.2.2) w))]; rfl
theorem rdE_low {V E k : Nat} (h : 10 ^ k ≤ V) (hE : E ≤ k) : 10 ^ k ≤ rdE V E := by
  rw [rdE_div]
  have hp := ten_pos E
  have e1 : 10 ^ k = 10 ^ (k - E) * 10 ^ E := by rw [← Nat.pow_add, show k - E + E = k from by omega]
  rw [e1]
  apply Nat.mul_le_mul_right
  have : 10 ^ (k - E) ≤ V / 10 ^ E := (Nat.le_div_iff_mul_le hp).mpr (by rw [← e1]; exact h)
  omega
theorem Vv_ne {m : Nat} {E : Int} (h : Rl m E) (hm0 : m ≠ 0) : Vv m E ≠ 0 := by
  intro z
  have := Vv_exact (m := m) (Rl_E h).1
  rw [z, Nat.zero_mul] at this
  exact absurd this.symm (Nat.mul_ne_zero (Nat.mul_ne_zero hm0 (by have := Nat.two_pow_pos (E + 2000).toNat; omega)) (by have := PB_pos 172; omega))
theorem cstep {m : Nat} {E : Int} (h : Rl m E) (hm0 : m ≠ 0) {tv : Int} (htv : Tp (Vv m E) tv) {q : Nat} (hq : q ≤ 16) {F L : Nat} {a : Nat → Int32} (hR : Rw a (Vv m E)) (hT : Tr F L (Vv m E)) {F2 L2 W : Nat} {b : Nat → Int32} (hR2 : Rw b W) (hT2 : Tr F2 L2 W) (sf : Int64) (sp si : Int32) :
    ∃ (F1 L1 : Nat) (b1 : Nat → Int32) (F' L' W' : Nat) (b' : Nat → Int32), f_Decimal_setRounded (nI F2) (nI L2) b (nI F) (nI L) a (iI (tv - q)) = some (nI F1, nI L1, b1) ∧ f_Decimal_findNearest (nI F1) (nI L1) b1 sf sp si = some (nI F', nI L', b', near (rdE (Vv m E) (tv - q + 1548).toNat) (PB 172)) ∧ Rw b' W' ∧ Tr F' L' W' := by
  have hV0 := Vv_ne h hm0
  have hr := Vv_top h htv
  obtain ⟨ex, Lx, pt, hX, hpt1, hpt2⟩ := Xp_any h
  rcases htv with ⟨z, -⟩ | ⟨-, w1, w2, w3, w4⟩
  · exact absurd z hV0
  obtain ⟨Er, hEr⟩ : ∃ Er : Nat, Er = (tv - q + 1548).toNat := ⟨_, rfl⟩
  have hEi : iI (tv - q) = iI ((Er : Int) - 1548) := by rw [hEr]; congr 1; omega
  rw [← hEr, hEi]
  obtain ⟨F1, L1, b1, e1, r1, t1⟩ := setRounded_eq hR2 hT2.1 hR hT (E := Er) (by omega) (by omega) (rdE_208 hX hpt2 (by omega))
  have hlow := rdE_low w3 (show Er ≤ (tv + 1548).toNat from by omega)
  have hR0 : rdE (Vv m E) Er ≠ 0 := by
    have := ten_pos (tv + 1548).toNat
    omega
  have h30 : 1073741824 ∣ rdE (Vv m E) Er := by
    rw [rdE_div]
    apply Nat.dvd_trans _ (Nat.dvd_mul_left _ _)
    rw [show Er = 30 + (Er - 30) from by omega, Nat.pow_add]
    exact Nat.dvd_trans (by decide) (Nat.dvd_mul_right _ _)
  obtain ⟨F', L', b', W', e2, r2, t2⟩ := findNearest_eq sf sp si r1 t1 (fun z => absurd z hR0) (fun _ => h30)
  exact ⟨F1, L1, b1, F', L', W', b', e1, e2, r2, t2⟩
theorem cloop {m : Nat} {E : Int} (h : Rl m E) (hm0 : m ≠ 0) {tv : Int} (htv : Tp (Vv m E) tv) {F L : Nat} {a : Nat → Int32} (hR : Rw a (Vv m E)) (hT : Tr F L (Vv m E)) {q : Nat} (hq : q ≤ 16) (hno : ∀ j, j < q → ¬ Sm m E tv j) (hyes : q = 16 ∨ Sm m E tv q) : ∀ (n i f : Nat) (ag : Int64) (af ai : Int32) (F2 L2 W : Nat) (b : Nat → Int32), i + n = q → n < f → Rw b W → Tr F2 L2 W →
    ∃ (x1 : Int64) (x2 x3 : Int32) (F' L' W' : Nat) (b' : Nat → Int32), f_N_leastPrecision_31 f ag af ai (nI F) (nI L) (nI F2) (nI L2) (lN m) (iI E) 0 a b (iI tv) (nI i) = some (nI q, x1, x2, x3, nI F, nI L, nI F', nI L', a, b') ∧ Rw b' W' ∧ Tr F' L' W' := by
  intro n
  induction n with
  | zero =>
    intro i f ag af ai F2 L2 W b hi hf hR2 hT2
    obtain ⟨f, rfl⟩ : ∃ j, f = j + 1 := ⟨f - 1, by omega⟩
    have hi : i = q := by omega
    subst hi
    show ∃ (x1 : Int64) (x2 x3 : Int32) (F' L' W' : Nat) (b' : Nat → Int32), f_N_leastPrecision_31b _ _ _ _ _ _ _ _ _ _ _ _ _ _ _ = _ ∧ _
    unfold f_N_leastPrecision_31b
    rw [ite_c (show ((16 : Int32) ≤ nI i) = (16 ≤ i) from propext (nI_leI (a := 16) (by decide) (by omega)))]
    by_cases c : 16 ≤ i
    · rw [if_pos c, show i = 16 from by omega]
      exact ⟨_, _, _, F2, L2, W, b, rfl, hR2, hT2⟩
    · rw [if_neg c]
      have hs : Sm m E tv i := by
        rcases hyes with z | z
        · omega
        · exact z
      obtain ⟨F1, L1, b1, F', L', W', b', e1, e2, r2, t2⟩ := cstep h hm0 htv (q := i) (by omega) hR hT hR2 hT2 ag af ai
      rw [show iI tv - nI i = iI (tv - i) from by rw [iI_nI, iI_sub], e1, bi3_s, e2, bi6_r]
      have e3 := isSame_eq (near (rdE (Vv m E) (tv - i + 1548).toNat) (PB 172)) (lN m, iI E, 0)
      dsimp only at e3
      rw [e3, bi1_s, ite_c (bz_f _), if_neg (by rw [decide_eq_true (show near (rdE (Vv m E) (tv - i + 1548).toNat) (PB 172) = (lN m, iI E, 0) from hs)]; decide)]
      exact ⟨_, _, _, F', L', W', b', rfl, r2, t2⟩
  | succ n ih =>
    intro i f ag af ai F2 L2 W b hi hf hR2 hT2
    obtain ⟨f, rfl⟩ : ∃ j, f = j + 1 := ⟨f - 1, by omega⟩
    show ∃ (x1 : Int64) (x2 x3 : Int32) (F' L' W' : Nat) (b' : Nat → Int32), f_N_leastPrecision_31b _ _ _ _ _ _ _ _ _ _ _ _ _ _ _ = _ ∧ _
    unfold f_N_leastPrecision_31b
    rw [ite_c (show ((16 : Int32) ≤ nI i) = (16 ≤ i) from propext (nI_leI (a := 16) (by decide) (by omega)))]
    rw [if_neg (by omega)]
    obtain ⟨F1, L1, b1, F', L', W', b', e1, e2, r2, t2⟩ := cstep h hm0 htv (q := i) (by omega) hR hT hR2 hT2 ag af ai
    rw [show iI tv - nI i = iI (tv - i) from by rw [iI_nI, iI_sub], e1, bi3_s, e2, bi6_r]
    have e3 := isSame_eq (near (rdE (Vv m E) (tv - i + 1548).toNat) (PB 172)) (lN m, iI E, 0)
    dsimp only at e3
    rw [e3, bi1_s, ite_c (bz_f _), if_pos (decide_eq_false (show ¬ near (rdE (Vv m E) (tv - i + 1548).toNat) (PB 172) = (lN m, iI E, 0) from hno i (by omega))), bd_s, nI_1]
    exact ih (i + 1) f _ _ _ F' L' W' b' (by omega) (by omega) r2 t2
theorem trim34 {a : Nat → Int32} (hR : Rw a 0) : f_Decimal_trim (nI 34) (nI 35) a = some (nI 34, nI 34) := by
  have key : ∀ f g, f_Decimal_trim_35 (g + 1) (nI 34) (nI 34) a = some (nI 34, nI 34) ∧ f_Decimal_trim_0 (f + 1 + 1) (nI 34) (nI 35) a = f_Decimal_trim_35 fu (nI 34) (nI 34) a := by
    intro f g
    constructor
    · show f_Decimal_trim_35b _ _ _ _ = _
      unfold f_Decimal_trim_35b
      rw [if_pos (by decide)]
    · show f_Decimal_trim_0b (f_Decimal_trim_0 (f + 1)) _ _ _ = _
      unfold f_Decimal_trim_0b
      rw [if_neg (by decide), limb_in hR (by decide), bi1_s, if_pos (by rw [lm_0]; rfl), bd_s]
      show f_Decimal_trim_0b (f_Decimal_trim_0 f) (nI 34) (nI 34) a = _
      unfold f_Decimal_trim_0b
      rw [if_pos (by decide)]
  unfold f_Decimal_trim
  obtain ⟨k1, -⟩ := key 0 1048575
  obtain ⟨-, k2⟩ := key 1048574 0
  exact k2.trans k1
theorem zero_prod {a : Nat → Int32} {F L W : Nat} (hR : Rw a W) (hz : Zo F L W) : ∃ a', f_Decimal_setProduct (nI F) (nI L) a (lN 0) (iI 0) = some (nI 34, nI 34, a') ∧ Rw a' 0 := by
  obtain ⟨a1, e1, r1⟩ := clear_eq hR hz
  have hR2 : Rw (upd (upd a1 35 (nI 0)) 34 (nI 0)) 0 := by
    intro j hj
    unfold upd
    have := r1 j hj
    rw [lm_0] at this ⊢
    by_cases c : j = 34
    · rw [if_pos c]
    · rw [if_neg c]
      by_cases d : j = 35
      · rw [if_pos d]
      · rw [if_neg d, this]
  refine ⟨_, ?_, hR2⟩
  unfold f_Decimal_setProduct f_Decimal_setProduct_42
  rw [e1, bi3_s, show (lrm (lN 0) (1000000000 : Int64)).toInt32 = nI 0 from by decide, show (35 : Int32) = nI 35 from rfl, setLimb_in (by decide) (by decide) (by decide), bi3_s, show (lN 0 / (1000000000 : Int64)).toInt32 = nI 0 from by decide, show (34 : Int32) = nI 34 from rfl, setLimb_in (by decide) (by decide) (by decide), bi3_s, show min (min 35 35) 34 = 34 from by decide, show max (max 35 35) 34 = 35 from by decide, trim34 hR2, bi2_s, if_pos (by decide)]
  show f_Decimal_setProduct_47b (f_Decimal_setProduct_47 1048575) _ _ _ _ _ _ = _
  unfold f_Decimal_setProduct_47b
  rw [if_neg (by decide), if_pos (by decide)]
theorem Tr_34 : Tr 34 34 0 := ⟨⟨by decide, by decide, PB_pos _, Nat.dvd_zero _⟩, fun _ => rfl, fun z => absurd rfl z⟩
theorem Zo_34 : Zo 34 35 0 := ⟨by decide, by decide, PB_pos _, Nat.dvd_zero _⟩
theorem upd_0 {a : Nat → Int32} (h : Rw a 0) (i : Nat) : Rw (upd a i 0) 0 := by
  intro j hj
  unfold upd
  have := h j hj
  rw [lm_0] at this ⊢
  by_cases c : j = i
  · rw [if_pos c]; rfl
  · rw [if_neg c, this]
theorem zero_cut {a : Nat → Int32} (hR : Rw a 0) : ∃ a', f_Decimal_cutBelow (nI 34) (nI 35) a (iI 0) = some (nI 34, nI 34, a') ∧ Rw a' 0 := by
  refine ⟨_, ?_, upd_0 hR 35⟩
  unfold f_Decimal_cutBelow
  have u := unitOf_eq (E := 1548) (by decide)
  have l := limbOf_eq (E := 1548) (by decide)
  rw [show ((1548 : Nat) : Int) - 1548 = 0 from by decide] at u l
  rw [u, bi1_s, l, bi1_s, bd_s, show imx (nI (207 - 1548 / 9) + 1) (nI 34) = nI 36 from by decide]
  show f_Decimal_cutBelow_22b (f_Decimal_cutBelow_22 1048575) _ _ _ _ _ _ = _
  unfold f_Decimal_cutBelow_22b
  rw [if_pos (by decide)]
  unfold f_Decimal_cutBelow_44
  rw [if_neg (by decide), if_neg (by decide), if_neg (by decide), show nI (207 - 1548 / 9) = nI 35 from rfl, limb_in hR (by decide), bi1_s, bi1_s, ck_s (by decide), setLimb_in (by decide) (by decide) (by decide), bi3_s, lm_0, show nI 0 - irm (nI 0) (nI (10 ^ (1548 % 9))) = 0 from by decide, show min 34 35 = 34 from by decide, show max 35 35 = 35 from by decide]
  unfold f_Decimal_cutBelow_82
  rw [trim34 (upd_0 hR 35), bi2_s]
theorem zero_rounded {a b : Nat → Int32} {F L W : Nat} (hR : Rw a W) (hz : Zo F L W) (hb : Rw b 0) : ∃ a', f_Decimal_setRounded (nI F) (nI L) a (nI 34) (nI 34) b (iI 0) = some (nI 34, nI 34, a') ∧ Rw a' 0 := by
  obtain ⟨a1, e1, r1⟩ := clear_eq hR hz
  have r2 := upd_0 (upd_0 r1 34) 35
  obtain ⟨a2, e2, r3⟩ := zero_cut r2
  refine ⟨a2, ?_, r3⟩
  have l := limbOf_eq (E := 1548) (by decide)
  have ro := roundsUpAt_eq (E := 1548) hb Tr_34 (by decide) (by decide)
  rw [show ((1548 : Nat) : Int) - 1548 = 0 from by decide] at l ro
  unfold f_Decimal_setRounded
  rw [e1, bi3_s]
  show f_Decimal_setRounded_9b (f_Decimal_setRounded_9 1048575) _ _ _ _ _ _ _ _ = _
  unfold f_Decimal_setRounded_9b
  rw [l, bi1_s, if_neg (by decide), limb_in hb (by decide), bi1_s, show (35 : Int32) = nI 35 from rfl, setLimb_in (by decide) (by decide) (by decide), bi3_s, bd_s, lm_0]
  show f_Decimal_setRounded_9b (f_Decimal_setRounded_9 1048574) _ _ _ _ _ _ _ (nI 35) = _
  unfold f_Decimal_setRounded_9b
  rw [l, bi1_s, if_neg (by decide), limb_in hb (by decide), bi1_s, setLimb_in (by decide) (by decide) (by decide), bi3_s, bd_s, lm_0]
  show f_Decimal_setRounded_9b (f_Decimal_setRounded_9 1048573) _ _ _ _ _ _ _ (nI 36) = _
  unfold f_Decimal_setRounded_9b f_Decimal_setRounded_33
  rw [l, bi1_s, if_pos (by decide), show nI (min (min 35 34) 35) = nI 34 from rfl, show nI (max (max 35 34) 35) = nI 35 from rfl, show nI 0 = (0 : Int32) from rfl, e2, bi3_s, ro, bi1_s, if_pos (by rw [ru_dvd (Nat.dvd_zero _)]; rfl)]
theorem zero_near {a : Nat → Int32} (hR : Rw a 0) (sf : Int64) (sp si : Int32) : ∃ F' L' a' V', f_Decimal_findNearest (nI 34) (nI 34) a sf sp si = some (nI F', nI L', a', (0, 0, 0)) ∧ Rw a' V' ∧ Tr F' L' V' := by
  have hn := near_zero (PB 172)
  obtain ⟨F', L', a', V', e, r, t⟩ := fn91 (V0 := 0) (p := 0) (mo := false) sf sp si (by decide) hR Tr_34 ⟨by rw [Nat.zero_div, Nat.zero_div], by rw [Nat.zero_mod, Nat.zero_mod]; rfl, fun _ => Nat.dvd_zero _, fun _ => ⟨rfl, rfl⟩, fun h => absurd h (by decide)⟩ (PB_pos _)
  rw [hn] at e
  refine ⟨F', L', a', V', ?_, r, t⟩
  unfold f_Decimal_findNearest
  show f_Decimal_findNearest_7b (f_Decimal_findNearest_7 1048575) _ _ _ _ _ _ _ _ _ = _
  unfold f_Decimal_findNearest_7b
  rw [if_neg (by decide), if_pos (by decide)]
  exact e
/-- the first precision that gives the number back, at most 16 -/
theorem least_ex (P : Nat → Prop) : ∃ q, q ≤ 16 ∧ (∀ j, j < q → ¬ P j) ∧ (q = 16 ∨ P q) := by
  have key : ∀ n, (∃ q, q < n ∧ (∀ j, j < q → ¬ P j) ∧ P q) ∨ (∀ j, j < n → ¬ P j) := by
    intro n
    induction n with
    | zero => exact Or.inr (fun j hj => absurd hj (by omega))
    | succ n ih =>
      rcases ih with ⟨q, h1, h2, h3⟩ | ih
      · exact Or.inl ⟨q, by omega, h2, h3⟩
      · by_cases c : P n
        · exact Or.inl ⟨n, by omega, ih, c⟩
        · refine Or.inr (fun j hj => ?_)
          by_cases w : j = n
          · rw [w]; exact c
          · exact ih j (by omega)
  rcases key 16 with ⟨q, h1, h2, h3⟩ | h
  · exact ⟨q, by omega, h2, Or.inr h3⟩
  · exact ⟨16, by omega, h, Or.inl rfl⟩
/-- leastPrecision -/
theorem cleast {m : Nat} {E : Int} (h : Rl m E) {tv : Int} (htv : Tp (Vv m E) tv) {q : Nat} (hq : q ≤ 16) (hno : ∀ j, j < q → ¬ Sm m E tv j) (hyes : q = 16 ∨ Sm m E tv q) (hz : m = 0 → q = 0) {F L W : Nat} {a : Nat → Int32} (hR : Rw a W) (hT : Tr F L W) {F2 L2 W2 : Nat} {b : Nat → Int32} (hR2 : Rw b W2) (hT2 : Tr F2 L2 W2) (ag : Int64) (af ai : Int32) :
    ∃ (x1 : Int64) (x2 x3 : Int32) (F' L' W' : Nat) (a' : Nat → Int32) (F3 L3 W3 : Nat) (b' : Nat → Int32), f_N_leastPrecision ag af ai (nI F) (nI L) (nI F2) (nI L2) (lN m) (iI E) 0 a b = some (nI q, x1, x2, x3, nI F', nI L', nI F3, nI L3, a', b') ∧ Rw a' W' ∧ Tr F' L' W' ∧ Rw b' W3 ∧ Tr F3 L3 W3 := by
  unfold f_N_leastPrecision f_Size_factor f_Size_power
  rw [bi1_s, bi1_s]
  by_cases c : m = 0
  · have hE : E = 0 := by
      rcases h.2 with w | w
      · omega
      · exact w.2
    rw [hz c]
    subst hE c
    obtain ⟨a1, e1, r1⟩ := zero_prod hR hT.1
    obtain ⟨b1, e2, r2⟩ := zero_rounded hR2 hT2.1 r1
    obtain ⟨F', L', b2, V', e3, r3, t3⟩ := zero_near r2 ag af ai
    refine ⟨0, 0, 0, 34, 34, 0, a1, F', L', V', b2, ?_, r1, Tr_34, r3, t3⟩
    rw [e1, bi3_s, topPlace_0 r1 Tr_34, bi1_s]
    show f_N_leastPrecision_31b (f_N_leastPrecision_31 1048575) _ _ _ _ _ _ _ _ _ _ _ _ _ _ = _
    unfold f_N_leastPrecision_31b
    rw [if_neg (by decide), show (0 : Int32) - 0 = iI 0 from by decide, e2, bi3_s, e3, bi6_s, show f_Size_isSame 0 0 0 (lN 0) (iI 0) 0 = some 1 from by decide, bi1_s, if_neg (by decide)]
    rfl
  · obtain ⟨F1, L1, a1, e1, r1, t1⟩ := cprod h hR hT.1
    obtain ⟨E0, g1, g2, g3, e2⟩ := topPlace_eq r1 t1 (Vv_ne h c)
    have htv2 : Tp (Vv m E) ((E0 : Int) - 1548) := by
      refine Or.inr ⟨Vv_ne h c, by omega, by omega, ?_, ?_⟩
      · rw [show ((E0 : Int) - 1548 + 1548).toNat = E0 from by omega]; exact g1
      · rw [show ((E0 : Int) - 1548 + 1549).toNat = E0 + 1 from by omega]; exact g2
    rw [e1, bi3_s, e2, bi1_s, Tp_uniq htv2 htv]
    obtain ⟨x1, x2, x3, F', L', W', b', e3, r3, t3⟩ := cloop h c htv r1 t1 hq hno hyes q 0 fu ag af ai F2 L2 W2 b (by omega) (by unfold fu; omega) hR2 hT2
    exact ⟨x1, x2, x3, F1, L1, Vv m E, a1, F', L', W', b', e3, r1, t1, r3, t3⟩

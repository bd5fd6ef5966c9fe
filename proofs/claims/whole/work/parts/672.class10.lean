/-! decimals out of digits: what the class finds -/
set_option maxRecDepth 20000 in
theorem near_scale {N D c : Nat} (hc : 0 < c) : near (N * c) (D * c) = near N D := by
  unfold near
  rw [Nat.mul_right_comm, Nat.mul_div_mul_right _ _ hc, Nat.mul_mod_mul_right]
  congr 1
  apply decide_eq_decide.mpr
  constructor
  · intro q z
    rw [z, Nat.zero_mul] at q
    exact q rfl
  · intro q
    exact Nat.mul_ne_zero q (by omega)
theorem near_zero (D : Nat) : near 0 D = (0, 0, 0) := by
  unfold near
  rw [Nat.zero_mul, Nat.zero_div]
  exact rnd_zero _ _
theorem near_big {N D : Nat} (hD : 0 < D) (h : D * 2 ^ 1024 ≤ N) : near N D = (0, 0, 1) := by
  have h1 : 2 ^ 1024 ≤ N / D := by
    rw [Nat.le_div_iff_mul_le hD, Nat.mul_comm]
    exact h
  have h2 : 1025 ≤ bl (N / D) := by
    rcases Nat.lt_or_ge (bl (N / D)) 1025 with g | g
    · have := bl_le_iff.mp (show bl (N / D) ≤ 1024 from by omega)
      omega
    · exact g
  have e := near_up (N := N) (D := D) (p := 0) hD (by rw [Nat.pow_zero, Nat.mul_one]; omega)
  rw [← e, Nat.pow_zero, Nat.mul_one]
  exact rnd_big (by intro q; rw [q, bl_0] at h2; omega) (by decide) (by omega)
theorem near_small {N D : Nat} (h : N * 2 ^ 1076 < D) : near N D = (0, 0, 0) := by
  unfold near
  apply rnd_small
  have h1 : N * 2 ^ 2000 / D < 2 ^ 924 := by
    rw [Nat.div_lt_iff_lt_mul (by omega), show N * 2 ^ 2000 = 2 ^ 924 * (N * 2 ^ 1076) from by
      rw [show (2 : Nat) ^ 2000 = 2 ^ (1076 + 924) from rfl, Nat.pow_add, ← Nat.mul_assoc, Nat.mul_comm (2 ^ 924)]]
    exact Nat.mul_lt_mul_of_pos_left h (Nat.two_pow_pos 924)
  have := bl_le_iff.mpr h1
  omega
def val10 (T : Nat) (Q : Int) : Int64 × Int32 × Int32 := if 0 ≤ Q then near (T * 10 ^ Q.toNat) 1 else near T (10 ^ (-Q).toNat)
theorem tv_grow (g : Nat → Nat) (j : Nat) : ∀ m, tv g j * 10 ^ m ≤ tv g (j + m) := by
  intro m
  induction m with
  | zero => rw [Nat.pow_zero, Nat.mul_one]; exact Nat.le_refl _
  | succ m ih =>
    show _ ≤ 10 * tv g (j + m) + g (j + m)
    rw [Nat.pow_succ, ← Nat.mul_assoc]
    omega
theorem tv_lt (g : Nat → Nat) : ∀ k, (∀ j, j < k → g j < 10) → tv g k < 10 ^ k := by
  intro k
  induction k with
  | zero => intro _; exact Nat.one_pos
  | succ k ih =>
    intro h
    have h1 := ih (fun j hj => h j (by omega))
    have h2 := h k (by omega)
    show 10 * tv g k + g k < _
    rw [Nat.pow_succ]
    omega
theorem two_1024 : (2 : Nat) ^ 1024 ≤ 10 ^ 310 := by decide +kernel
theorem two_1076 : (2 : Nat) ^ 1076 ≤ 10 ^ 324 := by decide +kernel
theorem ten_le {a b : Nat} (h : a ≤ b) : 10 ^ a ≤ 10 ^ b := Nat.pow_le_pow_right (by decide) h
theorem val10_big {T E : Nat} {Q : Int} (hT : 10 ^ E ≤ T) (h : 310 ≤ (E : Int) + Q) : val10 T Q = (0, 0, 1) := by
  unfold val10
  by_cases c : 0 ≤ Q
  · rw [if_pos c]
    apply near_big (by decide)
    rw [Nat.one_mul]
    calc 2 ^ 1024 ≤ 10 ^ 310 := two_1024
      _ ≤ 10 ^ (E + Q.toNat) := ten_le (by omega)
      _ = 10 ^ E * 10 ^ Q.toNat := Nat.pow_add _ _ _
      _ ≤ T * 10 ^ Q.toNat := Nat.mul_le_mul_right _ hT
  · rw [if_neg c]
    apply near_big (ten_pos _)
    calc 10 ^ (-Q).toNat * 2 ^ 1024 ≤ 10 ^ (-Q).toNat * 10 ^ 310 := Nat.mul_le_mul_left _ two_1024
      _ = 10 ^ ((-Q).toNat + 310) := (Nat.pow_add _ _ _).symm
      _ ≤ 10 ^ E := ten_le (by omega)
      _ ≤ T := hT
theorem val10_small {T D : Nat} {Q : Int} (hT : T < 10 ^ D) (h : (D : Int) + Q ≤ -324) : val10 T Q = (0, 0, 0) := by
  unfold val10
  rw [if_neg (by omega)]
  apply near_small
  calc T * 2 ^ 1076 < 10 ^ D * 2 ^ 1076 := Nat.mul_lt_mul_of_pos_right hT (Nat.two_pow_pos 1076)
    _ ≤ 10 ^ D * 10 ^ 324 := Nat.mul_le_mul_left _ two_1076
    _ = 10 ^ (D + 324) := (Nat.pow_add _ _ _).symm
    _ ≤ 10 ^ (-Q).toNat := ten_le (by omega)
theorem val10_0 (Q : Int) : val10 0 Q = (0, 0, 0) := by
  unfold val10
  by_cases c : 0 ≤ Q
  · rw [if_pos c, Nat.zero_mul]; exact near_zero _
  · rw [if_neg c]; exact near_zero _
theorem near_Vat {T D : Nat} {Q : Int} (hT : T < 10 ^ D) (hD : D ≤ 1200) : near (Vat T (Q + 1548)) (PB 172) = val10 T Q ∧ (PB 174 ≤ Vat T (Q + 1548) → 1073741824 ∣ Vat T (Q + 1548)) := by
  have e172 : PB 172 = 10 ^ 1548 := PB_ten 172
  have e174 : PB 174 = 10 ^ 1566 := PB_ten 174
  by_cases c : 0 ≤ Q + 1548
  · rw [Vat_pos c]
    constructor
    · unfold val10
      by_cases d : 0 ≤ Q
      · rw [if_pos d, e172, show (Q + 1548).toNat = Q.toNat + 1548 from by omega, Nat.pow_add, ← Nat.mul_assoc]
        have := near_scale (N := T * 10 ^ Q.toNat) (D := 1) (c := 10 ^ 1548) (ten_pos _)
        rw [Nat.one_mul] at this
        exact this
      · rw [if_neg d, e172, show (10 : Nat) ^ 1548 = 10 ^ (-Q).toNat * 10 ^ (Q + 1548).toNat from by rw [← Nat.pow_add]; congr 1; omega]
        exact near_scale (ten_pos _)
    · intro h
      rw [e174] at h
      generalize (Q + 1548).toNat = e at h
      have h1 : 10 ^ 1566 < 10 ^ (D + e) := by
        rw [Nat.pow_add]
        exact Nat.lt_of_le_of_lt h (Nat.mul_lt_mul_of_pos_right hT (ten_pos e))
      have h2 : 1566 < D + e := (Nat.pow_lt_pow_iff_right (by decide)).mp h1
      refine Nat.dvd_trans ?_ (Nat.dvd_mul_left _ _)
      exact Nat.dvd_trans (show 1073741824 ∣ 10 ^ 30 from by decide) (Nat.pow_dvd_pow 10 (by omega))
  · rw [Vat_neg c]
    have hle : T / 10 ^ (-(Q + 1548)).toNat ≤ T := Nat.div_le_self _ _
    generalize T / 10 ^ (-(Q + 1548)).toNat = V at hle
    constructor
    · rw [val10_small hT (by omega)]
      apply near_small
      rw [e172]
      calc V * 2 ^ 1076 < 10 ^ D * 2 ^ 1076 := Nat.mul_lt_mul_of_pos_right (by omega) (Nat.two_pow_pos 1076)
        _ ≤ 10 ^ D * 10 ^ 324 := Nat.mul_le_mul_left _ two_1076
        _ = 10 ^ (D + 324) := (Nat.pow_add _ _ _).symm
        _ ≤ 10 ^ 1548 := ten_le (by omega)
    · intro h
      rw [e174] at h
      have := ten_le (show D ≤ 1566 by omega)
      omega
theorem bi6_r {β α1 α2 α3 α4 α5 α6 : Type} {a1 : α1} {a2 : α2} {a3 : α3} {r : α4 × α5 × α6} {k : α1 → α2 → α3 → α4 → α5 → α6 → Option β} : bi6 (some (a1, a2, a3, r)) k = k a1 a2 a3 r.1 r.2.1 r.2.2 := rfl
theorem class10 {n : Nat} (hn : n ≤ 1200) (t : Nat → Int32) (g : Nat → Nat) {s k1 k2 : Nat} (hp : Bool) (hT : s + k1 + (if hp then 1 + k2 else 0) ≤ n) (hk2 : hp = false → k2 = 0) (h1 : ∀ j, j < k1 → dv false (bt8 t (s + j)) = some (g j)) (h46 : hp = true → bt8 t (s + k1) = 46) (h2 : ∀ j, j < k2 → dv false (bt8 t (s + k1 + 1 + j)) = some (g (k1 + j))) {P : Int} (hP : -100000 ≤ P) (hP2 : P ≤ 100000) {F L V : Nat} {a : Nat → Int32} (hR : Rw a V) (hz : Zo F L V) (dg : Int32) (pf : Int64) (pp pi : Int32) :
    ∃ F' L' V' a', f_Numeral_findSize 0 (nI s) (nI (s + k1 + (if hp then 1 + k2 else 0))) (nI k1) dg (iI P) (nI n) t (nI F) (nI L) a pf pp pi = some (nI F', nI L', a', val10 (tv g (k1 + k2)) (P - k2)) ∧ Rw a' V' ∧ Tr F' L' V' := by
  have hD : k1 + k2 ≤ 1200 := by
    cases hp with
    | true => rw [if_pos rfl] at hT; omega
    | false => have := hk2 rfl; omega
  have hdig : ∀ j, j < k1 + k2 → g j < 10 := by
    intro j hj
    by_cases c : j < k1
    · exact (dv_lt _ (bt8_lt _ _) false _ (h1 j c)).2 rfl
    · have := h2 (j - k1) (by omega)
      rw [show k1 + (j - k1) = j from by omega] at this
      exact (dv_lt _ (bt8_lt _ _) false _ this).2 rfl
  have hTv := tv_lt g (k1 + k2) hdig
  obtain ⟨a0, e0, r0⟩ := clear_eq hR hz
  have hI0 : PI g k1 P 0 35 35 0 a0 := by
    refine ⟨r0, Tr_0, ?_, fun _ => rfl, ten_pos 1858⟩
    show 0 = Vat 0 _
    unfold Vat
    by_cases c : 0 ≤ (k1 : Int) + P - (0 : Nat) + 1548
    · rw [if_pos c, Nat.zero_mul]
    · rw [if_neg c, Nat.zero_div]
  have hstart : ∀ T', f_Numeral_putDigits (nI s) (nI T') (nI k1) (iI P) (nI n) t (nI F) (nI L) a = f_Numeral_putDigits_21 fu (nI s) (nI T') (nI k1) (iI P) (nI n) t (nI 35) (nI 35) a0 (iI (k1 + P - 1 - (0 : Nat))) (nI s) := by
    intro T'
    unfold f_Numeral_putDigits
    rw [bd_s, e0, bi3_s, show (nI k1 - (1 : Int32)) + iI P = iI (k1 + P - 1 - (0 : Nat)) from by
      rw [iI_nI, show (1 : Int32) = iI 1 from by decide, iI_sub, iI_add]
      congr 1
      omega]
    rfl
  have big : ∀ j', j' ≤ k1 + k2 → 1 ≤ tv g j' → 310 ≤ (k1 : Int) + P - j' → val10 (tv g (k1 + k2)) (P - k2) = (0, 0, 1) := by
    intro j' q1 q2 q3
    have h := tv_grow g j' (k1 + k2 - j')
    rw [show j' + (k1 + k2 - j') = k1 + k2 from by omega] at h
    have h' : 1 * 10 ^ (k1 + k2 - j') ≤ tv g j' * 10 ^ (k1 + k2 - j') := Nat.mul_le_mul_right _ q2
    exact val10_big (E := k1 + k2 - j') (by omega) (by omega)
  have small : ∀ F' L' V' a' T', PI g k1 P (k1 + k2) F' L' V' a' → (∀ f, f_Numeral_putDigits_21 (f + 1) (nI s) (nI T') (nI k1) (iI P) (nI n) t (nI F') (nI L') a' (iI (k1 + P - 1 - (k1 + k2 : Nat))) (nI T') = some (1, nI F', nI L', a')) ∧ ∃ F2 L2 V2 a2, f_Decimal_findNearest (nI F') (nI L') a' pf pp pi = some (nI F2, nI L2, a2, val10 (tv g (k1 + k2)) (P - k2)) ∧ Rw a2 V2 ∧ Tr F2 L2 V2 := by
    intro F' L' V' a' T' hI
    constructor
    · intro f
      show f_Numeral_putDigits_21b _ _ _ _ _ _ _ _ _ _ _ _ = _
      unfold f_Numeral_putDigits_21b
      rw [if_pos (Int32.le_refl _)]
    · obtain ⟨q1, q2, q3, q4, q5⟩ := hI
      rw [show (k1 : Int) + P - (k1 + k2 : Nat) + 1548 = (P - k2) + 1548 from by omega] at q3
      obtain ⟨w1, w2⟩ := near_Vat (Q := P - k2) hTv hD
      obtain ⟨F2, L2, a2, V2, e2, r2, t2⟩ := findNearest_eq pf pp pi q1 q2 q4 (by rw [q3]; exact w2)
      rw [q3, w1] at e2
      exact ⟨F2, L2, V2, a2, e2, r2, t2⟩
  have outI : ∀ T' F' L' V' a' j', f_Numeral_putDigits (nI s) (nI T') (nI k1) (iI P) (nI n) t (nI F) (nI L) a = some (0, nI F', nI L', a') → Rw a' V' → Tr F' L' V' → j' ≤ k1 + k2 → 1 ≤ tv g j' → 310 ≤ (k1 : Int) + P - j' → ∃ F' L' V' a', f_Numeral_findSize 0 (nI s) (nI T') (nI k1) dg (iI P) (nI n) t (nI F) (nI L) a pf pp pi = some (nI F', nI L', a', val10 (tv g (k1 + k2)) (P - k2)) ∧ Rw a' V' ∧ Tr F' L' V' := by
    intro T' F' L' V' a' j' he hr ht w1 w2 w3
    refine ⟨F', L', V', a', ?_, hr, ht⟩
    unfold f_Numeral_findSize
    rw [if_pos rfl, he, bi4_s, if_pos rfl, big j' w1 w2 w3]
    rfl
  have outF : ∀ T' F' L' V' a', f_Numeral_putDigits (nI s) (nI T') (nI k1) (iI P) (nI n) t (nI F) (nI L) a = some (1, nI F', nI L', a') → PI g k1 P (k1 + k2) F' L' V' a' → ∃ F' L' V' a', f_Numeral_findSize 0 (nI s) (nI T') (nI k1) dg (iI P) (nI n) t (nI F) (nI L) a pf pp pi = some (nI F', nI L', a', val10 (tv g (k1 + k2)) (P - k2)) ∧ Rw a' V' ∧ Tr F' L' V' := by
    intro T' F' L' V' a' he hI
    obtain ⟨-, F2, L2, V2, a2, e2, r2, t2⟩ := small F' L' V' a' T' hI
    refine ⟨F2, L2, V2, a2, ?_, r2, t2⟩
    unfold f_Numeral_findSize
    rw [if_pos rfl, he, bi4_s, if_neg (by decide), e2, bi6_r]
  generalize hTT : s + k1 + (if hp then 1 + k2 else 0) = T at hT
  have hTk : s + k1 ≤ T := by omega
  rcases pd_run hn t (nI s) (nI k1) (iI P) g (T := T) (k1 := k1) (P := P) hT (by omega) hP hP2 k1 s 0 35 35 0 a0 hTk (by omega) (by
      intro j hj
      rw [Nat.zero_add]
      exact h1 j hj) hI0 with ⟨F1, L1, V1, a1, j1, r1, t1, w1, w2, w3, w4⟩ | ⟨F1, L1, V1, a1, hI1, w4⟩
  · refine outI T F1 L1 V1 a1 j1 ?_ r1 t1 (by omega) w2 w3
    rw [hstart, show fu = (fu - k1) + k1 from by unfold fu; omega]
    exact w4 _
  · rw [Nat.zero_add] at hI1 w4
    cases hp with
    | false =>
      have hk0 := hk2 rfl
      subst hk0
      rw [if_neg (by decide), Nat.add_zero] at hTT
      subst hTT
      rw [Nat.add_zero] at *
      refine outF _ F1 L1 V1 a1 ?_ hI1
      rw [hstart, show fu = (fu - k1) + k1 from by unfold fu; omega, w4, show fu - k1 = (fu - k1 - 1) + 1 from by unfold fu; omega]
      exact (small F1 L1 V1 a1 _ hI1).1 _
    | true =>
      rw [if_pos rfl] at hTT
      rcases pd_run hn t (nI s) (nI k1) (iI P) g (T := T) (k1 := k1) (P := P) hT (by omega) hP hP2 k2 (s + k1 + 1) k1 F1 L1 V1 a1 (by omega) hD h2 hI1 with ⟨F3, L3, V3, a3, j3, r3, t3, x1, x2, x3, x4⟩ | ⟨F3, L3, V3, a3, hI3, x4⟩
      · refine outI T F3 L3 V3 a3 j3 ?_ r3 t3 x1 x2 x3
        rw [hstart, show fu = (fu - k1) + k1 from by unfold fu; omega, w4, show fu - k1 = (fu - k1 - 1) + 1 from by unfold fu; omega, pd_point hn t _ _ _ (by omega) hT (h46 rfl), show fu - k1 - 1 = (fu - k1 - 1 - k2) + k2 from by unfold fu; omega]
        exact x4 _
      · refine outF T F3 L3 V3 a3 ?_ hI3
        rw [hstart, show fu = (fu - k1) + k1 from by unfold fu; omega, w4, show fu - k1 = (fu - k1 - 1) + 1 from by unfold fu; omega, pd_point hn t _ _ _ (by omega) hT (h46 rfl), show fu - k1 - 1 = (fu - k1 - 1 - k2) + k2 from by unfold fu; omega, x4, show s + k1 + 1 + k2 = T from by omega, show fu - k1 - 1 - k2 = (fu - k1 - 1 - k2 - 1) + 1 from by unfold fu; omega]
        exact (small F3 L3 V3 a3 _ hI3).1 _

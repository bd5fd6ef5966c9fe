/-! forms e and g: reference; rounding once more -/
theorem Rt_zero {rl : Int32} {rp : Int} {rd : Nat → Int32} (h : Rt 0 rl rp rd) (rp' : Int) : Rt 0 rl rp' rd := by
  intro k h1 h2
  have z : ∀ p, dgZ 0 p = 0 := by
    intro p
    unfold dgZ dg
    rw [Nat.zero_div]
    split <;> rfl
  rw [h k h1 h2, z, z]
theorem mpw21 {R : Nat} {rl : Int32} {t : Int} {rd : Nat → Int32} (hRt : Rt R rl (t + 1) rd) (vl rpI lt : Int32) {b : Nat} (hb : b ≤ 1000) : ∀ (m k f : Nat) (sz : Int32) (a : Nat → Int32) (l : List Nat), k + m = b → m < f → Pt sz a (l ++ dn R (t - 1) k) → l.length + b < 700 →
    ∃ sz' a', f_M_power_21 f vl rl rpI sz a rd (nI b) lt (nI k) = f_M_power_48 vl rl rpI sz' a' rd lt ∧ Pt sz' a' (l ++ dn R (t - 1) b) := by
  intro m
  induction m with
  | zero =>
    intro k f sz a l h hf hP hl
    obtain ⟨f, rfl⟩ : ∃ j, f = j + 1 := ⟨f - 1, by omega⟩
    have : k = b := by omega
    subst this
    refine ⟨sz, a, ?_, hP⟩
    show f_M_power_21b _ _ _ _ _ _ _ _ _ _ = _
    unfold f_M_power_21b
    rw [if_pos (Int32.le_refl _)]
  | succ m ih =>
    intro k f sz a l h hf hP hl
    obtain ⟨f, rfl⟩ : ∃ j, f = j + 1 := ⟨f - 1, by omega⟩
    have hd := dgZ_lt R (t - 1 - k)
    obtain ⟨s1, a1, e1, h1⟩ := mput (b := 48 + dgZ R (t - 1 - k)) hP (by rw [List.length_append, dn_len]; omega) (by omega)
    rw [List.append_assoc, dn_succ] at h1
    obtain ⟨s2, a2, e2, h2⟩ := ih (k + 1) f s1 a1 l (by omega) (by omega) h1 hl
    refine ⟨s2, a2, ?_, h2⟩
    show f_M_power_21b _ _ _ _ _ _ _ _ _ _ = _
    unfold f_M_power_21b
    rw [if_neg (nI_ge (by omega) (by omega)), show (1 : Int32) + nI k = iI (1 + k) from by rw [iI_nI, show (1 : Int32) = iI 1 from by decide, iI_add], hRt _ (by omega) (by omega), bi1_s, show t + 1 - 1 - (1 + (k : Int)) = t - 1 - k from by omega, add48, e1, bi2_s, bd_s, nI_1]
    exact e2
theorem mpowerf {R L : Nat} {rl : Int32} {t rp : Int} {rd : Nat → Int32} (hRt : Rt R rl (t + 1) rd) (ht : -1200 ≤ t) (ht2 : t ≤ 400) (hL : L ≤ 1200) (hrp : (L = 0 ∧ t = 0) ∨ (L ≠ 0 ∧ t = rp - 1)) {c : Nat} (hc : Dc t.natAbs c) {b : Nat} (hb : b ≤ 102) (al : Bool) {lt : Nat} (hlt : lt < 128) {sz : Int32} {a : Nat → Int32} {l : List Nat} (hP : Pt sz a l) (hl : l.length ≤ 100) :
    ∃ sz' a', f_M_power (nI L) rl (iI rp) sz a rd (nI b) (bz al) (nI lt) = some (sz', a') ∧ Pt sz' a' (l ++ cE R t b al lt (max 2 c)) := by
  have hd := dgZ_lt R t
  obtain ⟨s1, a1, e1, q1⟩ := mput (b := 48 + dgZ R t) hP (by omega) (by omega)
  obtain ⟨s2, a2, e2, q2⟩ := mpoint q1 (by rw [List.length_append, List.length_singleton]; omega) (b := b) (by omega) al
  have hpl := ppt_len b al
  obtain ⟨s3, a3, e3, q3⟩ := mpw21 hRt (nI L) (iI rp) (nI lt) (b := b) (by omega) b 0 fu s2 a2 _ (by omega) (by unfold fu; omega) (by
    show Pt s2 a2 (_ ++ [])
    rw [List.append_nil]; exact q2) (by simp only [List.length_append, List.length_singleton]; omega)
  obtain ⟨s4, a4, e4, q4⟩ := mpower (t := t) (by omega) (by omega) hc (ls := 2) (by decide) (by decide) hlt q3 (by simp only [List.length_append, dn_len, List.length_singleton]; omega)
  refine ⟨s4, a4, ?_, ?_⟩
  · unfold f_M_power
    rw [show (0 : Int32) = iI 0 from by decide, hRt 0 (by decide) (by decide), bi1_s, show t + 1 - 1 - 0 = t from by omega, add48, e1, bi2_s, e2, bi2_s, show iI 0 = nI 0 from by decide, e3]
    unfold f_M_power_48 f_M_power_67
    rcases hrp with ⟨h1, h2⟩ | ⟨h1, h2⟩
    · rw [if_pos (by rw [h1]; rfl), show (0 : Int32) = iI t from by rw [h2]; decide, show (2 : Int32) = nI 2 from rfl, e4, bi2_s]
    · rw [if_neg (nI_ne0 (by omega) (by omega)), show iI rp - (1 : Int32) = iI t from by rw [h2, show (1 : Int32) = iI 1 from by decide, iI_sub], show (2 : Int32) = nI 2 from rfl, e4, bi2_s]
  · unfold cE
    simp only [List.append_assoc] at q4 ⊢
    exact q4
theorem mneeded {R : Nat} {rl : Int32} {t : Int} {rd : Nat → Int32} (hRt : Rt R rl (t + 1) rd) {x : Int} (hx : -1200 ≤ x) (hx2 : x ≤ 1200) : ∀ (b f : Nat), b < 1000 → b < f →
    f_M_needed_2 f rl rd (iI x) (nI b) = some (nI (need R (t - x - 1) b)) := by
  intro b
  induction b with
  | zero =>
    intro f hb hf
    obtain ⟨f, rfl⟩ : ∃ j, f = j + 1 := ⟨f - 1, by omega⟩
    show f_M_needed_2b _ _ _ _ _ = _
    unfold f_M_needed_2b
    rw [if_pos (by decide)]
    rfl
  | succ b ih =>
    intro f hb hf
    obtain ⟨f, rfl⟩ : ∃ j, f = j + 1 := ⟨f - 1, by omega⟩
    have hd := dgZ_lt R (t - x - 1 - b)
    show f_M_needed_2b _ _ _ _ _ = _
    unfold f_M_needed_2b
    rw [if_neg (nI_nle (by omega) (by omega)), show iI x + nI (b + 1) = iI (x + (b + 1 : Nat)) from by rw [iI_nI, iI_add], hRt _ (by omega) (by omega), bi1_s, show t + 1 - 1 - (x + ((b + 1 : Nat) : Int)) = t - x - 1 - b from by omega, ite_c (nI_eq0 (by omega))]
    unfold need
    by_cases d : dgZ R (t - x - 1 - b) = 0
    · rw [if_pos d, if_pos d, bd_s, show nI (b + 1) + (-1 : Int32) = nI b from by rw [sub_one _ (by omega), iI_nI]; congr 1; omega]
      exact ih f (by omega) (by omega)
    · rw [if_neg d, if_neg d]
/-- rounding once more changes nothing -/
theorem rdE_again {V E E' : Nat} (hE : E ≤ E') (h : 10 ^ E' ∣ rdE V E) : rdE V E' = rdE V E := by
  by_cases c : E = E'
  · rw [c]
  · have hu := ten_pos E
    obtain ⟨k, hk⟩ := h
    have hU : 10 ^ E' = 10 ^ E * (10 * 10 ^ (E' - E - 1)) := by
      rw [show 10 * 10 ^ (E' - E - 1) = 10 ^ (E' - E - 1 + 1) from by rw [Nat.pow_succ]; omega, ← Nat.pow_add]
      congr 1
      omega
    have hU10 : 10 * 10 ^ E ≤ 10 ^ E' := by
      rw [hU, Nat.mul_comm 10]
      exact Nat.mul_le_mul_left _ (Nat.le_mul_of_pos_right _ (ten_pos _))
    have hdm := Nat.div_add_mod V (10 ^ E)
    have hr : V % 10 ^ E < 10 ^ E := Nat.mod_lt _ hu
    have hrd := rdE_div V E
    rw [hk] at hrd ⊢
    by_cases hup : ru V E = true
    · rw [hup, if_pos rfl, Nat.add_mul, Nat.one_mul, Nat.mul_comm (V / 10 ^ E)] at hrd
      have hge : 10 ^ E ≤ 2 * (V % 10 ^ E) := by
        unfold ru at hup
        have := of_decide_eq_true hup
        omega
      have hk1 : 1 ≤ k := by
        rcases Nat.eq_zero_or_pos k with z | z
        · rw [z, Nat.mul_zero] at hrd
          omega
        · exact z
      have e1 : 10 ^ E' * k = 10 ^ E' * (k - 1) + 10 ^ E' := by
        rw [← Nat.mul_succ]
        congr 1
        omega
      have e2 : V = 10 ^ E' * (k - 1) + (10 ^ E' - (10 ^ E - V % 10 ^ E)) := by omega
      have m1 : V % 10 ^ E' = 10 ^ E' - (10 ^ E - V % 10 ^ E) := by
        rw [e2, Nat.mul_add_mod]
        rw [← e2]
        exact Nat.mod_eq_of_lt (by omega)
      have hup2 : ru V E' = true := by
        unfold ru
        rw [m1, decide_eq_true]
        left
        omega
      unfold rdE
      rw [hup2, if_pos rfl, m1]
      omega
    · have hup : ru V E = false := by cases q : ru V E <;> simp_all
      rw [hup, if_neg (by decide), Nat.add_zero, Nat.mul_comm (V / 10 ^ E)] at hrd
      have hle : 2 * (V % 10 ^ E) ≤ 10 ^ E := by
        unfold ru at hup
        have := of_decide_eq_false hup
        omega
      have e2 : V = 10 ^ E' * k + V % 10 ^ E := by omega
      have m1 : V % 10 ^ E' = V % 10 ^ E := by
        rw [e2, Nat.mul_add_mod]
        rw [← e2]
        exact Nat.mod_eq_of_lt (by omega)
      have hup2 : ru V E' = false := by
        unfold ru
        rw [m1, decide_eq_false]
        omega
      unfold rdE
      rw [hup2, if_neg (by decide), m1]
      omega
theorem rdE_le {V E X : Nat} (h : V < 10 ^ X) (hE : E ≤ X) : rdE V E ≤ 10 ^ X := by
  have hu := ten_pos E
  have e1 : 10 ^ X = 10 ^ E * 10 ^ (X - E) := by rw [← Nat.pow_add]; congr 1; omega
  have h1 : V / 10 ^ E < 10 ^ (X - E) := by
    rw [Nat.div_lt_iff_lt_mul hu, Nat.mul_comm, ← e1]
    exact h
  rw [rdE_div, e1, Nat.mul_comm]
  apply Nat.mul_le_mul_left
  split <;> omega
theorem dvd_step {R E : Nat} (h : 10 ^ E ∣ R) (hd : dg R E = 0) : 10 ^ (E + 1) ∣ R := by
  apply Nat.dvd_of_mod_eq_zero
  rw [dg_split, hd, Nat.mod_eq_zero_of_dvd h]
  omega
theorem dvd_need {R : Nat} {p : Int} {k : Nat} (hp : k < (p + 1548).toNat + 1) (hp2 : 0 ≤ p + 1548) (h : 10 ^ ((p + 1548).toNat + 1 - k) ∣ R) : ∀ j, j ≤ k → need R p k ≤ k - j → 10 ^ ((p + 1548).toNat + 1 - (k - j)) ∣ R := by
  intro j
  induction j with
  | zero => intro _ _; exact h
  | succ j ih =>
    intro hj hn
    have h1 := ih (by omega) (by omega)
    have hz := need_zero R p k (k - (j + 1)) hn (by omega)
    have : dg R ((p + 1548).toNat + 1 - (k - j)) = 0 := by
      unfold dgZ at hz
      rw [if_neg (by omega)] at hz
      rw [show (p - ((k - (j + 1) : Nat) : Int) + 1548).toNat = (p + 1548).toNat + 1 - (k - j) from by omega] at hz
      exact hz
    have := dvd_step h1 this
    rw [show (p + 1548).toNat + 1 - (k - j) + 1 = (p + 1548).toNat + 1 - (k - (j + 1)) from by omega] at this
    exact this

/-! digits in a row, on both sides -/
def dn (R : Nat) : Int → Nat → List Nat
  | _, 0 => []
  | p, k + 1 => (48 + dgZ R p) :: dn R (p - 1) k
theorem dn_len (R : Nat) : ∀ (k : Nat) (p : Int), (dn R p k).length = k := by
  intro k
  induction k with
  | zero => intro p; rfl
  | succ k ih => intro p; show (dn R (p - 1) k).length + 1 = k + 1; rw [ih]
theorem dn_By (R : Nat) : ∀ (k : Nat) (p : Int), By (dn R p k) := by
  intro k
  induction k with
  | zero => intro p; exact By_nil
  | succ k ih =>
    intro p
    have := dgZ_lt R p
    show By ([48 + dgZ R p] ++ dn R (p - 1) k)
    exact By_app (By_one (by omega)) (ih _)
theorem dn_succ (R : Nat) : ∀ (k : Nat) (p : Int), dn R p k ++ [48 + dgZ R (p - k)] = dn R p (k + 1) := by
  intro k
  induction k with
  | zero =>
    intro p
    show [48 + dgZ R (p - (0 : Nat))] = [48 + dgZ R p]
    rw [show p - ((0 : Nat) : Int) = p from by omega]
  | succ k ih =>
    intro p
    show (48 + dgZ R p) :: (dn R (p - 1) k ++ [48 + dgZ R (p - (k + 1 : Nat))]) = (48 + dgZ R p) :: dn R (p - 1) (k + 1)
    rw [← ih (p - 1), show p - ((k + 1 : Nat) : Int) = p - 1 - k from by omega]
theorem dn_zero : ∀ (k : Nat) (p q : Int), dn 0 p k = dn 0 q k := by
  have z : ∀ p, dgZ 0 p = 0 := by
    intro p
    unfold dgZ dg
    rw [Nat.zero_div]
    split <;> rfl
  intro k
  induction k with
  | zero => intro p q; rfl
  | succ k ih =>
    intro p q
    show (48 + dgZ 0 p) :: dn 0 (p - 1) k = (48 + dgZ 0 q) :: dn 0 (q - 1) k
    rw [z, z, ih (p - 1) (q - 1)]
def ppt (b : Nat) (al : Bool) : List Nat := if 0 < b ∨ al = true then [46] else []
theorem ppt_By (b : Nat) (al : Bool) : By (ppt b al) := by
  unfold ppt
  split
  · exact By_one (by decide)
  · exact By_nil
theorem ppt_len (b : Nat) (al : Bool) : (ppt b al).length ≤ 1 := by
  unfold ppt
  split <;> simp
/-- place of the first digit; 0 for 0 -/
def Tp (R : Nat) (t : Int) : Prop := (R = 0 ∧ t = 0) ∨ (R ≠ 0 ∧ -1548 ≤ t ∧ t < 324 ∧ 10 ^ (t + 1548).toNat ≤ R ∧ R < 10 ^ (t + 1549).toNat)
theorem Tp_uniq {R : Nat} {t s : Int} (h1 : Tp R t) (h2 : Tp R s) : t = s := by
  rcases h1 with ⟨a1, a2⟩ | ⟨a1, a2, a3, a4, a5⟩
  · rcases h2 with ⟨b1, b2⟩ | ⟨b1, b2, b3, b4, b5⟩
    · omega
    · exact absurd a1 b1
  · rcases h2 with ⟨b1, b2⟩ | ⟨b1, b2, b3, b4, b5⟩
    · exact absurd b1 a1
    · have c1 : 10 ^ (t + 1548).toNat < 10 ^ (s + 1549).toNat := by omega
      have c2 : 10 ^ (s + 1548).toNat < 10 ^ (t + 1549).toNat := by omega
      have c1 := (Nat.pow_lt_pow_iff_right (show 1 < 10 by decide)).mp c1
      have c2 := (Nat.pow_lt_pow_iff_right (show 1 < 10 by decide)).mp c2
      omega
theorem topPlace_t {a : Nat → Int32} {F L R : Nat} (hR : Rw a R) (hT : Tr F L R) : ∃ t, Tp R t ∧ f_Decimal_topPlace (nI F) a = some (iI t) := by
  by_cases c : R = 0
  · subst c
    exact ⟨0, Or.inl ⟨rfl, rfl⟩, topPlace_0 hR hT⟩
  · obtain ⟨E, h1, h2, h3, h4⟩ := topPlace_eq hR hT c
    refine ⟨(E : Int) - 1548, Or.inr ⟨c, by omega, by omega, ?_, ?_⟩, h4⟩
    · rw [show ((E : Int) - 1548 + 1548).toNat = E from by omega]; exact h1
    · rw [show ((E : Int) - 1548 + 1549).toNat = E + 1 from by omega]; exact h2
theorem Tp_range {R : Nat} {t : Int} (h : Tp R t) : -1548 ≤ t ∧ t < 324 := by
  rcases h with ⟨a1, a2⟩ | ⟨a1, a2, a3, a4, a5⟩ <;> omega
theorem digit_Z {a : Nat → Int32} {R : Nat} (hR : Rw a R) {p : Int} (h : -1548 ≤ p) (h2 : p < 324) : f_Decimal_digit a (iI p) = some (nI (dgZ R p)) := by
  have := digit_eq hR (E := (p + 1548).toNat) (by omega)
  rw [show (((p + 1548).toNat : Nat) : Int) - 1548 = p from by omega] at this
  rw [this]
  unfold dgZ
  rw [if_neg (by omega)]
/-! the class -/
theorem cpoint {fl : Nat} (hfl : fl < 32) {sz : Int32} {a : Nat → Int32} {l : List Nat} (hP : Pt sz a l) (hl : l.length < 420) {b : Nat} (hb : b < 1000) :
    ∃ sz' a', f_Writer_putPoint (nI fl) sz a (nI b) = some (sz', a') ∧ Pt sz' a' (l ++ ppt b (decide (fl / 8 % 2 = 1))) := by
  unfold f_Writer_putPoint f_Writer_putPoint_13
  obtain ⟨s1, a1, e1, h1⟩ := cput (b := 46) hP hl (by decide)
  rw [show (46 : Int32) = nI 46 from rfl, e1, bi2_s, has8 fl hfl, bi1_s, ite_c (bz_f _)]
  unfold ppt
  by_cases c : 0 < b
  · rw [if_pos (show (0 : Int32) < nI b from nI_lt (a := 0) c (by omega)), if_pos (Or.inl c)]
    exact ⟨s1, a1, rfl, h1⟩
  · have : b = 0 := by omega
    subst this
    rw [if_neg (by decide)]
    by_cases d : fl / 8 % 2 = 1
    · rw [if_neg (by simp [d]), if_pos (Or.inr (decide_eq_true d))]
      exact ⟨s1, a1, rfl, h1⟩
    · rw [if_pos (by simp [d]), if_neg (by simp [d]), List.append_nil]
      exact ⟨sz, a, rfl, hP⟩
theorem add48 {d : Nat} : (48 : Int32) + nI d = nI (48 + d) := nI_add 48 d
theorem cbehind7 {ex : Nat → Int32} {R : Nat} (hR : Rw ex R) (flI : Int32) {p : Int} {b : Nat} (hp : -1548 ≤ p - b) (hp2 : p < 324) (hb : b ≤ 1500) : ∀ (m k f : Nat) (sz : Int32) (a : Nat → Int32) (l : List Nat), k + m = b → m < f → Pt sz a (l ++ dn R p k) → l.length + b ≤ 420 →
    ∃ sz' a', f_Writer_putBehind_7 f flI sz ex a (iI p) (nI b) (nI k) = some (sz', a') ∧ Pt sz' a' (l ++ dn R p b) := by
  intro m
  induction m with
  | zero =>
    intro k f sz a l h hf hP hl
    obtain ⟨f, rfl⟩ : ∃ j, f = j + 1 := ⟨f - 1, by omega⟩
    have : k = b := by omega
    subst this
    refine ⟨sz, a, ?_, hP⟩
    show f_Writer_putBehind_7b _ _ _ _ _ _ _ _ = _
    unfold f_Writer_putBehind_7b
    rw [if_pos (Int32.le_refl _)]
  | succ m ih =>
    intro k f sz a l h hf hP hl
    obtain ⟨f, rfl⟩ : ∃ j, f = j + 1 := ⟨f - 1, by omega⟩
    have hd := dgZ_lt R (p - k)
    obtain ⟨s1, a1, e1, h1⟩ := cput (b := 48 + dgZ R (p - k)) hP (by rw [List.length_append, dn_len]; omega) (by omega)
    rw [List.append_assoc, dn_succ] at h1
    obtain ⟨s2, a2, e2, h2⟩ := ih (k + 1) f s1 a1 l (by omega) (by omega) h1 hl
    refine ⟨s2, a2, ?_, h2⟩
    show f_Writer_putBehind_7b _ _ _ _ _ _ _ _ = _
    unfold f_Writer_putBehind_7b
    rw [if_neg (nI_ge (by omega) (by omega)), show iI p - nI k = iI (p - k) from by rw [iI_nI, iI_sub], digit_Z hR (by omega) (by omega), bi1_s, add48, e1, bi2_s, bd_s, nI_1]
    exact e2
theorem cbehind {ex : Nat → Int32} {R : Nat} (hR : Rw ex R) {fl : Nat} (hfl : fl < 32) {p : Int} {b : Nat} (hp : -1548 ≤ p - b) (hp2 : p < 324) (hb : b < 1000) {sz : Int32} {a : Nat → Int32} {l : List Nat} (hP : Pt sz a l) (hl : l.length + 1 + b ≤ 420) :
    ∃ sz' a', f_Writer_putBehind (nI fl) sz ex a (iI p) (nI b) = some (sz', a') ∧ Pt sz' a' (l ++ ppt b (decide (fl / 8 % 2 = 1)) ++ dn R p b) := by
  obtain ⟨s1, a1, e1, h1⟩ := cpoint hfl hP (by omega) hb
  have hpl := ppt_len b (decide (fl / 8 % 2 = 1))
  obtain ⟨s2, a2, e2, h2⟩ := cbehind7 hR (nI fl) hp hp2 (by omega) b 0 fu s1 a1 (l ++ ppt b (decide (fl / 8 % 2 = 1))) (by omega) (by unfold fu; omega) (by
    show Pt s1 a1 (l ++ ppt b (decide (fl / 8 % 2 = 1)) ++ [])
    rw [List.append_nil]; exact h1) (by rw [List.length_append]; omega)
  refine ⟨s2, a2, ?_, h2⟩
  unfold f_Writer_putBehind
  rw [e1, bi2_s]
  exact e2
/-- form f from the number as it is rounded -/
def cF (R : Nat) (t : Int) (b : Nat) (al : Bool) : List Nat := dn R (max 0 t) ((max 0 t).toNat + 1) ++ ppt b al ++ dn R (-1) b
theorem cpf12 {ex : Nat → Int32} {R : Nat} (hR : Rw ex R) (flI fi : Int32) (b : Int32) {T : Nat} (hT : T < 324) : ∀ (m k f : Nat) (sz : Int32) (a : Nat → Int32) (l : List Nat), k + m = T + 1 → m < f → Pt sz a (l ++ dn R T k) → l.length + T + 1 ≤ 420 →
    ∃ sz' a', f_Writer_putPointForm_12 f flI fi sz ex a b (iI ((T : Int) - k)) = f_Writer_putPointForm_40 flI fi sz' ex a' b ∧ Pt sz' a' (l ++ dn R T (T + 1)) := by
  intro m
  induction m with
  | zero =>
    intro k f sz a l h hf hP hl
    obtain ⟨f, rfl⟩ : ∃ j, f = j + 1 := ⟨f - 1, by omega⟩
    have : k = T + 1 := by omega
    subst this
    refine ⟨sz, a, ?_, hP⟩
    show f_Writer_putPointForm_12b _ _ _ _ _ _ _ _ = _
    unfold f_Writer_putPointForm_12b
    rw [if_pos (by rw [iI_ltk 0 (by decide) (by omega) (by omega) (by decide) (by decide)]; omega)]
  | succ m ih =>
    intro k f sz a l h hf hP hl
    obtain ⟨f, rfl⟩ : ∃ j, f = j + 1 := ⟨f - 1, by omega⟩
    have hd := dgZ_lt R ((T : Int) - k)
    obtain ⟨s1, a1, e1, h1⟩ := cput (b := 48 + dgZ R ((T : Int) - k)) hP (by rw [List.length_append, dn_len]; omega) (by omega)
    rw [List.append_assoc, dn_succ] at h1
    obtain ⟨s2, a2, e2, h2⟩ := ih (k + 1) f s1 a1 l (by omega) (by omega) h1 hl
    refine ⟨s2, a2, ?_, h2⟩
    show f_Writer_putPointForm_12b _ _ _ _ _ _ _ _ = _
    unfold f_Writer_putPointForm_12b
    rw [if_neg (by rw [iI_ltk 0 (by decide) (by omega) (by omega) (by decide) (by decide)]; omega), digit_Z hR (by omega) (by omega), bi1_s, add48, e1, bi2_s, bd_s, show iI ((T : Int) - k) + (-1 : Int32) = iI ((T : Int) - (k + 1 : Nat)) from by rw [show (-1 : Int32) = iI (-1) from by decide, iI_add]; congr 1; omega]
    exact e2
theorem cpointform {ex : Nat → Int32} {F L R : Nat} (hR : Rw ex R) (hT : Tr F L R) {t : Int} (ht : Tp R t) {fl : Nat} (hfl : fl < 32) {b : Nat} (hb : b ≤ 102) (htb : t ≤ 309) {sz : Int32} {a : Nat → Int32} {l : List Nat} (hP : Pt sz a l) (hl : l.length ≤ 3) :
    ∃ sz' a', f_Writer_putPointForm (nI fl) (nI F) sz ex a (nI b) = some (sz', a') ∧ Pt sz' a' (l ++ cF R t b (decide (fl / 8 % 2 = 1))) := by
  have hr := Tp_range ht
  obtain ⟨t', ht', e0⟩ := topPlace_t hR hT
  have := Tp_uniq ht ht'
  subst this
  obtain ⟨T, hTt⟩ : ∃ T : Nat, max 0 t = T := ⟨_, (Int.toNat_of_nonneg (by omega)).symm⟩
  obtain ⟨s1, a1, e1, h1⟩ := cpf12 hR (nI fl) (nI F) (nI b) (T := T) (by omega) (T + 1) 0 fu sz a l (by omega) (by unfold fu; omega) (by
    show Pt sz a (l ++ [])
    rw [List.append_nil]; exact hP) (by omega)
  obtain ⟨s2, a2, e2, h2⟩ := cbehind hR hfl (p := -1) (b := b) (by omega) (by omega) (by omega) h1 (by rw [List.length_append, dn_len]; omega)
  refine ⟨s2, a2, ?_, ?_⟩
  · unfold f_Writer_putPointForm
    rw [e0, bi1_s, bd_s, show imx (0 : Int32) (iI t) = iI ((T : Int) - (0 : Nat)) from by
      rw [show (0 : Int32) = iI 0 from by decide, imx_iI (by decide) (by decide) (by omega) (by omega)]
      refine congrArg iI ?_
      omega, e1]
    unfold f_Writer_putPointForm_40
    rw [show (-1 : Int32) = iI (-1) from by decide, e2, bi2_s]
  · unfold cF
    rw [hTt, Int.toNat_natCast]
    simp only [List.append_assoc] at h2 ⊢
    exact h2

/-! the reference's expand: the decimal digits of m * 2^e -/
def Lm (a : Nat → Int32) (c W : Nat) : Prop := (∀ j, j < c → a j = nI (W / PB j % 1000000000)) ∧ W < PB c ∧ (c ≠ 0 → PB (c - 1) ≤ W)
theorem Lm_le {a : Nat → Int32} {c W k : Nat} (h : Lm a c W) (hW : W < PB k) : c ≤ k := by
  rcases Nat.lt_or_ge k c with z | z
  · have h1 := h.2.2 (by omega)
    have := PB_le (show k ≤ c - 1 by omega)
    omega
  · exact z
theorem times5 {V M c : Nat} (hc : c ≤ 140) (hM0 : 0 < M) (hM : M ≤ 5) : ∀ (m k f : Nat) (a : Nat → Int32), k + m = c → m < f → (∀ j, j < c → a j = nI (if j < k then V * M / PB j % 1000000000 else V / PB j % 1000000000)) →
    ∃ a', f_M_times_5 f (nI c) a (nI M) (lN (V % PB k * M / PB k)) (nI k) = f_M_times_53 (nI c) a' (lN (V % PB c * M / PB c)) ∧ (∀ j, j < c → a' j = nI (V * M / PB j % 1000000000)) := by
  intro m
  induction m with
  | zero =>
    intro k f a h hf ha
    obtain ⟨f, rfl⟩ : ∃ j, f = j + 1 := ⟨f - 1, by omega⟩
    have : k = c := by omega
    subst this
    refine ⟨a, ?_, ?_⟩
    · show f_M_times_5b _ _ _ _ _ _ = _
      unfold f_M_times_5b
      rw [if_pos (Int32.le_refl _)]
    · intro j hj
      rw [ha j hj, if_pos hj]
  | succ m ih =>
    intro k f a h hf ha
    obtain ⟨f, rfl⟩ : ∃ j, f = j + 1 := ⟨f - 1, by omega⟩
    obtain ⟨k1, k2⟩ := mul_key V M (PB k) (PB_pos k)
    have hcl := carry_lt V M (PB k) (PB_pos k) hM0
    have hl : V / PB k % 1000000000 < 1000000000 := Nat.mod_lt _ (by decide)
    have hak : a k = nI (V / PB k % 1000000000) := by rw [ha k (by omega), if_neg (by omega)]
    rw [← PB_s] at k2
    have hprod : V / PB k % 1000000000 * M ≤ 999999999 * 5 := Nat.mul_le_mul (by omega) hM
    show ∃ a', f_M_times_5b _ _ _ _ _ _ = _ ∧ _
    unfold f_M_times_5b
    generalize V % PB k * M / PB k = cy at *
    generalize hx : V / PB k % 1000000000 = x at *
    rw [if_neg (nI_ge (by omega) (by omega)), ck_s (gin_nI (by omega) (by decide)), bd_s, ck_s (gin_nI (by omega) (by decide)), bd_s, bd_s, bd_s, nI_clamp (by omega), hak, nI_l (by omega), nI_l (by omega), lN_mul, lN_add, show (1000000000 : Int64) = lN 1000000000 from rfl, pk_lDiv (by omega) (by decide) (by decide), nI_1, show cy + x * M = x * M + cy from Nat.add_comm _ _, ← k2]
    have er : (lrm (lN (x * M + cy)) (lN 1000000000)).toInt32 = nI (V * M / PB k % 1000000000) := by
      unfold lrm
      rw [pk_lRem (by omega) (by decide) (by decide), lN_i, k1]
    rw [er]
    refine ih (k + 1) f _ (by omega) (by omega) ?_
    intro j hj
    unfold upd
    by_cases q : j = k
    · rw [if_pos q, if_pos (by omega), q]
    · rw [if_neg q, ha j hj]
      by_cases d : j < k
      · rw [if_pos d, if_pos (by omega)]
      · rw [if_neg d, if_neg (by omega)]
theorem times_eq {V M c : Nat} {a : Nat → Int32} (hc : c < 140) (hM0 : 0 < M) (hM : M ≤ 5) (h : Lm a c V) : ∃ c' a', c' ≤ c + 1 ∧ f_M_times (nI c) a (nI M) = some (nI c', a') ∧ Lm a' c' (V * M) := by
  obtain ⟨hA, hV, hT⟩ := h
  obtain ⟨a', e1, h1⟩ := times5 (V := V) (M := M) (c := c) (by omega) hM0 hM c 0 fu a (by omega) (by unfold fu; omega) (by
    intro j hj
    rw [if_neg (by omega)]
    exact hA j hj)
  rw [PB_0, Nat.mod_one, Nat.zero_mul, Nat.zero_div] at e1
  unfold f_M_times
  rw [show (0 : Int64) = lN 0 from rfl, show (0 : Int32) = nI 0 from rfl, e1, Nat.mod_eq_of_lt hV]
  have hcl := carry_lt V M (PB c) (PB_pos c) hM0
  rw [Nat.mod_eq_of_lt hV] at hcl
  unfold f_M_times_53
  rw [ite_c (lN_le0 (by omega))]
  by_cases d : V * M / PB c = 0
  · rw [if_pos d]
    refine ⟨c, a', by omega, rfl, h1, (Nat.div_eq_zero_iff_lt (PB_pos c)).mp d, ?_⟩
    intro q
    have := hT q
    have : V * 1 ≤ V * M := Nat.mul_le_mul_left _ hM0
    omega
  · rw [if_neg d, ck_s (gin_nI hc (by decide)), bd_s, bd_s, nI_clamp (by omega), lN_i, nI_1]
    refine ⟨c + 1, _, by omega, rfl, ?_, ?_, ?_⟩
    · intro j hj
      unfold upd
      by_cases q : j = c
      · rw [if_pos q, q]
        congr 1
        exact (Nat.mod_eq_of_lt (by omega)).symm
      · rw [if_neg q]
        exact h1 j (by omega)
    · rw [PB_s, Nat.mul_comm (PB c)]
      exact (Nat.div_lt_iff_lt_mul (PB_pos c)).mp (by omega)
    · intro _
      show PB c ≤ _
      rcases Nat.lt_or_ge (V * M) (PB c) with z | z
      · exact absurd (Nat.div_eq_of_lt z) d
      · exact z
/-- the limbs of m -/
theorem exp8 {m : Nat} (hm : m < 9223372036854775808) (vl vp y3 : Int32) (ex : Nat → Int32) : ∀ (k c f : Nat) (a : Nat → Int32), c + k = 3 → k < f → m / PB c < PB k → (m / PB c = 0 → c ≠ 0 → PB (c - 1) ≤ m) → (c ≠ 0 → PB (c - 1) ≤ m) → (∀ j, j < c → a j = nI (m / PB j % 1000000000)) →
    ∃ c' a', f_M_expand_8 f (nI c) vl vp ex a y3 (lN (m / PB c)) = f_M_expand_52 (nI c') vl vp ex a' y3 ∧ Lm a' c' m := by
  intro k
  induction k with
  | zero =>
    intro c f a h hf hlt _ hT ha
    obtain ⟨f, rfl⟩ : ∃ j, f = j + 1 := ⟨f - 1, by omega⟩
    have h0 : m / PB c = 0 := by
      rw [PB_0] at hlt
      exact Nat.lt_one_iff.mp hlt
    refine ⟨c, a, ?_, ha, (Nat.div_eq_zero_iff_lt (PB_pos c)).mp h0, hT⟩
    show f_M_expand_8b _ _ _ _ _ _ _ _ = _
    unfold f_M_expand_8b
    rw [h0, if_pos (by decide)]
  | succ k ih =>
    intro c f a h hf hlt hT0 hT ha
    obtain ⟨f, rfl⟩ : ∃ j, f = j + 1 := ⟨f - 1, by omega⟩
    have hle : m / PB c ≤ m := Nat.div_le_self _ _
    show ∃ c' a', f_M_expand_8b _ _ _ _ _ _ _ _ = _ ∧ _
    unfold f_M_expand_8b
    rw [ite_c (lN_le0 (by omega))]
    by_cases d : m / PB c = 0
    · rw [if_pos d]
      exact ⟨c, a, rfl, ha, (Nat.div_eq_zero_iff_lt (PB_pos c)).mp d, hT⟩
    · have e1 : lN (m / PB c) / (1000000000 : Int64) = lN (m / PB (c + 1)) := by
        rw [show (1000000000 : Int64) = lN 1000000000 from rfl, pk_lDiv (by omega) (by decide) (by decide), PB_s, Nat.div_div_eq_div_mul]
      have e2 : (lrm (lN (m / PB c)) (1000000000 : Int64)).toInt32 = nI (m / PB c % 1000000000) := by
        unfold lrm
        rw [show (1000000000 : Int64) = lN 1000000000 from rfl, pk_lRem (by omega) (by decide) (by decide), lN_i]
      rw [if_neg d, ck_s (gin_nI (by omega) (by decide)), bd_s, bd_s, bd_s, nI_clamp (by omega), e1, e2, nI_1]
      have hTc : PB c ≤ m := by
        rcases Nat.lt_or_ge m (PB c) with z | z
        · exact absurd (Nat.div_eq_of_lt z) d
        · exact z
      refine ih (c + 1) f _ (by omega) (by omega) ?_ (fun _ _ => hTc) (fun _ => hTc) ?_
      · rw [PB_s, ← Nat.div_div_eq_div_mul]
        rw [PB_s] at hlt
        exact Nat.div_lt_of_lt_mul (by rw [Nat.mul_comm]; exact hlt)
      · intro j hj
        unfold upd
        by_cases q : j = c
        · rw [if_pos q, q]
        · rw [if_neg q]
          exact ha j (by omega)
theorem PB_86 : (10 : Nat) ^ 774 = PB 86 := (PB_ten 86).symm
theorem exp55 {e : Int} (he : -100000 ≤ e) (he2 : e ≤ 100000) (vl vp : Int32) (ex : Nat → Int32) {V : Nat} (hV : V * 2 ^ e.toNat < 10 ^ 774) : ∀ (m k f c : Nat) (a : Nat → Int32), k + m = e.toNat → m < f → Lm a c (V * 2 ^ k) →
    ∃ c' a', f_M_expand_55 f (nI c) vl vp ex a (iI e) (nI k) = f_M_expand_72 (nI c') vl vp ex a' (iI e) ∧ Lm a' c' (V * 2 ^ e.toNat) := by
  intro m
  induction m with
  | zero =>
    intro k f c a h hf hL
    obtain ⟨f, rfl⟩ : ∃ j, f = j + 1 := ⟨f - 1, by omega⟩
    have : k = e.toNat := by omega
    subst this
    refine ⟨c, a, ?_, hL⟩
    show f_M_expand_55b _ _ _ _ _ _ _ _ = _
    unfold f_M_expand_55b
    rw [iI_nI e.toNat, if_pos (by rw [iI_le (by omega) (by omega) (by omega) (by omega)]; omega)]
  | succ m ih =>
    intro k f c a h hf hL
    obtain ⟨f, rfl⟩ : ∃ j, f = j + 1 := ⟨f - 1, by omega⟩
    have hlt : V * 2 ^ k < PB 86 := by
      rw [← PB_86]
      exact Nat.lt_of_le_of_lt (Nat.mul_le_mul_left _ (Nat.pow_le_pow_right (by decide) (by omega))) hV
    have hc := Lm_le hL hlt
    obtain ⟨c1, a1, q1, q2, q3⟩ := times_eq (M := 2) (by omega) (by decide) (by decide) hL
    rw [show V * 2 ^ k * 2 = V * 2 ^ (k + 1) from by rw [Nat.pow_succ, Nat.mul_assoc]] at q3
    show ∃ c' a', f_M_expand_55b _ _ _ _ _ _ _ _ = _ ∧ _
    unfold f_M_expand_55b
    rw [iI_nI k, if_neg (by rw [iI_le (by omega) (by omega) (by omega) (by omega)]; omega), show (2 : Int32) = nI 2 from rfl, q2, bi2_s, bd_s, ← iI_nI, nI_1]
    exact ih (k + 1) f c1 a1 (by omega) (by omega) q3
theorem exp75 {e : Int} (he : -100000 ≤ e) (he2 : e ≤ 100000) (vl vp : Int32) (ex : Nat → Int32) {V : Nat} (hV : V * 5 ^ (-e).toNat < 10 ^ 774) : ∀ (m k f c : Nat) (a : Nat → Int32), k + m = (-e).toNat → m < f → Lm a c (V * 5 ^ k) →
    ∃ c' a', f_M_expand_75 f (nI c) vl vp ex a (iI e) (nI k) = f_M_expand_93 (nI c') vl vp ex a' (iI e) ∧ Lm a' c' (V * 5 ^ (-e).toNat) := by
  intro m
  induction m with
  | zero =>
    intro k f c a h hf hL
    obtain ⟨f, rfl⟩ : ∃ j, f = j + 1 := ⟨f - 1, by omega⟩
    have : k = (-e).toNat := by omega
    subst this
    refine ⟨c, a, ?_, hL⟩
    show f_M_expand_75b _ _ _ _ _ _ _ _ = _
    unfold f_M_expand_75b
    rw [iI_nI (-e).toNat, iI_neg, if_pos (by rw [iI_le (by omega) (by omega) (by omega) (by omega)]; omega)]
  | succ m ih =>
    intro k f c a h hf hL
    obtain ⟨f, rfl⟩ : ∃ j, f = j + 1 := ⟨f - 1, by omega⟩
    have hlt : V * 5 ^ k < PB 86 := by
      rw [← PB_86]
      exact Nat.lt_of_le_of_lt (Nat.mul_le_mul_left _ (Nat.pow_le_pow_right (by decide) (by omega))) hV
    have hc := Lm_le hL hlt
    obtain ⟨c1, a1, q1, q2, q3⟩ := times_eq (M := 5) (by omega) (by decide) (by decide) hL
    rw [show V * 5 ^ k * 5 = V * 5 ^ (k + 1) from by rw [Nat.pow_succ, Nat.mul_assoc]] at q3
    show ∃ c' a', f_M_expand_75b _ _ _ _ _ _ _ _ = _ ∧ _
    unfold f_M_expand_75b
    rw [iI_nI k, iI_neg, if_neg (by rw [iI_le (by omega) (by omega) (by omega) (by omega)]; omega), show (5 : Int32) = nI 5 from rfl, q2, bi2_s, bd_s, ← iI_nI, nI_1]
    exact ih (k + 1) f c1 a1 (by omega) (by omega) q3
/-- digits from the top: L of them -/
def Ex (ex : Nat → Int32) (W L l : Nat) : Prop := ∀ j, j < l → ex j = nI (dg W (L - 1 - j))
def un : Nat → Nat
  | 0 => 0
  | u + 1 => 10 ^ u
theorem byte_nI {d : Nat} (h : d < 16) : ((nI d).toInt8.toInt32).toInt8.toInt32 = nI d := byte_d d h
theorem lm9 {W k u : Nat} (hu : u < 9) : W / PB k % 1000000000 / 10 ^ u % 10 = dg W (9 * k + u) := by
  obtain ⟨-, h2⟩ := tens_9 hu
  unfold dg
  rw [Nat.pow_add, ← PB_ten, ← Nat.div_div_eq_div_mul]
  generalize W / PB k = X
  have h3 : 10 ^ (9 - u) = 10 * 10 ^ (8 - u) := by
    rw [show 9 - u = (8 - u) + 1 from by omega, Nat.pow_succ]; omega
  rw [← h2, Nat.mod_mul_right_div_self, h3, Nat.mod_mul_right_mod]
theorem dg_top {W L : Nat} (h1 : 10 ^ L ≤ W) (h2 : W < 10 ^ (L + 1)) : dg W L ≠ 0 := by
  unfold dg
  have a1 : 1 ≤ W / 10 ^ L := by
    rw [Nat.le_div_iff_mul_le (ten_pos L)]
    omega
  have a2 : W / 10 ^ L < 10 := by
    rw [Nat.div_lt_iff_lt_mul (ten_pos L), Nat.mul_comm, ← Nat.pow_succ]
    exact h2
  omega
theorem dg_high {W L P : Nat} (h : W < 10 ^ L) (hP : L ≤ P) : dg W P = 0 := by
  unfold dg
  rw [Nat.div_eq_of_lt (Nat.lt_of_lt_of_le h (ten_le hP))]
theorem ex115 {k106 : Int32 → Int32 → Int32 → (Nat → Int32) → (Nat → Int32) → Int32 → Int32 → Option (Int32 × Int32 × Int32 × (Nat → Int32) × (Nat → Int32))} {W L c k : Nat} {lm : Nat → Int32} (hL : L ≤ 1299) (h1 : 10 ^ (L - 1) ≤ W) (hL1 : 1 ≤ L) (h2 : W < 10 ^ L) (hk : k < c) (hc : c ≤ 140) (hlm : Lm lm c W) (vc vp y3 : Int32) : ∀ (u f : Nat) (ex : Nat → Int32), u ≤ 9 → u < f → Ex ex W L (L - (9 * k + u)) →
    ∃ ex', f_M_expand_115 k106 f vc (nI (L - (9 * k + u))) vp ex lm y3 (nI k) (nI (un u)) = f_M_expand_182 k106 vc (nI (L - 9 * k)) vp ex' lm y3 (nI k) ∧ Ex ex' W L (L - 9 * k) := by
  intro u
  induction u with
  | zero =>
    intro f ex hu hf hE
    obtain ⟨f, rfl⟩ : ∃ j, f = j + 1 := ⟨f - 1, by omega⟩
    refine ⟨ex, ?_, hE⟩
    show f_M_expand_115b _ _ _ _ _ _ _ _ _ _ = _
    unfold f_M_expand_115b
    rw [if_pos (show nI (un 0) ≤ 0 from by decide)]
    rfl
  | succ u ih =>
    intro f ex hu hf hE
    obtain ⟨f, rfl⟩ : ∃ j, f = j + 1 := ⟨f - 1, by omega⟩
    have hu9 : u < 9 := by omega
    have ht := tens_9 hu9
    have hp := ten_pos u
    have hun : un (u + 1) = 10 ^ u := rfl
    have hd := dg_lt W (9 * k + u)
    have hl9 : W / PB k % 1000000000 < 1000000000 := Nat.mod_lt _ (by decide)
    have edig : irm (lm (nI k).toNatClampNeg / nI (10 ^ u)) (10 : Int32) = nI (dg W (9 * k + u)) := by
      rw [nI_clamp (by omega), hlm.1 k hk, ← lm9 hu9]
      generalize W / PB k % 1000000000 = x at hl9
      generalize 10 ^ u = y at hp ht
      have e1 : nI x / nI y = nI (x / y) := by
        rw [iI_nI, iI_nI, iI_div (by omega) (by omega) (by omega) (by omega), iI_nI]
        congr 1
      have hle : x / y ≤ x := Nat.div_le_self _ _
      rw [e1, show (10 : Int32) = nI 10 from rfl, irm_nI (by omega) (by decide) (by decide)]
    have enext : nI (10 ^ u) / (10 : Int32) = nI (un u) := by
      have : 10 ^ u / 10 = un u := by
        cases u with
        | zero => rfl
        | succ v =>
          show 10 ^ (v + 1) / 10 = 10 ^ v
          rw [Nat.pow_succ]
          omega
      rw [← this]
      rw [iI_nI, show (10 : Int32) = iI 10 from by decide, iI_div (by omega) (by omega) (by decide) (by decide), iI_nI]
      congr 1
    have keep : ∀ l, l = L - (9 * k + (u + 1)) → l + 1 = L - (9 * k + u) → ∃ ex', f_M_expand_150 k106 (f_M_expand_115 k106 f) vc (nI l) vp ex lm y3 (nI k) (nI (10 ^ u)) (nI (dg W (9 * k + u))) = f_M_expand_182 k106 vc (nI (L - 9 * k)) vp ex' lm y3 (nI k) ∧ Ex ex' W L (L - 9 * k) := by
      intro l hl hl1
      unfold f_M_expand_150 f_M_expand_172
      rw [ck_s (gin_nI (by omega) (by decide)), bd_s, bd_s, bd_s, nI_clamp (by omega), byte_nI (by omega), enext, nI_1, hl1]
      refine ih f _ (by omega) (by omega) ?_
      intro j hj
      unfold upd
      by_cases q : j = l
      · rw [if_pos q]
        congr 2
        omega
      · rw [if_neg q]
        exact hE j (by omega)
    show ∃ ex', f_M_expand_115b _ _ _ _ _ _ _ _ _ _ = _ ∧ _
    unfold f_M_expand_115b
    rw [hun, if_neg (nI_nle hp (by omega)), ck_s (gin_nI (by omega) (by decide)), ck_s (nI_ne0 hp (by omega)), bd_s, edig, ite_c (nI_eq0 (by omega)), ite_c (nI_eq0 (by omega))]
    by_cases z : L - (9 * k + (u + 1)) = 0
    · rw [if_pos z]
      by_cases d : dg W (9 * k + u) = 0
      · rw [if_pos d]
        have hne : 9 * k + u ≠ L - 1 := by
          intro q
          rw [q] at d
          exact dg_top h1 (by rw [show L - 1 + 1 = L from by omega]; exact h2) d
        have hz2 : L - (9 * k + u) = 0 := by omega
        unfold f_M_expand_172
        rw [bd_s, enext]
        have := ih f ex (by omega) (by omega) (by
          intro j hj
          omega)
        rw [hz2] at this
        rw [z]
        exact this
      · rw [if_neg d]
        have hP : 9 * k + u < L := by
          rcases Nat.lt_or_ge (9 * k + u) L with q | q
          · exact q
          · exact absurd (dg_high h2 q) d
        exact keep _ rfl (by omega)
    · rw [if_neg z]
      exact keep _ rfl (by omega)
theorem ex106 {W L c : Nat} {lm : Nat → Int32} (hL : L ≤ 1299) (h1 : 10 ^ (L - 1) ≤ W) (hL1 : 1 ≤ L) (h2 : W < 10 ^ L) (hc : c ≤ 140) (hlm : Lm lm c W) (vc vp y3 : Int32) : ∀ (k f : Nat) (ex : Nat → Int32), k ≤ c → k < f → Ex ex W L (L - 9 * k) →
    ∃ ex', f_M_expand_106 f vc (nI (L - 9 * k)) vp ex lm y3 (iI ((k : Int) - 1)) = f_M_expand_188 vc (nI L) vp ex' lm y3 ∧ Ex ex' W L L := by
  intro k
  induction k with
  | zero =>
    intro f ex hk hf hE
    obtain ⟨f, rfl⟩ : ∃ j, f = j + 1 := ⟨f - 1, by omega⟩
    refine ⟨ex, ?_, hE⟩
    show f_M_expand_106b _ _ _ _ _ _ _ _ = _
    unfold f_M_expand_106b
    rw [if_pos (by decide)]
    rfl
  | succ k ih =>
    intro f ex hk hf hE
    obtain ⟨f, rfl⟩ : ∃ j, f = j + 1 := ⟨f - 1, by omega⟩
    show ∃ ex', f_M_expand_106b _ _ _ _ _ _ _ _ = _ ∧ _
    unfold f_M_expand_106b
    rw [show ((k + 1 : Nat) : Int) - 1 = (k : Int) from by omega, ← iI_nI, if_neg (nI_pos (by omega))]
    obtain ⟨ex1, e1, hE1⟩ := ex115 (k106 := f_M_expand_106 f) hL h1 hL1 h2 (k := k) (by omega) hc hlm vc vp y3 9 fu ex (Nat.le_refl _) (by decide) (by rw [show 9 * k + 9 = 9 * (k + 1) from by omega]; exact hE)
    rw [show 9 * k + 9 = 9 * (k + 1) from by omega, show nI (un 9) = (100000000 : Int32) from rfl] at e1
    rw [e1]
    unfold f_M_expand_182
    rw [bd_s, show nI k + (-1 : Int32) = iI ((k : Int) - 1) from by rw [show (-1 : Int32) = iI (-1) from by decide, iI_nI, iI_add]; congr 1]
    exact ih f ex1 (by omega) (by omega) hE1
/-- how many digits -/
theorem digs {W : Nat} (h : W ≠ 0) : ∀ k, W < 10 ^ k → ∃ L, 1 ≤ L ∧ L ≤ k ∧ 10 ^ (L - 1) ≤ W ∧ W < 10 ^ L := by
  intro k
  induction k with
  | zero => intro q; rw [Nat.pow_zero] at q; omega
  | succ k ih =>
    intro q
    by_cases c : W < 10 ^ k
    · obtain ⟨L, a1, a2, a3, a4⟩ := ih c
      exact ⟨L, a1, by omega, a3, a4⟩
    · exact ⟨k + 1, by omega, Nat.le_refl _, by rw [show k + 1 - 1 = k from rfl]; omega, q⟩
theorem expand_eq {m : Nat} (hm0 : m ≠ 0) (hm : m < 9223372036854775808) {e : Int} (he : -100000 ≤ e) (he2 : e ≤ 100000) {W : Nat} (hW : W = m * 2 ^ e.toNat * 5 ^ (-e).toNat) (hlt : W < 10 ^ 774) (c0 l0 p0 : Int32) (ex lm : Nat → Int32) :
    ∃ c' L ex' lm', 1 ≤ L ∧ L ≤ 774 ∧ 10 ^ (L - 1) ≤ W ∧ W < 10 ^ L ∧ Ex ex' W L L ∧ f_M_expand c0 l0 p0 ex lm (lN m) (iI e) = some (c', nI L, iI ((L : Int) + min e 0), ex', lm') := by
  have h2p := Nat.two_pow_pos e.toNat
  have h5p : 0 < 5 ^ (-e).toNat := Nat.pow_pos (by decide)
  have hW0 : W ≠ 0 := by
    rw [hW]
    exact Nat.mul_ne_zero (Nat.mul_ne_zero hm0 (by omega)) (by omega)
  have hlt2 : m * 2 ^ e.toNat < 10 ^ 774 := by
    have : m * 2 ^ e.toNat * 1 ≤ m * 2 ^ e.toNat * 5 ^ (-e).toNat := Nat.mul_le_mul_left _ h5p
    omega
  obtain ⟨L, L1, L2, L3, L4⟩ := digs hW0 774 hlt
  unfold f_M_expand
  obtain ⟨c1, a1, e1, q1⟩ := exp8 hm l0 p0 (iI e) ex 3 0 fu lm (by omega) (by decide) (by rw [PB_0, Nat.div_one]; exact Nat.lt_trans hm (by decide)) (fun _ h => absurd rfl h) (fun h => absurd rfl h) (fun j hj => absurd hj (by omega))
  rw [PB_0, Nat.div_one] at e1
  rw [show (0 : Int32) = nI 0 from rfl, e1]
  unfold f_M_expand_52
  obtain ⟨c2, a2, e2, q2⟩ := exp55 he he2 l0 p0 ex hlt2 e.toNat 0 fu c1 a1 (by omega) (by unfold fu; omega) (by rw [Nat.pow_zero, Nat.mul_one]; exact q1)
  rw [show (0 : Int32) = nI 0 from rfl, e2]
  unfold f_M_expand_72
  obtain ⟨c3, a3, e3, q3⟩ := exp75 he he2 l0 p0 ex (V := m * 2 ^ e.toNat) (by rw [← hW]; exact hlt) (-e).toNat 0 fu c2 a2 (by omega) (by unfold fu; omega) (by rw [Nat.pow_zero, Nat.mul_one]; exact q2)
  rw [show (0 : Int32) = nI 0 from rfl, e3]
  rw [← hW] at q3
  unfold f_M_expand_93
  have hc3 := Lm_le q3 (k := 86) (by rw [← PB_86]; exact hlt)
  have hL9 : L - 9 * c3 = 0 := by
    have h1 := q3.2.1
    rw [PB_ten] at h1
    have : 10 ^ (L - 1) < 10 ^ (9 * c3) := by omega
    have := (Nat.pow_lt_pow_iff_right (show 1 < 10 by decide)).mp this
    omega
  obtain ⟨ex4, e4, q4⟩ := ex106 (c := c3) (by omega) L3 L1 L4 (by omega) q3 (nI c3) p0 (iI e) c3 fu ex (Nat.le_refl _) (by unfold fu; omega) (by
    intro j hj
    omega)
  rw [hL9] at e4
  rw [bd_s, iI_nI c3, show (1 : Int32) = iI 1 from by decide, iI_sub, ← iI_nI, show (0 : Int32) = nI 0 from rfl, e4]
  refine ⟨nI c3, L, ex4, a3, L1, L2, L3, L4, q4, ?_⟩
  unfold f_M_expand_188 f_M_expand_206
  rw [ite_c (iI_kle 0 (by decide) (by omega) (by omega) (by decide) (by decide))]
  by_cases s : 0 ≤ e
  · rw [if_pos s, show (L : Int) + min e 0 = L from by omega, ← iI_nI]
  · rw [if_neg s, show (L : Int) + min e 0 = L + e from by omega, ← iI_add, ← iI_nI]

/-! the reference's division: 62 bits of a quotient and whether there is more -/
theorem more_step (R k : Nat) : (R % QB (k + 1) = 0) ↔ (R % QB k = 0 ∧ lw R k = 0) := by
  rw [QB_s, Nat.mod_mul]
  show R % QB k + QB k * lw R k = 0 ↔ _
  have hQ := QB_pos k
  constructor
  · intro q
    refine ⟨by omega, ?_⟩
    have : QB k * lw R k = 0 := by omega
    rcases Nat.mul_eq_zero.mp this with c | c
    · omega
    · exact c
  · intro ⟨h1, h2⟩
    rw [h1, h2, Nat.mul_zero]
theorem div176 (vk : Int32) (vn : Int64) (ve vA vB ls : Int32) {R n : Nat} {a b : Nat → Int32} (hn : n ≤ 400) (hA : Al a R) (hR : R < QB n) (y1 : Int32) (y3 : Int64) : ∀ (m k f : Nat), k + m = n → m < f →
    f_M_divide_176 f vk vn ve vA vB ls a b y1 (nI n) y3 (bz (decide (R % QB k ≠ 0))) (nI k) = f_M_divide_210 vk vn ve vA vB ls a b y1 y3 (bz (decide (R ≠ 0))) := by
  intro m
  induction m with
  | zero =>
    intro k f h hf
    obtain ⟨f, rfl⟩ : ∃ j, f = j + 1 := ⟨f - 1, by omega⟩
    have : k = n := by omega
    subst this
    show f_M_divide_176b _ _ _ _ _ _ _ _ _ _ _ _ _ _ = _
    unfold f_M_divide_176b
    rw [if_pos (Int32.le_refl _), Nat.mod_eq_of_lt hR]
  | succ m ih =>
    intro k f h hf
    obtain ⟨f, rfl⟩ : ∃ j, f = j + 1 := ⟨f - 1, by omega⟩
    have hl := lw_lt R k
    have key := more_step R k
    show f_M_divide_176b _ _ _ _ _ _ _ _ _ _ _ _ _ _ = _
    unfold f_M_divide_176b f_M_divide_197 f_M_divide_202
    have nxt := ih (k + 1) f (by omega) (by omega)
    rw [if_neg (nI_ge (by omega) (by omega)), bd_s, nI_1, bd_s, ite_c (bz_f _)]
    by_cases c : R % QB k = 0
    · rw [if_pos (by simp [c]), ck_s (gin_nI (by omega) (by decide)), nI_clamp (by omega), hA k (by omega), ite_c (nI_eq0 (by omega))]
      by_cases d : lw R k = 0
      · rw [if_pos d]
        rw [decide_eq_false (show ¬ (R % QB (k + 1) ≠ 0) from fun z => z (key.mpr ⟨c, d⟩))] at nxt
        exact nxt
      · rw [if_neg d]
        rw [decide_eq_true (show R % QB (k + 1) ≠ 0 from fun z => d (key.mp z).2)] at nxt
        exact nxt
    · rw [if_neg (by simp [c])]
      rw [decide_eq_true (show R % QB (k + 1) ≠ 0 from fun z => c (key.mp z).1)] at nxt
      exact nxt
theorem div_bit (A W q r : Nat) (hW : 0 < W) (hq : q = A / (W * 2)) (hr : r = A % (W * 2)) :
    (W ≤ r → A / W = 2 * q + 1 ∧ A % W = r - W) ∧ (r < W → A / W = 2 * q ∧ A % W = r) := by
  have h := Nat.div_add_mod A (W * 2)
  rw [← hq, ← hr] at h
  have hr2 : r < W * 2 := by rw [hr]; exact Nat.mod_lt _ (by omega)
  constructor
  · intro c
    have e : A = W * (2 * q + 1) + (r - W) := by
      rw [Nat.mul_add, Nat.mul_one, ← Nat.mul_assoc]
      omega
    constructor
    · rw [e, Nat.mul_add_div hW, Nat.div_eq_of_lt (by omega), Nat.add_zero]
    · rw [e, Nat.mul_add_mod, Nat.mod_eq_of_lt (by omega)]
  · intro c
    have e : A = W * (2 * q) + r := by
      rw [← Nat.mul_assoc]
      omega
    constructor
    · rw [e, Nat.mul_add_div hW, Nat.div_eq_of_lt c, Nat.add_zero]
    · rw [e, Nat.mul_add_mod, Nat.mod_eq_of_lt c]
theorem div112 (vk : Int32) (vn : Int64) (ve vA vB ls : Int32) {A B n : Nat} (hn : n ≤ 400) (hB0 : 0 < B) (hAn : A < QB n) (hBn : B * 2 ^ 62 < QB n) (y1 : Int32) : ∀ (m k f : Nat) (a b : Nat → Int32), k + m = 62 → m < f → Al a (A % (B * 2 ^ m)) → Al b (B * 2 ^ m) →
    ∃ a' b', f_M_divide_112 f vk vn ve vA vB ls a b y1 (nI n) (lN (A / (B * 2 ^ m))) (nI k) = f_M_divide_170 vk vn ve vA vB ls a' b' y1 (nI n) (lN (A / B)) ∧ Al a' (A % B) := by
  intro m
  induction m with
  | zero =>
    intro k f a b h hf ha hb
    obtain ⟨f, rfl⟩ : ∃ j, f = j + 1 := ⟨f - 1, by omega⟩
    have : k = 62 := by omega
    subst this
    rw [Nat.pow_zero, Nat.mul_one] at *
    refine ⟨a, b, ?_, ha⟩
    show f_M_divide_112b _ _ _ _ _ _ _ _ _ _ _ _ _ = _
    unfold f_M_divide_112b
    rw [if_pos (by decide)]
  | succ m ih =>
    intro k f a b h hf ha hb
    obtain ⟨f, rfl⟩ : ∃ j, f = j + 1 := ⟨f - 1, by omega⟩
    have hW : 0 < B * 2 ^ m := Nat.mul_pos hB0 (Nat.two_pow_pos m)
    have e2 : B * 2 ^ (m + 1) = B * 2 ^ m * 2 := by rw [Nat.pow_succ, Nat.mul_assoc]
    have hWn : B * 2 ^ (m + 1) < QB n := by
      refine Nat.lt_of_le_of_lt (Nat.mul_le_mul_left _ (Nat.pow_le_pow_right (by decide) (by omega))) hBn
    have hrn : A % (B * 2 ^ (m + 1)) < QB n := Nat.lt_of_le_of_lt (Nat.mod_le _ _) hAn
    obtain ⟨b1, q1, q2⟩ := half_eq hn hWn hb
    rw [e2, Nat.mul_div_cancel _ (by decide)] at q2
    obtain ⟨w1, w2⟩ := div_bit A (B * 2 ^ m) _ _ hW rfl rfl
    rw [← e2] at w1 w2
    have hen := enough_eq hn ha q2 hrn (by omega)
    show ∃ a' b', f_M_divide_112b _ _ _ _ _ _ _ _ _ _ _ _ _ = _ ∧ _
    unfold f_M_divide_112b f_M_divide_164
    rw [if_neg (show ¬ (62 : Int32) ≤ nI k from nI_ge (b := 62) (by omega) (by decide)), q1, bi1_s, bd_s, hen, bi1_s, ite_c (bz_f _), show (2 : Int64) = lN 2 from rfl, lN_mul]
    by_cases c : B * 2 ^ m ≤ A % (B * 2 ^ (m + 1))
    · obtain ⟨x1, x2⟩ := w1 c
      obtain ⟨a1, s1, s2⟩ := subq_eq hn ha q2 c hrn
      rw [if_neg (by simp [c]), s1, bi1_s, bd_s, bd_s, nI_1, show (1 : Int64) = lN 1 from rfl, lN_add, ← x1]
      rw [← x2] at s2
      exact ih (k + 1) f a1 b1 (by omega) (by omega) s2 q2
    · obtain ⟨x1, x2⟩ := w2 (by omega)
      rw [if_pos (by simp [c]), bd_s, nI_1, ← x1]
      rw [← x2] at ha
      exact ih (k + 1) f a b1 (by omega) (by omega) ha q2
theorem nearest_bz (vk : Int32) (vn : Int64) (ve : Int32) (neg : Bool) {s : Nat} (h0 : s ≠ 0) (hs : s < 4611686018427387904) {e : Int} (he : -14000 ≤ e) (he2 : e ≤ 14000) :
    f_M_nearest vk vn ve (lN s) (iI e) (bz neg) = some ((mres neg (rnd s false e)).1, mres neg (rnd s false e)) := nearest_eq vk vn ve neg h0 hs he he2
/-- from two numbers that are 61 bits apart -/
theorem div67 (vk : Int32) (vn : Int64) (ve : Int32) (neg : Bool) {A B nA nB : Nat} {a b : Nat → Int32} (hA : Al a A) (hSA : Sz nA A) (hB : Al b B) (hSB : Sz nB B) (hnA : nA ≤ 390) (hnB : nB ≤ 390) (h : bl A = 61 + bl B) (hB0 : B ≠ 0) {s : Int} (hs : -14000 ≤ s) (hs2 : s ≤ 14000) :
    ∃ v5 v6 a7 a8, f_M_divide_67 vk vn ve (nI nA) (nI nB) (bz neg) a b (iI s) = some ((mres neg (rnd (A / B) (decide (A % B ≠ 0)) (-s))).1, (mres neg (rnd (A / B) (decide (A % B ≠ 0)) (-s))).1, (mres neg (rnd (A / B) (decide (A % B ≠ 0)) (-s))).2.1, (mres neg (rnd (A / B) (decide (A % B ≠ 0)) (-s))).2.2, v5, v6, a7, a8) ∧ 2 ^ 60 ≤ A / B ∧ A / B < 2 ^ 62 := by
  have hnB1 : 1 ≤ nB := by
    rcases Nat.eq_zero_or_pos nB with c | c
    · exact absurd ((Sz_z hSB).mp c) hB0
    · exact c
  have hbB := bl_pos hB0
  have hA0 : A ≠ 0 := by
    intro q
    rw [q, bl_0] at h
    omega
  have a1 := bl_lt A
  have a2 := bl_le hA0
  have b1 := bl_lt B
  have b2 := bl_le hB0
  have hBpos : 0 < B := by omega
  have hq1 : 2 ^ 60 ≤ A / B := by
    rw [Nat.le_div_iff_mul_le hBpos]
    have : 2 ^ (bl A - 1) = 2 ^ 60 * 2 ^ bl B := by rw [← Nat.pow_add]; congr 1; omega
    have h2 : 2 ^ 60 * B ≤ 2 ^ 60 * 2 ^ bl B := Nat.mul_le_mul_left _ (by omega)
    omega
  have hq2 : A / B < 2 ^ 62 := by
    rw [Nat.div_lt_iff_lt_mul hBpos]
    have : 2 ^ bl A = 2 ^ 62 * 2 ^ (bl B - 1) := by rw [← Nat.pow_add]; congr 1; omega
    have h2 : 2 ^ 62 * 2 ^ (bl B - 1) ≤ 2 ^ 62 * B := Nat.mul_le_mul_left _ b2
    omega
  obtain ⟨n', b', u1, u2, u3, u4⟩ := up_eq (b := 62) (by omega) hnB1 hB hSB
  have hAB : A < B * 2 ^ 62 := by
    rw [Nat.mul_comm]
    exact (Nat.div_lt_iff_lt_mul hBpos).mp hq2
  have main : ∀ n, n ≤ 400 → nA ≤ n → n' ≤ n → ∃ v5 v6 a7 a8, f_M_divide_106 vk vn ve (nI nA) (nI n') (bz neg) a b' (iI s) (nI n) = some ((mres neg (rnd (A / B) (decide (A % B ≠ 0)) (-s))).1, (mres neg (rnd (A / B) (decide (A % B ≠ 0)) (-s))).1, (mres neg (rnd (A / B) (decide (A % B ≠ 0)) (-s))).2.1, (mres neg (rnd (A / B) (decide (A % B ≠ 0)) (-s))).2.2, v5, v6, a7, a8) := by
    intro n hn hnn hnn'
    have hAn : A < QB n := Nat.lt_of_lt_of_le hSA.1 (QB_le hnn)
    have hBn : B * 2 ^ 62 < QB n := Nat.lt_of_lt_of_le u4.1 (QB_le hnn')
    obtain ⟨a3, b3, w1, w2⟩ := div112 vk vn ve (nI nA) (nI n') (bz neg) hn hBpos hAn hBn (iI s) 62 0 fu a b' rfl (by decide) (by rw [Nat.mod_eq_of_lt hAB]; exact hA) u3
    rw [Nat.div_eq_of_lt hAB] at w1
    refine ⟨nI nA, nI n', a3, b3, ?_⟩
    unfold f_M_divide_106
    rw [show (0 : Int64) = lN 0 from rfl, show (0 : Int32) = nI 0 from rfl, w1]
    unfold f_M_divide_170
    have hR : A % B < QB n := Nat.lt_of_le_of_lt (Nat.mod_le _ _) hAn
    have w3 := div176 vk vn ve (nI nA) (nI n') (bz neg) (b := b3) hn w2 hR (iI s) (lN (A / B)) n 0 fu (by omega) (by unfold fu; omega)
    rw [QB_0, Nat.mod_one] at w3
    rw [show (0 : Int32) = nI 0 from rfl]
    refine Eq.trans w3 ?_
    unfold f_M_divide_210 f_M_divide_223
    rw [ite_c (bz_f _), iI_neg]
    generalize A / B = q at *
    have hblq : 61 ≤ bl q := by
      rcases Nat.lt_or_ge (bl q) 61 with z | z
      · have := bl_le_iff.mp (show bl q ≤ 60 from by omega)
        omega
      · exact z
    by_cases c : A % B = 0
    · rw [if_pos (by simp [c]), nearest_bz vk vn ve neg (s := q) (by omega) (by omega) (by omega) (by omega), decide_eq_false (show ¬ (A % B ≠ 0) from fun z => z c)]
      rfl
    · rw [if_neg (by simp [c]), lN_or1 (by omega), nearest_bz vk vn ve neg (s := q / 2 * 2 + 1) (by omega) (by omega) (by omega) (by omega), decide_eq_true (show A % B ≠ 0 from c), rnd_sticky (by omega) (by unfold rd; omega)]
      rfl
  unfold f_M_divide_67
  rw [show (62 : Int32) = nI 62 from rfl, u2, bi2_s, ite_c (propext (nI_leI (by omega) (by omega)))]
  by_cases c : nA ≤ n'
  · rw [if_pos c]
    obtain ⟨v5, v6, a7, a8, e⟩ := main n' (by omega) c (Nat.le_refl _)
    exact ⟨v5, v6, a7, a8, e, hq1, hq2⟩
  · rw [if_neg c]
    obtain ⟨v5, v6, a7, a8, e⟩ := main nA (by omega) (Nat.le_refl _) (by omega)
    exact ⟨v5, v6, a7, a8, e, hq1, hq2⟩
set_option maxRecDepth 20000 in
theorem divide_ref (vk : Int32) (vn : Int64) (ve : Int32) (neg : Bool) {N D nA nB : Nat} {a b : Nat → Int32} (hA : Al a N) (hSA : Sz nA N) (hB : Al b D) (hSB : Sz nB D) (hnA : nA ≤ 150) (hnB : nB ≤ 190) (hN : N ≠ 0) (hD : D ≠ 0) :
    ∃ v5 v6 a7 a8, f_M_divide vk vn ve (nI nA) (nI nB) (bz neg) a b = some ((mres neg (near N D)).1, (mres neg (near N D)).1, (mres neg (near N D)).2.1, (mres neg (near N D)).2.2, v5, v6, a7, a8) := by
  have hnA1 : 1 ≤ nA := by
    rcases Nat.eq_zero_or_pos nA with c | c
    · exact absurd ((Sz_z hSA).mp c) hN
    · exact c
  have hnB1 : 1 ≤ nB := by
    rcases Nat.eq_zero_or_pos nB with c | c
    · exact absurd ((Sz_z hSB).mp c) hD
    · exact c
  have hbA : bl N ≤ 30 * nA := bl_le_iff.mpr (by rw [← QB_two]; exact hSA.1)
  have hbB : bl D ≤ 30 * nB := bl_le_iff.mpr (by rw [← QB_two]; exact hSB.1)
  have hDpos : 0 < D := by omega
  unfold f_M_divide
  rw [bits_eq (by omega) hA hSA, bi1_s, bits_eq (by omega) hB hSB, bi1_s, bd_s, show ((61 : Int32) - nI (bl N)) + nI (bl D) = iI (61 - (bl N : Int) + bl D) from by
    rw [iI_nI, iI_nI, show (61 : Int32) = iI 61 from by decide, iI_sub, iI_add], ite_c (iI_lek 0 (by decide) (by omega) (by omega) (by decide) (by decide))]
  by_cases c : 61 - (bl N : Int) + bl D ≤ 0
  · obtain ⟨k, hk⟩ : ∃ k : Nat, -(61 - (bl N : Int) + bl D) = k := ⟨_, (Int.toNat_of_nonneg (by omega)).symm⟩
    obtain ⟨n', b', u1, u2, u3, u4⟩ := up_eq (b := k) (by omega) hnB1 hB hSB
    rw [if_pos c, iI_neg, hk, ← iI_nI, u2, bi2_s]
    obtain ⟨v5, v6, a7, a8, e, q1, q2⟩ := div67 vk vn ve neg hA hSA u3 u4 (by omega) (by omega) (by rw [bl_mul _ _ hD]; omega) (Nat.mul_ne_zero hD (by have := Nat.two_pow_pos k; omega)) (s := 61 - (bl N : Int) + bl D) (by omega) (by omega)
    rw [hk] at e
    rw [near_up hDpos (by
      rcases Nat.lt_or_ge (bl (N / (D * 2 ^ k))) 54 with z | z
      · have := bl_le_iff.mp (show bl (N / (D * 2 ^ k)) ≤ 53 from by omega)
        omega
      · exact z)] at e
    exact ⟨v5, v6, a7, a8, e⟩
  · obtain ⟨k, hk⟩ : ∃ k : Nat, 61 - (bl N : Int) + bl D = k := ⟨_, (Int.toNat_of_nonneg (by omega)).symm⟩
    obtain ⟨n', a', u1, u2, u3, u4⟩ := up_eq (b := k) (by omega) hnA1 hA hSA
    rw [if_neg c, hk, ← iI_nI, u2, bi2_s, iI_nI k]
    obtain ⟨v5, v6, a7, a8, e, q1, q2⟩ := div67 vk vn ve neg u3 u4 hB hSB (by omega) (by omega) (by rw [bl_mul _ _ hN]; omega) hD (s := (k : Int)) (by omega) (by omega)
    have hnear : rnd (N * 2 ^ k / D) (decide (N * 2 ^ k % D ≠ 0)) (-(k : Int)) = near N D := by
      by_cases g : k ≤ 2000
      · refine near_down hDpos g (Or.inl ?_)
        rcases Nat.lt_or_ge (bl (N * 2 ^ k / D)) 54 with z | z
        · have := bl_le_iff.mp (show bl (N * 2 ^ k / D) ≤ 53 from by omega)
          omega
        · exact z
      · rw [rnd_small (by
          have : bl (N * 2 ^ k / D) ≤ 62 := bl_le_iff.mpr q2
          omega)]
        symm
        apply near_small
        have h1 : N * 2 ^ k < 2 ^ 62 * D := (Nat.div_lt_iff_lt_mul hDpos).mp q2
        have h2 : N * 2 ^ k = N * 2 ^ 1076 * 2 ^ 62 * 2 ^ (k - 1138) := by
          rw [Nat.mul_assoc, Nat.mul_assoc, ← Nat.pow_add, ← Nat.pow_add]
          congr 2
          omega
        have h3 : N * 2 ^ 1076 * 2 ^ 62 * 1 ≤ N * 2 ^ 1076 * 2 ^ 62 * 2 ^ (k - 1138) := Nat.mul_le_mul_left _ (Nat.two_pow_pos _)
        rw [Nat.mul_one] at h3
        have h4 : N * 2 ^ 1076 * 2 ^ 62 < D * 2 ^ 62 := by
          rw [Nat.mul_comm D]
          omega
        exact Nat.lt_of_mul_lt_mul_right h4
    rw [hnear] at e
    exact ⟨v5, v6, a7, a8, e⟩

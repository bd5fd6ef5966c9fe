/-! decimal digits of a whole number; powers -/
def tdl (v : Nat) : Nat → List Nat
  | 0 => []
  | k + 1 => (48 + dg v k) :: tdl v k
theorem tdl_len (v : Nat) : ∀ k, (tdl v k).length = k := by
  intro k
  induction k with
  | zero => rfl
  | succ k ih => show (tdl v k).length + 1 = k + 1; rw [ih]
theorem tdl_By (v : Nat) : ∀ k, By (tdl v k) := by
  intro k
  induction k with
  | zero => exact By_nil
  | succ k ih =>
    have := dg_lt v k
    show By ([48 + dg v k] ++ tdl v k)
    exact By_app (By_one (by omega)) ih
def Dc (v c : Nat) : Prop := (v = 0 ∧ c = 0) ∨ (1 ≤ c ∧ 10 ^ (c - 1) ≤ v ∧ v < 10 ^ c)
theorem Dc_uniq {v c d : Nat} (h1 : Dc v c) (h2 : Dc v d) : c = d := by
  rcases h1 with ⟨a1, a2⟩ | ⟨a1, a2, a3⟩
  · rcases h2 with ⟨b1, b2⟩ | ⟨b1, b2, b3⟩
    · omega
    · have := ten_pos (d - 1)
      omega
  · rcases h2 with ⟨b1, b2⟩ | ⟨b1, b2, b3⟩
    · have := ten_pos (c - 1)
      omega
    · have c1 : 10 ^ (c - 1) < 10 ^ d := by omega
      have c2 : 10 ^ (d - 1) < 10 ^ c := by omega
      have c1 := (Nat.pow_lt_pow_iff_right (show 1 < 10 by decide)).mp c1
      have c2 := (Nat.pow_lt_pow_iff_right (show 1 < 10 by decide)).mp c2
      omega
theorem Dc_ex {v k : Nat} (h : v < 10 ^ k) : ∃ c, c ≤ k ∧ Dc v c := by
  by_cases c : v = 0
  · exact ⟨0, by omega, Or.inl ⟨c, rfl⟩⟩
  · obtain ⟨L, a1, a2, a3, a4⟩ := digs c k h
    exact ⟨L, a2, Or.inr ⟨a1, a3, a4⟩⟩
theorem Dc_pos {v c k : Nat} (h : Dc v c) (hk : k < c) : v / 10 ^ k ≠ 0 := by
  rcases h with ⟨a1, a2⟩ | ⟨a1, a2, a3⟩
  · omega
  · have : 10 ^ k ≤ v := Nat.le_trans (ten_le (by omega)) a2
    have := Nat.div_pos this (ten_pos k)
    omega
theorem Dc_end {v c : Nat} (h : Dc v c) : v / 10 ^ c = 0 := by
  rcases h with ⟨a1, a2⟩ | ⟨a1, a2, a3⟩
  · rw [a1, Nat.zero_div]
  · exact Nat.div_eq_of_lt a3
def sgI (neg : Bool) (v : Nat) : Int := if neg then -(v : Int) else v
theorem tens7 {v : Nat} (hv : v ≤ 9223372036854775808) {neg : Bool} (hv2 : neg = false → v < 9223372036854775808) {c : Nat} (hc : Dc v c) (hc2 : c ≤ 21) : ∀ (m k f : Nat) (a : Nat → Int32), k + m = c → m < f → (∀ i, i < k → a i = nI (48 + dg v i)) →
    ∃ a', f_Writer_findTens_7 f (nI k) a (jJ (sgI neg (v / 10 ^ k))) = some (nI c, a') ∧ (∀ i, i < c → a' i = nI (48 + dg v i)) := by
  intro m
  induction m with
  | zero =>
    intro k f a h hf ha
    obtain ⟨f, rfl⟩ : ∃ j, f = j + 1 := ⟨f - 1, by omega⟩
    have : k = c := by omega
    subst this
    refine ⟨a, ?_, ha⟩
    show f_Writer_findTens_7b _ _ _ _ = _
    unfold f_Writer_findTens_7b
    rw [Dc_end hc, if_pos (by cases neg <;> decide)]
  | succ m ih =>
    intro k f a h hf ha
    obtain ⟨f, rfl⟩ : ∃ j, f = j + 1 := ⟨f - 1, by omega⟩
    have hne := Dc_pos hc (show k < c by omega)
    have hle : v / 10 ^ k ≤ v := Nat.div_le_self _ _
    have hnext : v / 10 ^ (k + 1) = v / 10 ^ k / 10 := by rw [Nat.pow_succ, Nat.div_div_eq_div_mul]
    have hdg : dg v k = v / 10 ^ k % 10 := rfl
    have hd := dg_lt v k
    have ih1 := ih (k + 1) f
    rw [hnext] at ih1
    clear ih
    generalize v / 10 ^ k = x at *
    have hrange : -9223372036854775808 ≤ sgI neg x ∧ sgI neg x < 9223372036854775808 := by
      unfold sgI
      cases neg
      · have := hv2 rfl
        rw [if_neg (by decide)]
        omega
      · rw [if_pos rfl]
        omega
    have hne0 : ¬ jJ (sgI neg x) = (0 : Int64) := by
      rw [show (0 : Int64) = jJ 0 from by decide, jJ_eq hrange.1 hrange.2 (by decide) (by decide)]
      unfold sgI
      split <;> omega
    have hdiv : jJ (sgI neg x) / (10 : Int64) = jJ (sgI neg (x / 10)) := by
      rw [show (10 : Int64) = jJ 10 from by decide, jJ_div hrange.1 hrange.2 (by decide) (by decide)]
      congr 1
      unfold sgI
      cases neg
      · rw [if_neg (by decide), if_neg (by decide)]
        rfl
      · rw [if_pos rfl, if_pos rfl, Int.neg_tdiv]
        rfl
    have hmod : (lrm (jJ (sgI neg x)) (10 : Int64)).toInt32 = iI (sgI neg (x % 10)) := by
      rw [show (10 : Int64) = jJ 10 from by decide, jJ_rem hrange.1 hrange.2 (by decide) (by decide), jJ_i]
      congr 1
      unfold sgI
      cases neg
      · rw [if_neg (by decide), if_neg (by decide)]
        rfl
      · rw [if_pos rfl, if_pos rfl, Int.neg_tmod]
        rfl
    have fin : ∃ a', f_Writer_findTens_56 (f_Writer_findTens_7 f) (nI k) a (jJ (sgI neg x)) (nI k) (48 : Int32) (nI (x % 10)) = some (nI c, a') ∧ (∀ i, i < c → a' i = nI (48 + dg v i)) := by
      unfold f_Writer_findTens_56
      rw [ck_s (gin_nI (by omega) (by decide)), bd_s, bd_s, bd_s, nI_clamp (by omega), add48, byte7 _ (by omega), hdiv, nI_1]
      refine ih1 _ (by omega) (by omega) ?_
      intro i hi
      unfold upd
      by_cases q : i = k
      · rw [if_pos q, q, hdg]
      · rw [if_neg q]
        exact ha i (by omega)
    show ∃ a', f_Writer_findTens_7b _ _ _ _ = _ ∧ _
    unfold f_Writer_findTens_7b
    rw [if_neg hne0, if_neg (show ¬ (22 : Int32) ≤ nI k from nI_ge (b := 22) (by omega) (by decide)), bd_s, hmod]
    cases neg
    · rw [show sgI false (x % 10) = ((x % 10 : Nat) : Int) from rfl, ← iI_nI, if_pos (nI_pos' (by omega))]
      exact fin
    · rw [show sgI true (x % 10) = -((x % 10 : Nat) : Int) from rfl]
      by_cases z : x % 10 = 0
      · rw [z] at fin ⊢
        rw [show -((0 : Nat) : Int) = ((0 : Nat) : Int) from rfl, ← iI_nI, if_pos (nI_pos' (by decide))]
        exact fin
      · rw [if_neg (by rw [iI_kle 0 (by decide) (by omega) (by omega) (by decide) (by decide)]; omega), iI_neg, Int.neg_neg, ← iI_nI]
        exact fin
theorem found15 {dgs : Nat → Int32} {v c : Nat} (hc : c ≤ 22) (hd : ∀ i, i < c → dgs i = nI (48 + dg v i)) (vc : Int32) : ∀ (k f : Nat) (sz : Int32) (a : Nat → Int32) (l : List Nat), k ≤ c → k < f → Pt sz a l → l.length + k ≤ 420 →
    ∃ sz' a', f_Writer_putFoundDigits_15 f vc dgs sz a (iI ((k : Int) - 1)) = some (sz', a') ∧ Pt sz' a' (l ++ tdl v k) := by
  intro k
  induction k with
  | zero =>
    intro f sz a l hk hf hP hl
    obtain ⟨f, rfl⟩ : ∃ j, f = j + 1 := ⟨f - 1, by omega⟩
    refine ⟨sz, a, ?_, by show Pt sz a (l ++ []); rw [List.append_nil]; exact hP⟩
    show f_Writer_putFoundDigits_15b _ _ _ _ _ _ = _
    unfold f_Writer_putFoundDigits_15b
    rw [if_pos (by decide)]
  | succ k ih =>
    intro f sz a l hk hf hP hl
    obtain ⟨f, rfl⟩ : ∃ j, f = j + 1 := ⟨f - 1, by omega⟩
    have hdl := dg_lt v k
    obtain ⟨s1, a1, e1, h1⟩ := cput (b := 48 + dg v k) hP (by omega) (by omega)
    obtain ⟨s2, a2, e2, h2⟩ := ih f s1 a1 (l ++ [48 + dg v k]) (by omega) (by omega) h1 (by rw [List.length_append, List.length_singleton]; omega)
    rw [List.append_assoc] at h2
    refine ⟨s2, a2, ?_, h2⟩
    show f_Writer_putFoundDigits_15b _ _ _ _ _ _ = _
    unfold f_Writer_putFoundDigits_15b
    rw [show ((k + 1 : Nat) : Int) - 1 = (k : Int) from by omega, ← iI_nI, if_neg (nI_pos (by omega)), ck_s (gin_nI (by omega) (by decide)), nI_clamp (by omega), hd k (by omega), e1, bi2_s, bd_s, show nI k + (-1 : Int32) = iI ((k : Int) - 1) from by rw [show (-1 : Int32) = iI (-1) from by decide, iI_nI, iI_add]; congr 1]
    exact e2
theorem foundDigits {dgs : Nat → Int32} {v c : Nat} (hc : c ≤ 22) (hd : ∀ i, i < c → dgs i = nI (48 + dg v i)) {sz : Int32} {a : Nat → Int32} {l : List Nat} (hP : Pt sz a l) (hl : l.length + c ≤ 420) :
    ∃ sz' a', f_Writer_putFoundDigits (nI c) dgs sz a = some (sz', a') ∧ Pt sz' a' (l ++ tdl v c) := by
  unfold f_Writer_putFoundDigits
  rw [bd_s, show (22 : Int32) = nI 22 from rfl, imn_nI (by omega) (by decide), Nat.min_eq_left hc, iI_nI c, show (1 : Int32) = iI 1 from by decide, iI_sub, ← iI_nI]
  exact found15 hc hd (nI c) c fu sz a l (Nat.le_refl _) (by unfold fu; omega) hP hl
/-- zeros in front -/
theorem tdl_zeros {v c : Nat} (hv : v < 10 ^ c) : ∀ n, tdl v (c + n) = List.replicate n 48 ++ tdl v c := by
  intro n
  induction n with
  | zero => rfl
  | succ n ih =>
    show (48 + dg v (c + n)) :: tdl v (c + n) = 48 :: (List.replicate n 48 ++ tdl v c)
    rw [dg_high hv (by omega), ih]
theorem Dc_lt {v c : Nat} (h : Dc v c) : v < 10 ^ c := by
  rcases h with ⟨a1, a2⟩ | ⟨a1, a2, a3⟩
  · rw [a1]; exact ten_pos _
  · exact a3
/-- a power: its sign, its digits, at least so many -/
def pw (t : Int) (n : Nat) : List Nat := [if t < 0 then 45 else 43] ++ tdl t.natAbs n
theorem cpower {t : Int} (h1 : -9000 ≤ t) (h2 : t ≤ 9000) {c ls : Nat} (hc : Dc t.natAbs c) (hls : ls ≤ 9) (vc : Int32) (dgs : Nat → Int32) {sz : Int32} {a : Nat → Int32} {l : List Nat} (hP : Pt sz a l) (hl : l.length + 10 ≤ 420) :
    ∃ c' dgs' sz' a', f_Writer_putPower vc dgs sz a (iI t) (nI ls) = some (c', dgs', sz', a') ∧ Pt sz' a' (l ++ pw t (max ls c)) := by
  have hc4 : c ≤ 4 := by
    obtain ⟨d, q1, q2⟩ := Dc_ex (v := t.natAbs) (k := 4) (by omega)
    have := Dc_uniq hc q2
    omega
  have go : ∀ s, s = (if t < 0 then 45 else 43) → ∃ c' dgs' sz' a', f_Writer_putPower_15 vc dgs sz a (iI t) (nI ls) (nI s) = some (c', dgs', sz', a') ∧ Pt sz' a' (l ++ pw t (max ls c)) := by
    intro s hs
    have hs128 : s < 128 := by rw [hs]; split <;> decide
    obtain ⟨s1, a1, e1, q1⟩ := cput (b := s) hP (by omega) hs128
    obtain ⟨d2, e2, q2⟩ := tens7 (v := t.natAbs) (by omega) (neg := decide (t < 0)) (fun _ => by omega) hc (by omega) c 0 fu dgs (by omega) (by unfold fu; omega) (fun i hi => absurd hi (by omega))
    rw [Nat.pow_zero, Nat.div_one, show sgI (decide (t < 0)) t.natAbs = t from by
      unfold sgI
      by_cases w : t < 0
      · rw [if_pos (decide_eq_true w)]; omega
      · rw [if_neg (by simp; omega)]; omega] at e2
    obtain ⟨s3, a3, e3, q3⟩ := many_eq (b := 48) (by decide) q1 (n := (ls : Int) - c) (by omega) (by omega) (by rw [List.length_append, List.length_singleton]; omega)
    obtain ⟨s4, a4, e4, q4⟩ := foundDigits (v := t.natAbs) (c := c) (by omega) q2 q3 (by rw [List.length_append, List.length_append, List.length_singleton, List.length_replicate]; omega)
    refine ⟨nI c, d2, s4, a4, ?_, ?_⟩
    · unfold f_Writer_putPower_15 f_Writer_findTens
      rw [e1, bi2_s, iI_l (by omega) (by omega), show (0 : Int32) = nI 0 from rfl, e2, bi2_s, show nI ls - nI c = iI ((ls : Int) - c) from by rw [iI_nI, iI_nI, iI_sub], show (48 : Int32) = nI 48 from rfl, e3, bi2_s, e4, bi2_s]
    · unfold pw
      rw [← hs, show max ls c = c + ((ls : Int) - c).toNat from by omega, tdl_zeros (Dc_lt hc)]
      simp only [List.append_assoc] at q4 ⊢
      exact q4
  unfold f_Writer_putPower
  rw [ite_c (iI_kle 0 (by decide) (by omega) (by omega) (by decide) (by decide))]
  by_cases s : 0 ≤ t
  · rw [if_pos s]
    exact go 43 (by rw [if_neg (by omega)])
  · rw [if_neg s]
    exact go 45 (by rw [if_pos (by omega)])
/-! the reference -/
theorem mpw71 {v : Nat} (hv : v < 100000) : ∀ (k f : Nat) (sz : Int32) (a : Nat → Int32) (l : List Nat), k ≤ 9 → k < f → Pt sz a l → l.length + k < 700 →
    ∃ sz' a', f_M_putPower_71 f sz a (nI v) (nI (un k)) = some (sz', a') ∧ Pt sz' a' (l ++ tdl v k) := by
  intro k
  induction k with
  | zero =>
    intro f sz a l hk hf hP hl
    obtain ⟨f, rfl⟩ : ∃ j, f = j + 1 := ⟨f - 1, by omega⟩
    refine ⟨sz, a, ?_, by show Pt sz a (l ++ []); rw [List.append_nil]; exact hP⟩
    show f_M_putPower_71b _ _ _ _ _ = _
    unfold f_M_putPower_71b
    rw [if_pos (show nI (un 0) ≤ 0 from by decide)]
  | succ k ih =>
    intro f sz a l hk hf hP hl
    obtain ⟨f, rfl⟩ : ∃ j, f = j + 1 := ⟨f - 1, by omega⟩
    have hp := ten_pos k
    have hp2 := (tens_9 (k := k) (by omega)).1
    have hd := dg_lt v k
    have hle : v / 10 ^ k ≤ v := Nat.div_le_self _ _
    obtain ⟨s1, a1, e1, h1⟩ := mput (b := 48 + dg v k) hP (by omega) (by omega)
    obtain ⟨s2, a2, e2, h2⟩ := ih f s1 a1 (l ++ [48 + dg v k]) (by omega) (by omega) h1 (by rw [List.length_append, List.length_singleton]; omega)
    rw [List.append_assoc] at h2
    refine ⟨s2, a2, ?_, h2⟩
    show f_M_putPower_71b _ _ _ _ _ = _
    unfold f_M_putPower_71b
    have enext : nI (10 ^ k) / (10 : Int32) = nI (un k) := by
      have : 10 ^ k / 10 = un k := by
        cases k with
        | zero => rfl
        | succ w =>
          show 10 ^ (w + 1) / 10 = 10 ^ w
          rw [Nat.pow_succ]
          omega
      rw [← this]
      rw [iI_nI, show (10 : Int32) = iI 10 from by decide, iI_div (by omega) (by omega) (by decide) (by decide), iI_nI]
      congr 1
    have edig : irm (nI v / nI (10 ^ k)) (10 : Int32) = nI (dg v k) := by
      have e1 : nI v / nI (10 ^ k) = nI (v / 10 ^ k) := by
        generalize 10 ^ k = y at hp hp2
        rw [iI_nI, iI_nI, iI_div (by omega) (by omega) (by omega) (by omega), iI_nI]
        congr 1
      rw [e1, show (10 : Int32) = nI 10 from rfl, irm_nI (by omega) (by decide) (by decide)]
      rfl
    rw [show un (k + 1) = 10 ^ k from rfl, if_neg (nI_nle hp (by omega)), ck_s (nI_ne0 hp (by omega)), edig, add48, e1, bi2_s, bd_s, enext]
    exact e2
theorem mpw38 {v : Nat} (hv : v < 10000) {ls N : Nat} (hls : ls ≤ 4) (hN1 : 1 ≤ N) (hN : N ≤ 4) (hNl : ls ≤ N) (hvN : v < 10 ^ N) (hmin : ∀ n, 1 ≤ n → n < N → n < ls ∨ 10 ^ n ≤ v) {sz : Int32} {a : Nat → Int32} : ∀ (m n f : Nat), n + m = N → m < f → 1 ≤ n →
    f_M_putPower_38 f sz a (nI ls) (nI v) (nI (10 ^ (n - 1))) (nI n) = f_M_putPower_67 sz a (nI v) (nI (10 ^ (N - 1))) := by
  intro m
  induction m with
  | zero =>
    intro n f h hf hn
    obtain ⟨f, rfl⟩ : ∃ j, f = j + 1 := ⟨f - 1, by omega⟩
    have : n = N := by omega
    subst this
    have hp := ten_pos (n - 1)
    have hp2 := (tens_9 (k := n - 1) (by omega)).1
    have hq : v / 10 ^ (n - 1) ≤ 9 := by
      have : v / 10 ^ (n - 1) < 10 := by
        rw [Nat.div_lt_iff_lt_mul hp, Nat.mul_comm, ← Nat.pow_succ, show (n - 1).succ = n from by omega]
        exact hvN
      omega
    have e1 : nI v / nI (10 ^ (n - 1)) = nI (v / 10 ^ (n - 1)) := by
      generalize 10 ^ (n - 1) = y at hp hp2
      rw [iI_nI, iI_nI, iI_div (by omega) (by omega) (by omega) (by omega), iI_nI]
      congr 1
    show f_M_putPower_38b _ _ _ _ _ _ _ = _
    unfold f_M_putPower_38b
    rw [ck_s (nI_ne0 hp (by omega)), e1, if_neg (show ¬ (9 : Int32) < nI (v / 10 ^ (n - 1)) from nI_nlt (a := 9) hq (by decide)), if_pos (nI_le hNl (by omega))]
  | succ m ih =>
    intro n f h hf hn
    obtain ⟨f, rfl⟩ : ∃ j, f = j + 1 := ⟨f - 1, by omega⟩
    have hp := ten_pos (n - 1)
    have hp2 := (tens_9 (k := n - 1) (by omega)).1
    have hle : v / 10 ^ (n - 1) ≤ v := Nat.div_le_self _ _
    have e1 : nI v / nI (10 ^ (n - 1)) = nI (v / 10 ^ (n - 1)) := by
      generalize 10 ^ (n - 1) = y at hp hp2
      rw [iI_nI, iI_nI, iI_div (by omega) (by omega) (by omega) (by omega), iI_nI]
      congr 1
    have nxt : f_M_putPower_54 (f_M_putPower_38 f) sz a (nI ls) (nI v) (nI (10 ^ (n - 1))) (nI n) = f_M_putPower_67 sz a (nI v) (nI (10 ^ (N - 1))) := by
      unfold f_M_putPower_54
      rw [bd_s, bd_s, show (10 : Int32) = nI 10 from rfl, pk_mul, nI_1, show 10 * 10 ^ (n - 1) = 10 ^ (n + 1 - 1) from by rw [show n + 1 - 1 = (n - 1) + 1 from by omega, Nat.pow_succ]; omega]
      exact ih (n + 1) f (by omega) (by omega) (by omega)
    show f_M_putPower_38b _ _ _ _ _ _ _ = _
    unfold f_M_putPower_38b
    rw [ck_s (nI_ne0 hp (by omega)), e1]
    rcases hmin n hn (by omega) with g | g
    · by_cases w : 9 < v / 10 ^ (n - 1)
      · rw [if_pos (show (9 : Int32) < nI (v / 10 ^ (n - 1)) from nI_lt (a := 9) w (by omega))]
        exact nxt
      · rw [if_neg (show ¬ (9 : Int32) < nI (v / 10 ^ (n - 1)) from nI_nlt (a := 9) (by omega) (by decide)), if_neg (nI_ge g (by omega))]
        exact nxt
    · have w : 9 < v / 10 ^ (n - 1) := by
        have : 10 ≤ v / 10 ^ (n - 1) := by
          rw [Nat.le_div_iff_mul_le hp, Nat.mul_comm, ← Nat.pow_succ, show (n - 1).succ = n from by omega]
          exact g
        omega
      rw [if_pos (show (9 : Int32) < nI (v / 10 ^ (n - 1)) from nI_lt (a := 9) w (by omega))]
      exact nxt
theorem mpower {t : Int} (h1 : -9000 ≤ t) (h2 : t ≤ 9000) {c ls : Nat} (hc : Dc t.natAbs c) (hls : ls ≤ 4) (hls1 : 1 ≤ ls) {lt : Nat} (hlt : lt < 128) {sz : Int32} {a : Nat → Int32} {l : List Nat} (hP : Pt sz a l) (hl : l.length + 20 < 700) :
    ∃ sz' a', f_M_putPower sz a (nI lt) (iI t) (nI ls) = some (sz', a') ∧ Pt sz' a' (l ++ [lt] ++ pw t (max ls c)) := by
  have hc4 : c ≤ 4 := by
    obtain ⟨d, q1, q2⟩ := Dc_ex (v := t.natAbs) (k := 4) (by omega)
    have := Dc_uniq hc q2
    omega
  obtain ⟨s1, a1, e1, q1⟩ := mput (b := lt) hP (by omega) hlt
  have main : ∀ (s2 : Int32) (a2 : Nat → Int32) (l2 : List Nat), Pt s2 a2 l2 → l2.length + 10 < 700 → ∃ sz' a', f_M_putPower_30 s2 a2 (nI ls) (nI t.natAbs) = some (sz', a') ∧ Pt sz' a' (l2 ++ tdl t.natAbs (max ls c)) := by
    intro s2 a2 l2 q2 hl2
    have e := mpw38 (v := t.natAbs) (by omega) (ls := ls) (N := max ls c) hls (by omega) (by omega) (by omega) (Nat.lt_of_lt_of_le (Dc_lt hc) (ten_le (by omega))) (by
      intro n hn1 hn2
      by_cases g : n < ls
      · exact Or.inl g
      · right
        rcases hc with ⟨a1, a2⟩ | ⟨a1, a2, a3⟩
        · omega
        · exact Nat.le_trans (ten_le (by omega)) a2) (sz := s2) (a := a2) (max ls c - 1) 1 fu (by omega) (by unfold fu; omega) (by omega)
    obtain ⟨s3, a3, e3, q3⟩ := mpw71 (v := t.natAbs) (by omega) (max ls c) fu s2 a2 l2 (by omega) (by unfold fu; omega) q2 (by omega)
    refine ⟨s3, a3, ?_, q3⟩
    unfold f_M_putPower_30
    rw [show (1 : Int32) = nI (10 ^ (1 - 1)) from rfl, show nI (10 ^ (1 - 1)) = nI 1 from rfl] at *
    refine Eq.trans e ?_
    unfold f_M_putPower_67
    rw [show 10 ^ (max ls c - 1) = un (max ls c) from by
      rw [show max ls c = (max ls c - 1) + 1 from by omega]
      rfl]
    exact e3
  have go : ∀ s, s = (if t < 0 then 45 else 43) → ∃ sz' a', f_M_putPower_17 s1 a1 (iI t) (nI ls) (nI s) = some (sz', a') ∧ Pt sz' a' (l ++ [lt] ++ pw t (max ls c)) := by
    intro s hs
    have hs128 : s < 128 := by rw [hs]; split <;> decide
    obtain ⟨s2, a2, e2, q2⟩ := mput (b := s) q1 (by rw [List.length_append, List.length_singleton]; omega) hs128
    obtain ⟨s3, a3, e3, q3⟩ := main s2 a2 _ q2 (by rw [List.length_append, List.length_append, List.length_singleton, List.length_singleton]; omega)
    refine ⟨s3, a3, ?_, ?_⟩
    · unfold f_M_putPower_17
      rw [e2, bi2_s, ite_c (iI_kle 0 (by decide) (by omega) (by omega) (by decide) (by decide)), iI_neg]
      by_cases w : 0 ≤ t
      · rw [if_pos w, show iI t = nI t.natAbs from by rw [iI_nI]; congr 1; omega]
        exact e3
      · rw [if_neg w, show iI (-t) = nI t.natAbs from by rw [iI_nI]; congr 1; omega]
        exact e3
    · unfold pw
      rw [← hs]
      simp only [List.append_assoc] at q3 ⊢
      exact q3
  unfold f_M_putPower
  rw [e1, bi2_s, ite_c (iI_kle 0 (by decide) (by omega) (by omega) (by decide) (by decide))]
  by_cases s : 0 ≤ t
  · rw [if_pos s]
    exact go 43 (by rw [if_neg (by omega)])
  · rw [if_neg s]
    exact go 45 (by rw [if_pos (by omega)])

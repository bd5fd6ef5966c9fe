/-! the reference's nearest -/
theorem rq_mul (t k d : Nat) (st : Bool) : rq (t * 2 ^ k) (d + k) st = rq t d st := by
  have hp := Nat.two_pow_pos k
  have e1 : t * 2 ^ k / 2 ^ (d + k) = t / 2 ^ d := by rw [Nat.pow_add]; exact Nat.mul_div_mul_right _ _ hp
  have e2 : t * 2 ^ k % 2 ^ (d + k) = t % 2 ^ d * 2 ^ k := by rw [Nat.pow_add]; exact Nat.mul_mod_mul_right _ _ _
  have h1 : (2 ^ (d + k) < 2 * (t % 2 ^ d * 2 ^ k)) = (2 ^ d < 2 * (t % 2 ^ d)) := by
    rw [Nat.pow_add, ← Nat.mul_assoc]
    exact propext (Nat.mul_lt_mul_right hp)
  have h2 : (2 * (t % 2 ^ d * 2 ^ k) = 2 ^ (d + k)) = (2 * (t % 2 ^ d) = 2 ^ d) := by
    rw [Nat.pow_add, ← Nat.mul_assoc]
    exact propext ⟨fun h => Nat.eq_of_mul_eq_mul_right hp h, fun h => by rw [h]⟩
  unfold rq
  rw [e1, e2]
  exact ite_c (by rw [h1, h2])
theorem rq_exact (t k : Nat) (st : Bool) : rq (t * 2 ^ k) k st = t := by
  have hp := Nat.two_pow_pos k
  have e1 : t * 2 ^ k / 2 ^ k = t := Nat.mul_div_cancel _ hp
  have e2 : t * 2 ^ k % 2 ^ k = 0 := Nat.mul_mod_left _ _
  unfold rq
  rw [e1, e2, if_neg (by omega)]
theorem rd_mul {t : Nat} (ht : t ≠ 0) (k : Nat) (e : Int) : rd (t * 2 ^ k) (e - k) = rd t e + k := by
  unfold rd
  rw [bl_mul t k ht]
  omega
theorem rnd_shift {t : Nat} (ht : t ≠ 0) (k : Nat) (e : Int) : rnd (t * 2 ^ k) false (e - k) = rnd t false e := by
  unfold rnd
  rw [rd_mul ht]
  generalize rd t e = d
  by_cases c : d ≤ 0
  · rw [if_pos c]
    by_cases c2 : d + k ≤ 0
    · rw [if_pos c2]; exact red_shift t k e
    · rw [if_neg c2]
      obtain ⟨j, hj⟩ : ∃ j : Nat, d = -(j : Int) := ⟨(-d).toNat, by omega⟩
      obtain ⟨i, hi⟩ : ∃ i : Nat, k = i + j := ⟨k - j, by omega⟩
      subst hi
      rw [show (d + ((i + j : Nat) : Int)).toNat = i from by omega, show t * 2 ^ (i + j) = t * 2 ^ j * 2 ^ i from by rw [Nat.mul_assoc, ← Nat.pow_add, Nat.add_comm j i], rq_exact]
      have := red_shift t j e
      rw [← this]
      congr 1
      omega
  · rw [if_neg c, if_neg (by omega)]
    obtain ⟨j, hj⟩ : ∃ j : Nat, d = (j : Int) := ⟨d.toNat, by omega⟩
    subst hj
    rw [show ((j : Int) + (k : Int)).toNat = j + k from by omega, Int.toNat_natCast, rq_mul]
    congr 1
    omega
/-- what set leaves of a real: sg is 1 or -1 -/
theorem set_loop : ∀ (t f q : Nat) (sg : Int) (E : Int), (sg = 1 ∨ sg = -1) → 2 ^ t * (2 * q + 1) < 9223372036854775808 → t < f → -100000 ≤ E → E + t ≤ 100000 →
    f_M_set_26 f 2 (jJ (sg * (2 ^ t * (2 * q + 1) : Nat))) (iI E) 2 = some (2, 2, jJ (sg * (2 * q + 1 : Nat)), iI (E + t)) := by
  intro t
  induction t with
  | zero =>
    intro f q sg E hs hb hf h1 h2
    obtain ⟨f, rfl⟩ : ∃ k, f = k + 1 := ⟨f - 1, by omega⟩
    show f_M_set_26b _ _ _ _ _ = _
    unfold f_M_set_26b
    rw [if_pos rfl]
    have e0 : (2 ^ 0 * (2 * q + 1) : Nat) = 2 * q + 1 := by omega
    rw [e0] at hb ⊢
    have n0 : ¬ jJ (sg * (2 * q + 1 : Nat)) = (0 : Int64) := by
      rw [show (0 : Int64) = jJ 0 from by decide, jJ_eq (by rcases hs with rfl | rfl <;> omega) (by rcases hs with rfl | rfl <;> omega) (by decide) (by decide)]
      rcases hs with rfl | rfl <;> omega
    have n1 : ¬ (jJ (sg * (2 * q + 1 : Nat)) &&& (1 : Int64)) = (0 : Int64) := by
      rw [show (1 : Int64) = jJ ((2 ^ 1 - 1 : Nat) : Int) from by decide, jJ_mask _ 1 (by decide), show (0 : Int64) = jJ 0 from by decide, jJ_eq (by omega) (by omega) (by decide) (by decide)]
      rcases hs with rfl | rfl <;> omega
    rw [if_neg n0, if_neg n1]
    congr 5
    omega
  | succ t ih =>
    intro f q sg E hs hb hf h1 h2
    obtain ⟨f, rfl⟩ : ∃ k, f = k + 1 := ⟨f - 1, by omega⟩
    have e0 : (2 ^ (t + 1) * (2 * q + 1) : Nat) = 2 * (2 ^ t * (2 * q + 1)) := by rw [Nat.pow_succ, Nat.mul_comm (2 ^ t) 2, Nat.mul_assoc]
    have hpos : 0 < 2 ^ t * (2 * q + 1) := Nat.mul_pos (Nat.two_pow_pos t) (by omega)
    have ih' := ih f q sg (E + 1) hs (by omega) (by omega) (by omega) (by omega)
    rw [e0] at hb ⊢
    generalize (2 ^ t * (2 * q + 1) : Nat) = X at hb hpos ih' ⊢
    show f_M_set_26b _ _ _ _ _ = _
    unfold f_M_set_26b
    rw [if_pos rfl]
    have n0 : ¬ jJ (sg * (2 * X : Nat)) = (0 : Int64) := by
      rw [show (0 : Int64) = jJ 0 from by decide, jJ_eq (by rcases hs with rfl | rfl <;> omega) (by rcases hs with rfl | rfl <;> omega) (by decide) (by decide)]
      rcases hs with rfl | rfl <;> omega
    have n1 : (jJ (sg * (2 * X : Nat)) &&& (1 : Int64)) = (0 : Int64) := by
      rw [show (1 : Int64) = jJ ((2 ^ 1 - 1 : Nat) : Int) from by decide, jJ_mask _ 1 (by decide), show (0 : Int64) = jJ 0 from by decide, jJ_eq (by omega) (by omega) (by decide) (by decide)]
      rcases hs with rfl | rfl <;> omega
    have n2 : lsr (jJ (sg * (2 * X : Nat))) (1 : Int32) = jJ (sg * (X : Nat)) := by
      rw [show (1 : Int32) = iI ((1 : Nat) : Int) from by decide, jJ_lsr (by rcases hs with rfl | rfl <;> omega) (by rcases hs with rfl | rfl <;> omega) (by decide)]
      congr 1
      rcases hs with rfl | rfl <;> omega
    rw [if_neg n0, if_pos n1]
    unfold bd
    try dsimp only
    rw [n2, show (1 : Int32) = iI 1 from by decide, iI_add, ih']
    congr 5
    omega
/-- a Size as kind, number, exponent -/
def mres (neg : Bool) (r : Int64 × Int32 × Int32) : Int32 × Int64 × Int32 :=
  if r.2.2 = 1 then (if neg then 4 else 3, 0, 0) else (2, if neg then -r.1 else r.1, r.2.1)
theorem mres_fin (neg : Bool) (a : Int64) (b : Int32) : mres neg (a, b, 0) = (2, if neg then -a else a, b) := by
  unfold mres
  dsimp only
  rw [if_neg (by decide)]
theorem set_real (k0 : Int32) (n0 : Int64) (x0 : Int32) {q : Nat} (hq : q < 9223372036854775808) {E : Int} (h1 : -40000 ≤ E) (h2 : E ≤ 40000) (neg : Bool) (hi : ¬ 1024 < (bl q : Int) + E ∨ q = 0) :
    f_M_set k0 n0 x0 2 (jJ (if neg then -(q : Int) else q)) (iI E) = some (2, mres neg (red q E)) := by
  unfold f_M_set f_M_set_23
  by_cases c : q = 0
  · subst c
    have z : jJ (if neg then -((0 : Nat) : Int) else ((0 : Nat) : Int)) = 0 := by cases neg <;> decide
    rw [z, if_pos rfl]
    show f_M_set_26b _ _ _ _ _ = _
    unfold f_M_set_26b
    rw [if_pos rfl, if_pos rfl, show red 0 E = (0, 0, 0) from rfl]
    cases neg <;> decide
  · have sgn : jJ (if neg then -(q : Int) else q) = jJ ((if neg then -1 else 1) * (q : Int)) := by
      congr 1
      cases neg <;> simp
    obtain ⟨r, hr⟩ := tz_spec c
    obtain ⟨b1, b2⟩ := tz_of hr
    have hbl := bl_odd hr
    have hb63 : bl q ≤ 63 := bl_le_iff.mpr hq
    have hpos : 1 ≤ bl (2 * r + 1) := bl_pos (by omega)
    have n0 : ¬ jJ (if neg then -(q : Int) else q) = (0 : Int64) := by
      rw [show (0 : Int64) = jJ 0 from by decide, jJ_eq (by cases neg <;> simp <;> omega) (by cases neg <;> simp <;> omega) (by decide) (by decide)]
      cases neg <;> simp <;> omega
    rw [if_neg n0, sgn]
    have := set_loop (tz q) fu r (if neg then -1 else 1) E (by cases neg <;> simp) (by rw [← hr]; exact hq) (by unfold fu; omega) (by omega) (by omega)
    rw [← hr] at this
    rw [this]
    have hred : red q E = (lN (2 * r + 1), iI (E + tz q), 0) := by
      unfold red
      rw [if_neg c, if_neg (hi.elim id (fun h => absurd h c)), b2]
    have hsg : jJ ((if neg then -1 else 1) * ((2 * r + 1 : Nat) : Int)) = (if neg then -lN (2 * r + 1) else lN (2 * r + 1)) := by
      cases neg
      · show jJ (1 * ((2 * r + 1 : Nat) : Int)) = lN (2 * r + 1)
        rw [jJ_lN, Int.one_mul]
      · show jJ (-1 * ((2 * r + 1 : Nat) : Int)) = -lN (2 * r + 1)
        rw [jJ_lN, jJ_neg]
        congr 1
        omega
    rw [hred, mres_fin, hsg]
theorem near_loop (vk : Int32) (vn : Int64) (ve ng : Int32) : ∀ (k f s : Nat) (e : Int), s ≠ 0 → bl s + k = 62 → k < f →
    f_M_nearest_20 f vk vn ve ng (lN s) (iI e) = f_M_nearest_43 vk vn ve ng (lN (s * 2 ^ k)) (iI (e - k)) := by
  intro k
  induction k with
  | zero =>
    intro f s e hs hb hf
    obtain ⟨f, rfl⟩ : ∃ j, f = j + 1 := ⟨f - 1, by omega⟩
    have hlt := bl_lt s
    have hle := bl_le hs
    rw [show bl s = 62 from by omega] at hlt hle
    show f_M_nearest_20b _ _ _ _ _ _ _ = _
    unfold f_M_nearest_20b
    rw [show (2305843009213693952 : Int64) = lN 2305843009213693952 from rfl, if_pos ((pk_lLE (by decide) (by omega)).mpr (by omega))]
    simp
  | succ k ih =>
    intro f s e hs hb hf
    obtain ⟨f, rfl⟩ : ∃ j, f = j + 1 := ⟨f - 1, by omega⟩
    have hlt : s < 2 ^ 61 := bl_le_iff.mp (by omega)
    have ih' := ih f (s * 2 ^ 1) (e - 1) (by omega) (by rw [bl_mul s 1 hs]; omega) (by omega)
    show f_M_nearest_20b _ _ _ _ _ _ _ = _
    unfold f_M_nearest_20b
    rw [show (2305843009213693952 : Int64) = lN 2305843009213693952 from rfl, if_neg (fun h => by
      have := (pk_lLE (by decide) (by omega)).mp h
      omega)]
    unfold bd
    try dsimp only
    rw [show (2 : Int64) = lN 2 from rfl, lN_mul, show 2 * s = s * 2 ^ 1 from by omega, show (-1 : Int32) = iI (-1) from by decide, iI_add, show e + -1 = e - 1 from by omega, ih', Nat.mul_assoc, ← Nat.pow_add, Nat.add_comm 1 k]
    congr 2
    omega
theorem nearest_inf (vk : Int32) (vn : Int64) (ve : Int32) (neg : Bool) : f_M_nearest_195 vk vn ve (if neg then 4 else 3) = some (if neg then 4 else 3, if neg then 4 else 3, 0, 0) := by
  unfold f_M_nearest_195
  cases neg
  · rw [if_neg (by decide), set_plain 3 (by decide)]; rfl
  · rw [if_pos rfl, set_plain 4 (by decide)]; rfl
/-- from the rounded q on -/
theorem nearest_164 (vk : Int32) (vn : Int64) (ve : Int32) (neg : Bool) {q : Nat} (hq : q < 9007199254740992) {x d : Int} (hx : -20000 ≤ x) (hx2 : x ≤ 20000) (hd : 0 ≤ d) (hd2 : d ≤ 20000) (hsm : q < 4503599627370496 → x + d ≤ 971) :
    f_M_nearest_164 vk vn ve (if neg then 1 else 0) (iI x) (iI d) (lN q) = some ((mres neg (red q (x + d))).1, mres neg (red q (x + d))) := by
  have fin : ¬ 1024 < (bl q : Int) + (x + d) → f_M_nearest_201 vk vn ve (if neg then 1 else 0) (iI x) (iI d) (lN q) = some ((mres neg (red q (x + d))).1, mres neg (red q (x + d))) := by
    intro hn
    have hm1 : (mres neg (red q (x + d))).1 = 2 := by
      unfold red
      by_cases c : q = 0
      · rw [if_pos c]; rfl
      · rw [if_neg c, if_neg hn]; rfl
    rw [hm1]
    unfold f_M_nearest_201 f_M_nearest_216
    have sr := set_real vk vn ve (q := q) (by omega) (E := x + d) (by omega) (by omega) neg (Or.inl hn)
    cases neg
    · rw [if_neg (show ¬ (false = true) from by decide), if_pos rfl, iI_add, jJ_lN]
      rw [if_neg (show ¬ (false = true) from by decide)] at sr
      rw [sr]
      rfl
    · rw [if_pos (show true = true from rfl), if_neg (by decide), iI_add, jJ_lN, jJ_neg]
      rw [if_pos (show true = true from rfl)] at sr
      rw [sr]
      rfl
  unfold f_M_nearest_164
  rw [show (4503599627370496 : Int64) = lN 4503599627370496 from rfl, iI_add, show (971 : Int32) = iI 971 from by decide, ite_c (iI_le (by omega) (by omega) (by decide) (by decide))]
  have L : (lN q < lN 4503599627370496) = (q < 4503599627370496) := propext (pk_lLT (by omega) (by decide))
  rw [ite_c L]
  by_cases c : q < 4503599627370496
  · rw [if_pos c]
    have hb : bl q ≤ 52 := bl_le_iff.mpr (by omega)
    have := hsm c
    exact fin (by omega)
  · rw [if_neg c]
    have hb : bl q = 53 := bl_uniq (by omega) (by omega) (by decide)
    by_cases c2 : x + d ≤ 971
    · rw [if_pos c2]; exact fin (by omega)
    · rw [if_neg c2]
      have hr : red q (x + d) = (0, 0, 1) := by
        unfold red
        rw [if_neg (by omega), if_pos (by omega)]
      rw [hr]
      cases neg
      · show (if (0 : Int32) = 0 then f_M_nearest_195 vk vn ve 3 else f_M_nearest_195 vk vn ve 4) = _
        rw [if_pos rfl, show f_M_nearest_195 vk vn ve 3 = some (3, 3, 0, 0) from nearest_inf vk vn ve false]; rfl
      · show (if (1 : Int32) = 0 then f_M_nearest_195 vk vn ve 3 else f_M_nearest_195 vk vn ve 4) = _
        rw [if_neg (by decide), show f_M_nearest_195 vk vn ve 4 = some (4, 4, 0, 0) from nearest_inf vk vn ve true]; rfl
theorem nearest_147 (vk : Int32) (vn : Int64) (ve : Int32) (neg : Bool) {q : Nat} (hq : q ≤ 9007199254740992) {x d : Int} (hx : -20000 ≤ x) (hx2 : x ≤ 20000) (hd : 0 ≤ d) (hd2 : d ≤ 19000) (hsm : q < 4503599627370496 → x + d ≤ 971) :
    f_M_nearest_147 vk vn ve (if neg then 1 else 0) (iI x) (iI d) (lN q) = some ((mres neg (red q (x + d))).1, mres neg (red q (x + d))) := by
  unfold f_M_nearest_147
  have L : (lN q = (9007199254740992 : Int64)) = (q = 9007199254740992) := propext (pk_lEQ (a := q) (b := 9007199254740992) (by omega) (by decide))
  rw [ite_c L]
  by_cases c : q = 9007199254740992
  · rw [if_pos c]
    unfold bd
    try dsimp only
    subst c
    have e := red_shift 4503599627370496 1 (x + d + 1)
    rw [show 4503599627370496 * 2 ^ 1 = 9007199254740992 from rfl, show x + d + 1 - ((1 : Nat) : Int) = x + d from by omega] at e
    rw [show (1 : Int32) = iI 1 from by decide, iI_add, show (4503599627370496 : Int64) = lN 4503599627370496 from rfl, show iI 1 = (1 : Int32) from by decide, nearest_164 vk vn ve neg (q := 4503599627370496) (by decide) (x := x) (d := d + 1) hx hx2 (by omega) (by omega) (fun h => absurd h (by decide)), e, show x + (d + 1) = x + d + 1 from by omega]
  · rw [if_neg c]
    exact nearest_164 vk vn ve neg (by omega) hx hx2 hd (by omega) hsm
theorem nearest_43 (vk : Int32) (vn : Int64) (ve : Int32) (neg : Bool) {m : Nat} (h1 : 2305843009213693952 ≤ m) (h2 : m < 4611686018427387904) {x : Int} (hx : -15000 ≤ x) (hx2 : x ≤ 15000) :
    f_M_nearest_43 vk vn ve (if neg then 1 else 0) (lN m) (iI x) = some ((mres neg (rnd m false x)).1, mres neg (rnd m false x)) := by
  have hb : bl m = 62 := bl_uniq (by omega) (by omega) (by decide)
  have hrd : rd m x = max 9 (-1074 - x) := by
    unfold rd
    rw [hb]
    rfl
  have hd9 : 9 ≤ rd m x := by rw [hrd]; exact Int.le_max_left _ _
  have hdx : -1074 - x ≤ rd m x := by rw [hrd]; exact Int.le_max_right _ _
  have hdu : rd m x ≤ 16000 := by rw [hrd]; exact Int.max_le.mpr ⟨by omega, by omega⟩
  have hdd : (rd m x = 9 ∧ -1074 ≤ x + 9) ∨ (rd m x = -1074 - x ∧ x + 9 < -1074) := by
    rw [hrd]; omega
  -- the drop of the program is rd
  have key : f_M_nearest_43 vk vn ve (if neg then 1 else 0) (lN m) (iI x) = f_M_nearest_65 vk vn ve (if neg then 1 else 0) (lN m) (iI x) (iI (rd m x)) := by
    unfold f_M_nearest_43
    rw [show (9 : Int32) = iI 9 from by decide, iI_add, show (-1074 : Int32) = iI (-1074) from by decide, ite_c (iI_lt (by omega) (by omega) (by decide) (by decide)), iI_sub]
    rcases hdd with ⟨a, b⟩ | ⟨a, b⟩
    · rw [if_neg (by omega), a]
    · rw [if_pos (by omega), a]
  rw [key]
  unfold rnd
  rw [if_neg (show ¬ rd m x ≤ 0 from by omega)]
  obtain ⟨k, hk⟩ : ∃ k : Nat, rd m x = (k : Int) := ⟨(rd m x).toNat, by omega⟩
  rw [hk] at hd9 hdx hdu hdd ⊢
  rw [Int.toNat_natCast]
  unfold f_M_nearest_65
  rw [show (62 : Int32) = iI 62 from by decide, ite_c (iI_le (by omega) (by omega) (by decide) (by decide))]
  have hp := Nat.two_pow_pos k
  by_cases c : (k : Int) ≤ 62
  · rw [if_pos c]
    have hk62 : k ≤ 62 := by omega
    have e1 : lsr (lN m) (iI (k : Int)) = lN (m / 2 ^ k) := by
      rw [jJ_lN, jJ_lsr (by omega) (by omega) (by omega), jJ_lN]
      congr 1
    have hqle : m / 2 ^ k < 9007199254740992 := by
      have h9 : 2 ^ 9 ≤ 2 ^ k := Nat.pow_le_pow_right (by decide) (by omega)
      have : m / 2 ^ k ≤ m / 2 ^ 9 := Nat.div_le_div_left h9 (by decide)
      omega
    have hmm : m % 2 ^ k + 2 ^ k * (m / 2 ^ k) = m := Nat.mod_add_div m (2 ^ k)
    have hmod : m % 2 ^ k < 2 ^ k := Nat.mod_lt _ hp
    have hp62 : 2 ^ k ≤ 2 ^ 62 := Nat.pow_le_pow_right (by decide) hk62
    have hhalf : 2 ^ k = 2 * 2 ^ (k - 1) := by
      rw [← Nat.pow_succ', show (k - 1).succ = k from by omega]
    rw [e1]
    unfold f_M_nearest_83
    rw [show (62 : Int32) = iI 62 from by decide, ite_c (iI_lt (by decide) (by decide) (by omega) (by omega)), if_neg (by omega)]
    have e2 : lN m - lsl (lN (m / 2 ^ k)) (iI (k : Int)) = lN (m % 2 ^ k) := by
      rw [jJ_lN (m / 2 ^ k), jJ_lsl _ (by omega), jJ_lN, jJ_sub, jJ_lN]
      congr 1
      have : ((m / 2 ^ k : Nat) : Int) * ((2 ^ k : Nat) : Int) = ((2 ^ k * (m / 2 ^ k) : Nat) : Int) := by rw [Nat.mul_comm]; exact (Int.natCast_mul _ _).symm
      rw [this]
      omega
    have e3 : lsl (1 : Int64) (iI (k : Int) - (1 : Int32)) = lN (2 ^ (k - 1)) := by
      rw [show (1 : Int32) = iI 1 from by decide, iI_sub, show (k : Int) - 1 = ((k - 1 : Nat) : Int) from by omega, show (1 : Int64) = jJ 1 from by decide, jJ_lsl 1 (by omega), jJ_lN, Int.one_mul]
    rw [e2, bd_s, e3, bd_s]
    have L1 : (lN (2 ^ (k - 1)) < lN (m % 2 ^ k)) = (2 ^ k < 2 * (m % 2 ^ k)) := by
      rw [propext (pk_lLT (by omega) (by omega))]
      apply propext
      omega
    have L2 : (lN (m % 2 ^ k) = lN (2 ^ (k - 1))) = (2 * (m % 2 ^ k) = 2 ^ k) := by
      rw [propext (pk_lEQ (by omega) (by omega))]
      apply propext
      omega
    have L3 : (lrm (lN (m / 2 ^ k)) (2 : Int64) = (1 : Int64)) = (m / 2 ^ k % 2 = 1) := by
      clear hmm
      generalize m / 2 ^ k = Q at hqle ⊢
      rw [jJ_lN, show (2 : Int64) = jJ 2 from by decide, jJ_rem (by omega) (by omega) (by decide) (by decide), show (1 : Int64) = jJ 1 from by decide, Int.tmod_eq_emod_of_nonneg (by omega), jJ_eq (by omega) (by omega) (by decide) (by decide)]
      apply propext
      omega
    have up : f_M_nearest_139 vk vn ve (if neg then 1 else 0) (iI x) (iI (k : Int)) (lN (m / 2 ^ k)) = some ((mres neg (red (m / 2 ^ k + 1) (x + k))).1, mres neg (red (m / 2 ^ k + 1) (x + k))) := by
      unfold f_M_nearest_139 f_M_nearest_144 bd
      try dsimp only
      rw [show (1 : Int64) = lN 1 from rfl, lN_add]
      exact nearest_147 vk vn ve neg (by omega) (by omega) (by omega) (by omega) (by omega) (by
        intro h
        rcases hdd with ⟨a, b⟩ | ⟨a, b⟩
        · exfalso
          have hk9 : k = 9 := by omega
          subst hk9
          omega
        · omega)
    have dn : f_M_nearest_143 vk vn ve (if neg then 1 else 0) (iI x) (iI (k : Int)) (lN (m / 2 ^ k)) = some ((mres neg (red (m / 2 ^ k) (x + k))).1, mres neg (red (m / 2 ^ k) (x + k))) := by
      unfold f_M_nearest_143 f_M_nearest_144 bd
      try dsimp only
      rw [show (0 : Int64) = lN 0 from rfl, lN_add, Nat.add_zero]
      exact nearest_147 vk vn ve neg (by omega) (by omega) (by omega) (by omega) (by omega) (by
        intro h
        rcases hdd with ⟨a, b⟩ | ⟨a, b⟩
        · exfalso
          have hk9 : k = 9 := by omega
          subst hk9
          omega
        · omega)
    rw [ite_c L1, ite_c L2, ite_c L3, up, dn]
    unfold rq
    by_cases g1 : 2 ^ k < 2 * (m % 2 ^ k)
    · rw [if_pos g1, if_pos (Or.inl g1)]
    · rw [if_neg g1]
      by_cases g2 : 2 * (m % 2 ^ k) = 2 ^ k
      · rw [if_pos g2]
        by_cases g3 : m / 2 ^ k % 2 = 1
        · rw [if_pos g3, if_pos (Or.inr ⟨g2, Or.inr g3⟩)]
        · rw [if_neg g3, if_neg (by
            intro q
            rcases q with q | ⟨-, q | q⟩
            · exact g1 q
            · cases q
            · exact g3 q)]
      · rw [if_neg g2, if_neg (by
          intro q
          rcases q with q | ⟨q, -⟩
          · exact g1 q
          · exact g2 q)]
  · rw [if_neg c]
    unfold f_M_nearest_83
    rw [show (62 : Int32) = iI 62 from by decide, ite_c (iI_lt (by decide) (by decide) (by omega) (by omega)), if_pos (by omega)]
    have hp63 : 2 ^ 63 ≤ 2 ^ k := Nat.pow_le_pow_right (by decide) (by omega)
    have z3 : rq m k false = 0 := by
      unfold rq
      rw [Nat.div_eq_of_lt (by omega), Nat.mod_eq_of_lt (by omega), if_neg (by
        intro q
        rcases q with q | ⟨q, -⟩ <;> omega)]
    rw [z3, show (0 : Int64) = lN 0 from rfl]
    exact nearest_147 vk vn ve neg (by decide) (by omega) (by omega) (by omega) (by omega) (by
      intro h
      rcases hdd with ⟨a, b⟩ | ⟨a, b⟩ <;> omega)
/-- the reference's nearest, of s * 2^e -/
theorem nearest_eq (vk : Int32) (vn : Int64) (ve : Int32) (neg : Bool) {s : Nat} (h0 : s ≠ 0) (hs : s < 4611686018427387904) {e : Int} (he : -14000 ≤ e) (he2 : e ≤ 14000) :
    f_M_nearest vk vn ve (lN s) (iI e) (if neg then 1 else 0) = some ((mres neg (rnd s false e)).1, mres neg (rnd s false e)) := by
  have hb : bl s ≤ 62 := bl_le_iff.mpr hs
  have hb1 := bl_pos h0
  obtain ⟨k, hk⟩ : ∃ k, bl s + k = 62 := ⟨62 - bl s, by omega⟩
  have hbm := bl_mul s k h0
  have hne : s * 2 ^ k ≠ 0 := Nat.mul_ne_zero h0 (by have := Nat.two_pow_pos k; omega)
  have l1 := bl_lt (s * 2 ^ k)
  have l2 := bl_le hne
  rw [hbm, hk] at l1 l2
  unfold f_M_nearest
  have n0 : ¬ lN s = (0 : Int64) := by
    rw [show (0 : Int64) = lN 0 from rfl, pk_lEQ (by omega) (by decide)]
    exact h0
  rw [if_neg n0, near_loop vk vn ve _ k fu s e h0 hk (by unfold fu; omega), nearest_43 vk vn ve neg (by omega) (by omega) (by omega) (by omega), rnd_shift h0]

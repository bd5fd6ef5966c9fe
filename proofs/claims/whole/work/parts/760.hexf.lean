/-! form a: class -/
def hxd (gr : Bool) (d : Nat) : Nat := if d < 10 then 48 + d else if gr then 55 + d else 87 + d
theorem hxd_lt {gr : Bool} {d : Nat} (h : d < 16) : hxd gr d < 128 := by
  unfold hxd
  split
  · omega
  · split <;> omega
theorem char_small : ∀ d, d < 16 → f_String_charAt 1 (nI d) = some (nI (hxd false d)) := by decide +kernel
theorem char_great : ∀ d, d < 16 → f_String_charAt 0 (nI d) = some (nI (hxd true d)) := by decide +kernel
theorem and15 (x : Nat) : (lN x &&& (15 : Int64)) = lN (x % 16) := by
  have := jJ_mask (x : Int) 4 (by decide)
  rw [show ((2 ^ 4 - 1 : Nat) : Int) = 15 from by decide, show jJ 15 = (15 : Int64) from by decide, ← jJ_lN] at this
  rw [this, jJ_lN]
  congr 1
theorem digit16 {lc : Nat} (hlc : lc < 65536) (x : Nat) : f_Writer_digitOf16 (nI lc) (lN x) = some (nI (hxd (decide (lc < 97)) (x % 16))) := by
  unfold f_Writer_digitOf16
  have h16 : x % 16 < 16 := Nat.mod_lt _ (by decide)
  rw [and15, lN_i, bd_s, great_eq hlc, bi1_s, ite_c (bz_f _)]
  by_cases g : lc < 97
  · rw [if_neg (by simp [g]), ck_s (by decide), char_great _ h16, bi1_s, decide_eq_true g]
  · rw [if_pos (by simp [g]), ck_s (by decide), char_small _ h16, bi1_s, decide_eq_false g]
theorem sixteen_eq {gr : Bool} : ∀ d, d < 16 → f_M_sixteenDigit (nI d) (bz gr) = some (nI (hxd gr d)) := by
  cases gr <;> decide +kernel
theorem lus_N {x k : Nat} (hx : x < 18446744073709551616) (hk : k < 64) : lus (lN x) (nI k) = lN (x / 2 ^ k) := by
  rw [jJ_lN, iI_nI, jJ_lus hx hk, jJ_lN]
theorem lsr_N {x k : Nat} (hx : x < 9223372036854775808) (hk : k < 64) : lsr (lN x) (nI k) = lN (x / 2 ^ k) := by
  rw [jJ_lN, iI_nI, jJ_lsr (by omega) (by omega) hk, jJ_lN]
  congr 1
theorem lsl_N {x k : Nat} (hk : k < 64) : lsl (lN x) (nI k) = lN (x * 2 ^ k) := by
  rw [jJ_lN, iI_nI, jJ_lsl _ hk, jJ_lN]
  rfl
/-- digit i behind the point -/
def hdg (gr : Bool) (M i : Nat) : Nat := if i ≤ 13 then hxd gr (M / 2 ^ (4 * (13 - i)) % 16) else 48
theorem hdg_lt (gr : Bool) (M i : Nat) : hdg gr M i < 128 := by
  unfold hdg
  split
  · exact hxd_lt (Nat.mod_lt _ (by decide))
  · decide
def hxl (gr : Bool) (M : Nat) : Nat → List Nat
  | 0 => []
  | k + 1 => hxl gr M k ++ [hdg gr M (k + 1)]
theorem hxl_len (gr : Bool) (M : Nat) : ∀ k, (hxl gr M k).length = k := by
  intro k
  induction k with
  | zero => rfl
  | succ k ih =>
    show (hxl gr M k ++ [hdg gr M (k + 1)]).length = k + 1
    rw [List.length_append, ih]
    rfl
theorem hxl_By (gr : Bool) (M : Nat) : ∀ k, By (hxl gr M k) := by
  intro k
  induction k with
  | zero => exact By_nil
  | succ k ih => exact By_app ih (By_one (hdg_lt _ _ _))
/-- 0s at the end go -/
def need16 (M : Nat) : Nat → Nat
  | 0 => 0
  | k + 1 => if M / 2 ^ (4 * (13 - (k + 1))) % 16 = 0 then need16 M k else k + 1
theorem need16_le (M : Nat) : ∀ k, need16 M k ≤ k := by
  intro k
  induction k with
  | zero => exact Nat.le_refl _
  | succ k ih =>
    unfold need16
    split <;> omega
theorem sh13 {k : Nat} (hk : k ≤ 13) : (4 : Int32) * ((13 : Int32) - nI k) = nI (4 * (13 - k)) := by
  rw [show (13 : Int32) = nI 13 from rfl, pk_sub hk, show (4 : Int32) = nI 4 from rfl, pk_mul]
theorem cneed16 {M : Nat} (hM : M < 9223372036854775808) : ∀ (k f : Nat), k ≤ 13 → k < f → f_Writer_neededOf16_3 f (lN M) (nI k) = some (nI (need16 M k)) := by
  intro k
  induction k with
  | zero =>
    intro f hk hf
    obtain ⟨f, rfl⟩ : ∃ j, f = j + 1 := ⟨f - 1, by omega⟩
    show f_Writer_neededOf16_3b _ _ _ = _
    unfold f_Writer_neededOf16_3b
    rw [if_pos (by decide)]
    rfl
  | succ k ih =>
    intro f hk hf
    obtain ⟨f, rfl⟩ : ∃ j, f = j + 1 := ⟨f - 1, by omega⟩
    have h16 : M / 2 ^ (4 * (13 - (k + 1))) % 16 < 16 := Nat.mod_lt _ (by decide)
    show f_Writer_neededOf16_3b _ _ _ = _
    unfold f_Writer_neededOf16_3b need16
    rw [if_neg (nI_nle (by omega) (by omega)), sh13 hk, lus_N (by omega) (by omega), and15, ite_c (show (lN (M / 2 ^ (4 * (13 - (k + 1))) % 16) = (0 : Int64)) = (M / 2 ^ (4 * (13 - (k + 1))) % 16 = 0) from propext (pk_lEQ (b := 0) (by omega) (by decide)))]
    by_cases c : M / 2 ^ (4 * (13 - (k + 1))) % 16 = 0
    · rw [if_pos c, if_pos c, bd_s, show nI (k + 1) + (-1 : Int32) = nI k from by rw [sub_one _ (by omega), iI_nI]; congr 1; omega]
      exact ih f (by omega) (by omega)
    · rw [if_neg c, if_neg c]
/-- half to even above 2^s -/
def hr (M s : Nat) : Nat := (M / 2 ^ s + if 2 ^ s < 2 * (M % 2 ^ s) ∨ (2 ^ s = 2 * (M % 2 ^ s) ∧ M / 2 ^ s % 2 = 1) then 1 else 0) * 2 ^ s
theorem hr_0 (M : Nat) : hr M 0 = M := by
  unfold hr
  rw [Nat.pow_zero, Nat.mod_one, if_neg (by omega), Nat.div_one, Nat.mul_one, Nat.add_zero]
theorem crounded {M b : Nat} (hM : M < 9007199254740992) (hb : b ≤ 1000) : f_Writer_roundedOf16 (lN M) (nI b) = some (lN (hr M (4 * (13 - b)))) := by
  unfold f_Writer_roundedOf16 f_Writer_roundedOf16_60 f_Writer_roundedOf16_64 f_Writer_roundedOf16_65
  rw [ite_c (show (nI b < (13 : Int32)) = (b < 13) from propext (nI_ltI (b := 13) (by omega) (by decide)))]
  by_cases c : b < 13
  · have hs : 4 * (13 - b) ≤ 52 := by omega
    have hs1 : 1 ≤ 4 * (13 - b) := by omega
    rw [if_pos c, bd_s, sh13 (by omega), bd_s, lus_N (by omega) (by omega), bd_s, lsl_N (by omega)]
    generalize 4 * (13 - b) = s at hs hs1
    have hp := Nat.two_pow_pos s
    have hps : 2 ^ s ≤ 2 ^ 52 := Nat.pow_le_pow_right (by decide) hs
    have hhalf : 2 ^ s = 2 * 2 ^ (s - 1) := by
      rw [show s = (s - 1) + 1 from by omega, Nat.pow_succ]
      rw [show s - 1 + 1 - 1 = s - 1 from by omega]
      omega
    have hdm := Nat.div_add_mod M (2 ^ s)
    have hr1 : M % 2 ^ s < 2 ^ s := Nat.mod_lt _ hp
    have hle : M / 2 ^ s * 2 ^ s ≤ M := Nat.div_mul_le_self _ _
    have hq : M / 2 ^ s ≤ M := Nat.div_le_self _ _
    have hsub : M - M / 2 ^ s * 2 ^ s = M % 2 ^ s := by
      rw [Nat.mul_comm]
      omega
    rw [bd_s, lN_sub hle, hsub, show nI s - (1 : Int32) = nI (s - 1) from pk_sub (b := 1) (by omega), show (1 : Int64) = lN 1 from rfl, lsl_N (by omega), Nat.one_mul, ite_c (propext (pk_lLT (by omega) (by omega))), ite_c (propext (pk_lEQ (by omega) (by omega))), lN_add, lsl_N (by omega)]
    have hand : ((lN (M / 2 ^ s) &&& lN 1) = lN 1) = (M / 2 ^ s % 2 = 1) := by
      have := jJ_mask ((M / 2 ^ s : Nat) : Int) 1 (by decide)
      rw [show ((2 ^ 1 - 1 : Nat) : Int) = ((1 : Nat) : Int) from by decide, ← jJ_lN, ← jJ_lN] at this
      rw [this, show ((M / 2 ^ s : Nat) : Int) % ((2 ^ 1 : Nat) : Int) = ((M / 2 ^ s % 2 : Nat) : Int) from by rw [Int.natCast_emod], ← jJ_lN]
      exact propext (pk_lEQ (by omega) (by decide))
    rw [ite_c hand]
    unfold hr
    generalize M / 2 ^ s = Q at *
    generalize M % 2 ^ s = r at *
    by_cases d1 : 2 ^ (s - 1) < r
    · rw [if_pos d1, if_neg (by decide), if_pos (Or.inl (by omega))]
    · rw [if_neg d1]
      by_cases d2 : r = 2 ^ (s - 1)
      · rw [if_pos d2]
        by_cases d3 : Q % 2 = 1
        · rw [if_pos d3, if_neg (by decide), if_pos (Or.inr ⟨by omega, d3⟩)]
        · rw [if_neg d3, if_pos rfl, if_neg (by omega), Nat.add_zero]
      · rw [if_neg d2, if_pos rfl, if_neg (by omega), Nat.add_zero]
  · rw [if_neg c, show 4 * (13 - b) = 0 from by omega, hr_0]
theorem hr_le {M s : Nat} (hM : M < 9007199254740992) (hs : s ≤ 52) : hr M s ≤ 9007199254740992 := by
  have e : (9007199254740992 : Nat) = 2 ^ s * 2 ^ (53 - s) := by
    rw [← Nat.pow_add, show s + (53 - s) = 53 from by omega]
  have h1 : M / 2 ^ s < 2 ^ (53 - s) := by
    rw [Nat.div_lt_iff_lt_mul (Nat.two_pow_pos s), Nat.mul_comm, ← e]
    exact hM
  unfold hr
  rw [e, Nat.mul_comm]
  apply Nat.mul_le_mul_left
  split <;> omega
def cH (M : Nat) (b : Nat) (al gr : Bool) (p : Int) (n : Nat) : List Nat := [48 + M / 2 ^ 52] ++ ppt b al ++ hxl gr M b ++ [if gr then 80 else 112] ++ pw p n
theorem chex97 {lc : Nat} (hlc : lc < 65536) (flI prI y5 : Int32) {M b : Nat} (hM : M < 9223372036854775808) (hb : b ≤ 200) (vc : Int32) (dgs : Nat → Int32) : ∀ (m k f : Nat) (sz : Int32) (a : Nat → Int32) (l : List Nat), k + m = b → m < f → Pt sz a (l ++ hxl (decide (lc < 97)) M k) → l.length + b ≤ 420 →
    ∃ sz' a', f_Writer_putWith16_97 f vc (nI lc) flI prI dgs sz a y5 (lN M) (nI b) (nI (k + 1)) = f_Writer_putWith16_143 vc (nI lc) flI prI dgs sz' a' y5 ∧ Pt sz' a' (l ++ hxl (decide (lc < 97)) M b) := by
  intro m
  induction m with
  | zero =>
    intro k f sz a l h hf hP hl
    obtain ⟨f, rfl⟩ : ∃ j, f = j + 1 := ⟨f - 1, by omega⟩
    have : k = b := by omega
    subst this
    refine ⟨sz, a, ?_, hP⟩
    show f_Writer_putWith16_97b _ _ _ _ _ _ _ _ _ _ _ _ = _
    unfold f_Writer_putWith16_97b
    rw [if_pos (nI_lt (by omega) (by omega))]
  | succ m ih =>
    intro k f sz a l h hf hP hl
    obtain ⟨f, rfl⟩ : ∃ j, f = j + 1 := ⟨f - 1, by omega⟩
    obtain ⟨s1, a1, e1, h1⟩ := cput (b := hdg (decide (lc < 97)) M (k + 1)) hP (by rw [List.length_append, hxl_len]; omega) (hdg_lt _ _ _)
    rw [List.append_assoc, show hxl (decide (lc < 97)) M k ++ [hdg (decide (lc < 97)) M (k + 1)] = hxl (decide (lc < 97)) M (k + 1) from rfl] at h1
    obtain ⟨s2, a2, e2, h2⟩ := ih (k + 1) f s1 a1 l (by omega) (by omega) h1 hl
    refine ⟨s2, a2, ?_, h2⟩
    show f_Writer_putWith16_97b _ _ _ _ _ _ _ _ _ _ _ _ = _
    unfold f_Writer_putWith16_97b f_Writer_putWith16_134
    rw [if_neg (nI_nlt (by omega) (by omega)), ite_c (show (nI (k + 1) ≤ (13 : Int32)) = (k + 1 ≤ 13) from propext (nI_leI (b := 13) (by omega) (by decide)))]
    unfold hdg at e1
    by_cases c : k + 1 ≤ 13
    · rw [if_pos c] at e1
      rw [if_pos c, sh13 c, lus_N (by omega) (by omega), digit16 hlc, bi1_s, e1, bi2_s, bd_s, nI_1]
      exact e2
    · rw [if_neg c] at e1
      rw [if_neg c, show (48 : Int32) = nI 48 from rfl, e1, bi2_s, bd_s, nI_1]
      exact e2
theorem chex61 {lc : Nat} (hlc : lc < 65536) {fl : Nat} (hfl : fl < 32) (prI : Int32) {p : Int} (hp1 : -9000 ≤ p) (hp2 : p ≤ 9000) {M b : Nat} (hM : M < 9007199254740992) (hb : b ≤ 102) {c : Nat} (hc : Dc p.natAbs c) (vc : Int32) (dgs : Nat → Int32) {sz : Int32} {a : Nat → Int32} {l : List Nat} (hP : Pt sz a l) (hl : l.length ≤ 5) :
    ∃ c' dgs' sz' a', f_Writer_putWith16_61 vc (nI lc) (nI fl) prI dgs sz a (iI p) (lN M) (nI b) = some (c', dgs', sz', a') ∧ Pt sz' a' (l ++ cH (hr M (4 * (13 - b))) b (decide (fl / 8 % 2 = 1)) (decide (lc < 97)) p (max 1 c)) := by
  have hr1 := hr_le hM (show 4 * (13 - b) ≤ 52 by omega)
  generalize hH : hr M (4 * (13 - b)) = H at hr1
  have hq : H / 2 ^ 52 ≤ 2 := by omega
  obtain ⟨s1, a1, e1, q1⟩ := cput (b := 48 + H / 2 ^ 52) hP (by omega) (by omega)
  obtain ⟨s2, a2, e2, q2⟩ := cpoint hfl q1 (by rw [List.length_append, List.length_singleton]; omega) (b := b) (by omega)
  have hpl := ppt_len b (decide (fl / 8 % 2 = 1))
  obtain ⟨s3, a3, e3, q3⟩ := chex97 hlc (nI fl) prI (iI p) (M := H) (b := b) (by omega) (by omega) vc dgs b 0 fu s2 a2 _ (by omega) (by unfold fu; omega) (by
    show Pt s2 a2 (_ ++ [])
    rw [List.append_nil]; exact q2) (by simp only [List.length_append, List.length_singleton]; omega)
  have go : ∀ lt, lt = (if decide (lc < 97) then 80 else 112) → ∃ c' dgs' sz' a', f_Writer_putWith16_161 vc (nI lc) (nI fl) prI dgs s3 a3 (iI p) (nI lt) = some (c', dgs', sz', a') ∧ Pt sz' a' (l ++ cH H b (decide (fl / 8 % 2 = 1)) (decide (lc < 97)) p (max 1 c)) := by
    intro lt hlt
    have h128 : lt < 128 := by rw [hlt]; split <;> decide
    obtain ⟨s4, a4, e4, q4⟩ := cput (b := lt) q3 (by simp only [List.length_append, hxl_len, List.length_singleton]; omega) h128
    obtain ⟨c5, d5, s5, a5, e5, q5⟩ := cpower hp1 hp2 hc (ls := 1) (by decide) vc dgs q4 (by simp only [List.length_append, hxl_len, List.length_singleton]; omega)
    refine ⟨c5, d5, s5, a5, ?_, ?_⟩
    · unfold f_Writer_putWith16_161
      rw [e4, bi2_s, show (1 : Int32) = nI 1 from rfl, e5, bi4_s]
    · unfold cH
      rw [← hlt]
      simp only [List.append_assoc] at q5 ⊢
      exact q5
  unfold f_Writer_putWith16_61
  rw [crounded hM (by omega), bi1_s, hH, show (52 : Int32) = nI 52 from rfl, lus_N (by omega) (by decide), lN_i, add48, e1, bi2_s, e2, bi2_s, show (1 : Int32) = nI (0 + 1) from rfl, e3]
  unfold f_Writer_putWith16_143
  rw [great_eq hlc, bi1_s, ite_c (bz_f _)]
  by_cases g : lc < 97
  · rw [if_neg (by simp [g])]
    exact go 80 (by simp [g])
  · rw [if_pos (by simp [g])]
    exact go 112 (by simp [g])
/-- the number as it is shown: M * 2^(p - 52) -/
def hk (m : Nat) (E : Int) : Nat := min (53 - bl m) (E + 1074).toNat
def hP (m : Nat) (E : Int) : Int := if m = 0 then 0 else E + 52 - hk m E
theorem hM_lt {m : Nat} (E : Int) (hm : m < 9007199254740992) : m * 2 ^ hk m E < 9007199254740992 := by
  have hb : bl m ≤ 53 := bl_le_iff.mpr hm
  have h1 := bl_lt m
  have h2 : 2 ^ hk m E ≤ 2 ^ (53 - bl m) := Nat.pow_le_pow_right (by decide) (by unfold hk; omega)
  have h3 : m * 2 ^ hk m E ≤ m * 2 ^ (53 - bl m) := Nat.mul_le_mul_left _ h2
  have h4 : m * 2 ^ (53 - bl m) < 2 ^ bl m * 2 ^ (53 - bl m) := Nat.mul_lt_mul_of_pos_right h1 (Nat.two_pow_pos _)
  rw [← Nat.pow_add, show bl m + (53 - bl m) = 53 from by omega] at h4
  omega
theorem need16_dvd (M : Nat) : ∀ k j, k ≤ 13 → need16 M k ≤ j → j ≤ k → 2 ^ (4 * (13 - k)) ∣ M → 2 ^ (4 * (13 - j)) ∣ M := by
  intro k
  induction k with
  | zero =>
    intro j hk h1 h2 hd
    have : j = 0 := by omega
    subst this
    exact hd
  | succ k ih =>
    intro j hk h1 h2 hd
    by_cases q : j = k + 1
    · rw [q]; exact hd
    · unfold need16 at h1
      by_cases c : M / 2 ^ (4 * (13 - (k + 1))) % 16 = 0
      · rw [if_pos c] at h1
        refine ih j (by omega) h1 (by omega) ?_
        rw [show 4 * (13 - k) = 4 * (13 - (k + 1)) + 4 from by omega, Nat.pow_add]
        obtain ⟨x, rfl⟩ := hd
        rw [Nat.mul_div_cancel_left _ (Nat.two_pow_pos _)] at c
        exact Nat.mul_dvd_mul_left _ (Nat.dvd_of_mod_eq_zero c)
      · rw [if_neg c] at h1
        omega
theorem hr_dvd {M s : Nat} (h : 2 ^ s ∣ M) : hr M s = M := by
  have hp := Nat.two_pow_pos s
  unfold hr
  rw [Nat.mod_eq_zero_of_dvd h, if_neg (by omega), Nat.add_zero]
  exact Nat.div_mul_cancel h
theorem hr_need (M : Nat) : hr M (4 * (13 - need16 M 13)) = M := hr_dvd (need16_dvd M 13 _ (Nat.le_refl _) (Nat.le_refl _) (need16_le M 13) ⟨M, by rw [Nat.sub_self, Nat.mul_zero, Nat.pow_zero, Nat.one_mul]⟩)
def hB (M : Nat) (P : Int) : Nat := if P = -1 then need16 M 13 else P.toNat
theorem chex {lc : Nat} (hlc : lc < 65536) {fl : Nat} (hfl : fl < 32) {P : Int} (hP1 : -1 ≤ P) (hP2 : P ≤ 99) {m : Nat} {E : Int} (hRl : Rl m E) {c : Nat} (hc : Dc (hP m E).natAbs c) (vc : Int32) (dgs : Nat → Int32) {sz : Int32} {a : Nat → Int32} {l : List Nat} (hPt : Pt sz a l) (hl : l.length ≤ 5) :
    ∃ c' dgs' sz' a', f_Writer_putWith16 vc (nI lc) (nI fl) (iI P) dgs sz a (lN m) (iI E) = some (c', dgs', sz', a') ∧ Pt sz' a' (l ++ cH (hr (m * 2 ^ hk m E) (4 * (13 - hB (m * 2 ^ hk m E) P))) (hB (m * 2 ^ hk m E) P) (decide (fl / 8 % 2 = 1)) (decide (lc < 97)) (hP m E) (max 1 c)) := by
  obtain ⟨hm, hR⟩ := hRl
  have hb : bl m ≤ 53 := bl_le_iff.mpr hm
  have hE : -1074 ≤ E ∧ E ≤ 1024 := by
    rcases hR with ⟨w1, w2, w3⟩ | ⟨w1, w2⟩ <;> omega
  have hM := hM_lt E hm
  have hB2 : hB (m * 2 ^ hk m E) P ≤ 102 := by
    unfold hB
    have := need16_le (m * 2 ^ hk m E) 13
    split <;> omega
  have hpr : -9000 ≤ hP m E ∧ hP m E ≤ 9000 := by
    unfold hP hk
    split <;> omega
  have fin : f_Writer_putWith16 vc (nI lc) (nI fl) (iI P) dgs sz a (lN m) (iI E) = f_Writer_putWith16_61 vc (nI lc) (nI fl) (iI P) dgs sz a (iI (hP m E)) (lN (m * 2 ^ hk m E)) (nI (hB (m * 2 ^ hk m E) P)) := by
    have x28 : f_Writer_putWith16 vc (nI lc) (nI fl) (iI P) dgs sz a (lN m) (iI E) = f_Writer_putWith16_28 vc (nI lc) (nI fl) (iI P) dgs sz a (lN m) (iI E) (iI (hP m E)) := by
      unfold f_Writer_putWith16
      rw [bitsOf_eq (by omega), bi1_s, bd_s, ite_c (show (lN m = (0 : Int64)) = (m = 0) from propext (pk_lEQ (b := 0) (by omega) (by decide)))]
      unfold hP
      by_cases z : m = 0
      · rw [if_pos z, if_pos z]
        rfl
      · have hbp := bl_pos z
        rw [if_neg z, if_neg z, show iI (bl m) - (1 : Int32) + iI E = iI ((bl m : Int) - 1 + E) from by rw [show (1 : Int32) = iI 1 from by decide, iI_sub, iI_add], show (-1022 : Int32) = iI (-1022) from by decide, imx_iI (by omega) (by omega) (by decide) (by decide)]
        congr 2
        unfold hk
        omega
    rw [x28]
    unfold f_Writer_putWith16_28
    have hsh : lsl (lN m) ((iI E - iI (hP m E)) + (52 : Int32)) = lN (m * 2 ^ hk m E) := by
      by_cases z : m = 0
      · subst z
        rw [Nat.zero_mul]
        rcases hR with ⟨w1, w2, w3⟩ | ⟨w1, w2⟩
        · omega
        · rw [w2]
          rfl
      · rw [show (iI E - iI (hP m E)) + (52 : Int32) = nI (hk m E) from by
          rw [show (52 : Int32) = iI 52 from by decide, iI_sub, iI_add, iI_nI]
          congr 1
          unfold hP
          rw [if_neg z]
          omega, lsl_N (by unfold hk; omega)]
    rw [hsh, bd_s, ite_c (show (iI P = (-1 : Int32)) = (P = -1) from by rw [show (-1 : Int32) = iI (-1) from by decide, iI_eq (by omega) (by omega) (by decide) (by decide)])]
    unfold hB
    by_cases w : P = -1
    · rw [if_pos w, if_pos w]
      unfold f_Writer_neededOf16
      rw [show (13 : Int32) = nI 13 from rfl, cneed16 (by omega) 13 fu (Nat.le_refl _) (by decide), bi1_s]
    · rw [if_neg w, if_neg w]
      obtain ⟨k, rfl⟩ : ∃ k : Nat, P = k := ⟨P.toNat, by omega⟩
      rw [Int.toNat_natCast, ← iI_nI]
  rw [fin]
  exact chex61 hlc hfl (iI P) hpr.1 hpr.2 hM hB2 hc vc dgs hPt hl

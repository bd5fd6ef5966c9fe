/-! form a: reference -/
theorem mbin43 (vn : Int64) (ve bs : Int32) (body : Nat → Int32) (y1 y2 y3 : Int32) {m : Nat} (hm0 : m ≠ 0) (hm : m < 9007199254740992) {E : Int} (hE : -1074 ≤ E) (hE2 : E ≤ 1024) : ∀ (r j f : Nat), j + r = hk m E → r < f →
    f_M_binary_43 f vn ve bs body y1 y2 y3 (lN (m * 2 ^ j)) (iI (E + 52 - j)) = f_M_binary_79 fu vn ve bs body y1 y2 y3 (lN (m * 2 ^ hk m E)) (iI (E + 52 - hk m E)) := by
  have hb : bl m ≤ 53 := bl_le_iff.mpr hm
  have hb1 := bl_pos hm0
  have hkb : hk m E ≤ 53 := by unfold hk; omega
  have hle : ∀ j, j ≤ hk m E → m * 2 ^ j < 9007199254740992 := by
    intro j hj
    exact Nat.lt_of_le_of_lt (Nat.mul_le_mul_left _ (Nat.pow_le_pow_right (by decide) hj)) (hM_lt E hm)
  have hne : ∀ j, m * 2 ^ j ≠ 0 := fun j => Nat.mul_ne_zero hm0 (by have := Nat.two_pow_pos j; omega)
  intro r
  induction r with
  | zero =>
    intro j f h hf
    obtain ⟨f, rfl⟩ : ∃ j, f = j + 1 := ⟨f - 1, by omega⟩
    have : j = hk m E := by omega
    subst this
    have h1 := hle (hk m E) (Nat.le_refl _)
    have h0 := hne (hk m E)
    show f_M_binary_43b _ _ _ _ _ _ _ _ _ _ = _
    unfold f_M_binary_43b
    rw [ite_c (show (lN (m * 2 ^ hk m E) = (0 : Int64)) = (m * 2 ^ hk m E = 0) from propext (pk_lEQ (b := 0) (by omega) (by decide))), if_neg h0, ite_c (show ((4503599627370496 : Int64) ≤ lN (m * 2 ^ hk m E)) = (4503599627370496 ≤ m * 2 ^ hk m E) from propext (pk_lLE (a := 4503599627370496) (by decide) (by omega)))]
    by_cases c : 4503599627370496 ≤ m * 2 ^ hk m E
    · rw [if_pos c]
    · rw [if_neg c, if_pos ?_]
      rw [iI_lek (-1022) (by decide) (by omega) (by omega) (by decide) (by decide)]
      by_cases d : 53 - bl m ≤ (E + 1074).toNat
      · exfalso
        apply c
        have : hk m E = 53 - bl m := by unfold hk; omega
        rw [this]
        have h2 := bl_le hm0
        calc 4503599627370496 = 2 ^ (bl m - 1) * 2 ^ (53 - bl m) := by rw [← Nat.pow_add, show bl m - 1 + (53 - bl m) = 52 from by omega]
          _ ≤ m * 2 ^ (53 - bl m) := Nat.mul_le_mul_right _ h2
      · unfold hk
        omega
  | succ r ih =>
    intro j f h hf
    obtain ⟨f, rfl⟩ : ∃ j, f = j + 1 := ⟨f - 1, by omega⟩
    have h1 := hle j (by omega)
    have h0 := hne j
    have hlt : m * 2 ^ j < 4503599627370496 := by
      have hbl := bl_lt m
      calc m * 2 ^ j < 2 ^ bl m * 2 ^ j := Nat.mul_lt_mul_of_pos_right hbl (Nat.two_pow_pos j)
        _ = 2 ^ (bl m + j) := (Nat.pow_add _ _ _).symm
        _ ≤ 2 ^ 52 := Nat.pow_le_pow_right (by decide) (by unfold hk at h; omega)
        _ = 4503599627370496 := by decide
    show f_M_binary_43b _ _ _ _ _ _ _ _ _ _ = _
    unfold f_M_binary_43b
    rw [ite_c (show (lN (m * 2 ^ j) = (0 : Int64)) = (m * 2 ^ j = 0) from propext (pk_lEQ (b := 0) (by omega) (by decide))), if_neg h0, if_neg (show ¬ (4503599627370496 : Int64) ≤ lN (m * 2 ^ j) from fun q => by
      have := (pk_lLE (a := 4503599627370496) (by decide) (by omega)).mp q
      omega), if_neg (by
      rw [iI_lek (-1022) (by decide) (by omega) (by omega) (by decide) (by decide)]
      unfold hk at h
      omega), bd_s, bd_s, show iI (E + 52 - j) + (-1 : Int32) = iI (E + 52 - (j + 1 : Nat)) from by rw [show (-1 : Int32) = iI (-1) from by decide, iI_add]; congr 1; omega, show (1 : Int32) = nI 1 from rfl, lsl_N (by decide), Nat.mul_assoc, ← Nat.pow_add]
    exact ih (j + 1) f (by omega) (by omega)
theorem mbin_start (neg : Bool) {m : Nat} {E : Int} (hRl : Rl m E) (bs : Int32) (body : Nat → Int32) (y1 y2 y3 : Int32) :
    f_M_binary (jJ (if neg then -(m : Int) else m)) (iI E) bs body y1 y2 y3 = f_M_binary_106 (jJ (if neg then -(m : Int) else m)) (iI E) bs body y1 y2 y3 (lN (m * 2 ^ hk m E)) (iI (hP m E)) := by
  obtain ⟨hm, hR⟩ := hRl
  have hE : -1074 ≤ E ∧ E ≤ 1024 := by
    have hb1 : m ≠ 0 → 1 ≤ bl m := bl_pos
    rcases hR with ⟨w1, w2, w3⟩ | ⟨w1, w2⟩
    · have := hb1 (by omega)
      omega
    · omega
  have hM := hM_lt E hm
  have x21 : f_M_binary (jJ (if neg then -(m : Int) else m)) (iI E) bs body y1 y2 y3 = f_M_binary_21 (jJ (if neg then -(m : Int) else m)) (iI E) bs body y1 y2 y3 (lN m) := by
    unfold f_M_binary
    cases neg
    · rw [show (if false = true then -(m : Int) else (m : Int)) = m from rfl, ite_c (show ((0 : Int64) ≤ jJ (m : Int)) = ((0 : Int) ≤ m) from by rw [show (0 : Int64) = jJ 0 from by decide, jJ_le (by decide) (by decide) (by omega) (by omega)]), if_pos (by omega), jJ_lN]
    · rw [show (if true = true then -(m : Int) else (m : Int)) = -(m : Int) from rfl, ite_c (show ((0 : Int64) ≤ jJ (-(m : Int))) = ((0 : Int) ≤ -(m : Int)) from by rw [show (0 : Int64) = jJ 0 from by decide, jJ_le (by decide) (by decide) (by omega) (by omega)])]
      by_cases z : m = 0
      · rw [if_pos (by omega), jJ_lN]
        congr 2
        omega
      · rw [if_neg (by omega), jJ_neg, Int.neg_neg, jJ_lN]
  rw [x21]
  generalize jJ (if neg then -(m : Int) else m) = vn
  unfold f_M_binary_21 f_M_binary_41
  rw [ite_c (show (lN m = (0 : Int64)) = (m = 0) from propext (pk_lEQ (b := 0) (by omega) (by decide)))]
  by_cases z : m = 0
  · subst z
    rw [if_pos rfl, Nat.zero_mul]
    show f_M_binary_43b _ _ _ _ _ _ _ _ _ _ = _
    unfold f_M_binary_43b
    rw [if_pos (show lN 0 = 0 from rfl)]
    show f_M_binary_79b _ _ _ _ _ _ _ _ _ _ = _
    unfold f_M_binary_79b
    rw [if_pos (show lN 0 = 0 from rfl)]
    rfl
  · have e := mbin43 vn (iI E) bs body y1 y2 y3 z hm hE.1 hE.2 (hk m E) 0 fu (by omega) (by unfold hk fu; omega)
    rw [Nat.pow_zero, Nat.mul_one, show E + 52 - ((0 : Nat) : Int) = E + 52 from by omega] at e
    rw [if_neg z, show iI E + (52 : Int32) = iI (E + 52) from by rw [show (52 : Int32) = iI 52 from by decide, iI_add], e]
    show f_M_binary_79b _ _ _ _ _ _ _ _ _ _ = _
    unfold f_M_binary_79b hP
    rw [if_neg z]
    rw [ite_c (show (lN (m * 2 ^ hk m E) = (0 : Int64)) = (m * 2 ^ hk m E = 0) from propext (pk_lEQ (b := 0) (by omega) (by decide))), if_neg (Nat.mul_ne_zero z (by have := Nat.two_pow_pos (hk m E); omega)), if_pos]
    rw [iI_kle (-1022) (by decide) (by unfold hk; omega) (by unfold hk; omega) (by decide) (by decide)]
    unfold hk
    omega
theorem mbin214 (vn : Int64) (ve bs : Int32) (body : Nat → Int32) (y2 y3 y6 : Int32) {M : Nat} (hM : M < 9223372036854775808) : ∀ (k f : Nat), k ≤ 13 → k < f →
    f_M_binary_214 f vn ve bs body (-1) y2 y3 y6 (lN M) (nI k) = f_M_binary_248 vn ve bs body y2 y3 y6 (lN M) (nI (need16 M k)) := by
  intro k
  induction k with
  | zero =>
    intro f hk hf
    obtain ⟨f, rfl⟩ : ∃ j, f = j + 1 := ⟨f - 1, by omega⟩
    show f_M_binary_214b _ _ _ _ _ _ _ _ _ _ _ = _
    unfold f_M_binary_214b
    rw [if_neg (by decide), if_pos (by decide)]
    rfl
  | succ k ih =>
    intro f hk hf
    obtain ⟨f, rfl⟩ : ∃ j, f = j + 1 := ⟨f - 1, by omega⟩
    have h16 : M / 2 ^ (4 * (13 - (k + 1))) % 16 < 16 := Nat.mod_lt _ (by decide)
    show f_M_binary_214b _ _ _ _ _ _ _ _ _ _ _ = _
    unfold f_M_binary_214b need16
    rw [if_neg (by decide), if_neg (nI_nle (by omega) (by omega)), sh13 hk, lsr_N hM (by omega), and15, ite_c (show (lN (M / 2 ^ (4 * (13 - (k + 1))) % 16) = (0 : Int64)) = (M / 2 ^ (4 * (13 - (k + 1))) % 16 = 0) from propext (pk_lEQ (b := 0) (by omega) (by decide)))]
    by_cases c : M / 2 ^ (4 * (13 - (k + 1))) % 16 = 0
    · rw [if_pos c, if_pos c, bd_s, show nI (k + 1) + (-1 : Int32) = nI k from by rw [sub_one _ (by omega), iI_nI]; congr 1; omega]
      exact ih f (by omega) (by omega)
    · rw [if_neg c, if_neg c]
theorem mbin126 (vn : Int64) (ve bs : Int32) (body : Nat → Int32) (y1 y2 y3 y6 : Int32) {M s : Nat} (hM : M < 9007199254740992) (hs : s ≤ 52) :
    f_M_binary_126 vn ve bs body y1 y2 y3 (lN M) y6 (nI s) = (if 0 ≤ y1 then f_M_binary_212 vn ve bs body y1 y2 y3 y6 (lN (hr M s)) y1 else f_M_binary_212 vn ve bs body y1 y2 y3 y6 (lN (hr M s)) (13 : Int32)) := by
  have hp := Nat.two_pow_pos s
  have hps : 2 ^ s ≤ 2 ^ 52 := Nat.pow_le_pow_right (by decide) hs
  have hdm := Nat.div_add_mod M (2 ^ s)
  have hr1 : M % 2 ^ s < 2 ^ s := Nat.mod_lt _ hp
  have hle : M / 2 ^ s * 2 ^ s ≤ M := Nat.div_mul_le_self _ _
  have hq : M / 2 ^ s ≤ M := Nat.div_le_self _ _
  have hsub : M - M / 2 ^ s * 2 ^ s = M % 2 ^ s := by
    rw [Nat.mul_comm]
    omega
  have hodd : (lrm (lN (M / 2 ^ s)) (2 : Int64) = (1 : Int64)) = (M / 2 ^ s % 2 = 1) := by
    unfold lrm
    rw [show (2 : Int64) = lN 2 from rfl, pk_lRem (by omega) (by decide) (by decide)]
    exact propext (pk_lEQ (b := 1) (by omega) (by decide))
  have key : ∀ h : Nat, (s = 0 ∧ h = 1) ∨ (1 ≤ s ∧ h = 2 ^ (s - 1)) → f_M_binary_160 vn ve bs body y1 y2 y3 y6 (nI s) (lN (M / 2 ^ s)) (lN (M % 2 ^ s)) (lN h) = (if 0 ≤ y1 then f_M_binary_212 vn ve bs body y1 y2 y3 y6 (lN (hr M s)) y1 else f_M_binary_212 vn ve bs body y1 y2 y3 y6 (lN (hr M s)) (13 : Int32)) := by
    intro h hh
    have h63 : h ≤ 2 ^ 52 := by
      rcases hh with ⟨-, w⟩ | ⟨-, w⟩
      · rw [w]; decide
      · rw [w]; exact Nat.pow_le_pow_right (by decide) (by omega)
    have hhalf : (s = 0 ∧ M % 2 ^ s = 0 ∧ h = 1 ∧ 2 ^ s = 1) ∨ 2 ^ s = 2 * h := by
      rcases hh with ⟨w1, w2⟩ | ⟨w1, w2⟩
      · left
        subst w1
        exact ⟨rfl, by rw [Nat.pow_zero, Nat.mod_one], w2, Nat.pow_zero 2⟩
      · right
        rw [w2, show s = (s - 1) + 1 from by omega, Nat.pow_succ, show s - 1 + 1 - 1 = s - 1 from by omega]
        omega
    unfold f_M_binary_160 f_M_binary_189 f_M_binary_195
    rw [ite_c (propext (pk_lLT (a := h) (b := M % 2 ^ s) (by omega) (by omega))), ite_c (propext (pk_lEQ (a := M % 2 ^ s) (b := h) (by omega) (by omega))), ite_c hodd, bd_s, show (1 : Int64) = lN 1 from rfl, lN_add, lsl_N (by omega), lsl_N (by omega), bd_s, bd_s]
    unfold hr
    generalize M / 2 ^ s = Q at *
    generalize M % 2 ^ s = r at *
    have up : (2 ^ s < 2 * r ∨ (2 ^ s = 2 * r ∧ Q % 2 = 1)) → (Q + if 2 ^ s < 2 * r ∨ (2 ^ s = 2 * r ∧ Q % 2 = 1) then 1 else 0) = Q + 1 := fun w => by rw [if_pos w]
    have dn0 : ¬ (2 ^ s < 2 * r ∨ (2 ^ s = 2 * r ∧ Q % 2 = 1)) → (Q + if 2 ^ s < 2 * r ∨ (2 ^ s = 2 * r ∧ Q % 2 = 1) then 1 else 0) = Q := fun w => by rw [if_neg w]; rfl
    by_cases d1 : h < r
    · rw [if_pos d1, up (Or.inl (by omega))]
    · rw [if_neg d1]
      by_cases d2 : r = h
      · rw [if_pos d2]
        by_cases d3 : Q % 2 = 1
        · rw [if_pos d3, up (Or.inr ⟨by omega, d3⟩)]
        · rw [if_neg d3, dn0 (by omega)]
      · rw [if_neg d2, dn0 (by omega)]
  unfold f_M_binary_126
  rw [bd_s, lsr_N (by omega) (by omega), bd_s, lsl_N (by omega), lN_sub hle, hsub, ite_c (nI_eq0 (by omega))]
  by_cases c : s = 0
  · rw [if_pos c]
    exact key 1 (Or.inl ⟨c, rfl⟩)
  · rw [if_neg c, show nI s - (1 : Int32) = nI (s - 1) from pk_sub (b := 1) (by omega), show (1 : Int64) = lN 1 from rfl, lsl_N (by omega), Nat.one_mul]
    exact key _ (Or.inr ⟨by omega, rfl⟩)
theorem mbin292 (vn : Int64) (ve : Int32) {gr : Bool} (y6 : Int32) {M b : Nat} (hM : M < 9223372036854775808) (hb : b ≤ 200) : ∀ (m k f : Nat) (sz : Int32) (a : Nat → Int32) (l : List Nat), k + m = b → m < f → Pt sz a (l ++ hxl gr M k) → l.length + b < 700 →
    ∃ sz' a', f_M_binary_292 f vn ve sz a (bz gr) y6 (lN M) (nI b) (nI (k + 1)) = f_M_binary_340 vn ve sz' a' (bz gr) y6 ∧ Pt sz' a' (l ++ hxl gr M b) := by
  intro m
  induction m with
  | zero =>
    intro k f sz a l h hf hP hl
    obtain ⟨f, rfl⟩ : ∃ j, f = j + 1 := ⟨f - 1, by omega⟩
    have : k = b := by omega
    subst this
    refine ⟨sz, a, ?_, hP⟩
    show f_M_binary_292b _ _ _ _ _ _ _ _ _ _ = _
    unfold f_M_binary_292b
    rw [if_pos (nI_lt (by omega) (by omega))]
  | succ m ih =>
    intro k f sz a l h hf hP hl
    obtain ⟨f, rfl⟩ : ∃ j, f = j + 1 := ⟨f - 1, by omega⟩
    obtain ⟨s1, a1, e1, h1⟩ := mput (b := hdg gr M (k + 1)) hP (by rw [List.length_append, hxl_len]; omega) (hdg_lt _ _ _)
    rw [List.append_assoc, show hxl gr M k ++ [hdg gr M (k + 1)] = hxl gr M (k + 1) from rfl] at h1
    obtain ⟨s2, a2, e2, h2⟩ := ih (k + 1) f s1 a1 l (by omega) (by omega) h1 hl
    refine ⟨s2, a2, ?_, h2⟩
    show f_M_binary_292b _ _ _ _ _ _ _ _ _ _ = _
    unfold f_M_binary_292b f_M_binary_331
    rw [if_neg (nI_nlt (by omega) (by omega)), ite_c (show (nI (k + 1) ≤ (13 : Int32)) = (k + 1 ≤ 13) from propext (nI_leI (b := 13) (by omega) (by decide)))]
    unfold hdg at e1
    by_cases c : k + 1 ≤ 13
    · rw [if_pos c] at e1
      rw [if_pos c, sh13 c, lsr_N hM (by omega), and15, lN_i, sixteen_eq _ (Nat.mod_lt _ (by decide)), bi1_s, e1, bi2_s, bd_s, nI_1]
      exact e2
    · rw [if_neg c] at e1
      rw [if_neg c, show (48 : Int32) = nI 48 from rfl, e1, bi2_s, bd_s, nI_1]
      exact e2
theorem mbin248 (vn : Int64) (ve : Int32) {gr al : Bool} {p : Int} (hp1 : -9000 ≤ p) (hp2 : p ≤ 9000) {c : Nat} (hc : Dc p.natAbs c) {M b : Nat} (hM : M ≤ 9007199254740992) (hb : b ≤ 102) {sz : Int32} {a : Nat → Int32} {l : List Nat} (hP : Pt sz a l) (hl : l.length ≤ 100) :
    ∃ sz' a', f_M_binary_248 vn ve sz a (bz al) (bz gr) (iI p) (lN M) (nI b) = some (sz', a') ∧ Pt sz' a' (l ++ [48, if gr then 88 else 120] ++ cH M b al gr p (max 1 c)) := by
  obtain ⟨s1, a1, e1, q1⟩ := mput (b := 48) hP (by omega) (by decide)
  have go : ∀ x, x = (if gr then 88 else 120) → ∃ sz' a', f_M_binary_266 vn ve s1 a1 (bz al) (bz gr) (iI p) (lN M) (nI b) (nI x) = some (sz', a') ∧ Pt sz' a' (l ++ [48, if gr then 88 else 120] ++ cH M b al gr p (max 1 c)) := by
    intro x hx
    have hx128 : x < 128 := by rw [hx]; split <;> decide
    obtain ⟨s2, a2, e2, q2⟩ := mput (b := x) q1 (by rw [List.length_append, List.length_singleton]; omega) hx128
    have hq : M / 2 ^ 52 ≤ 2 := by omega
    obtain ⟨s3, a3, e3, q3⟩ := mput (b := 48 + M / 2 ^ 52) q2 (by simp only [List.length_append, List.length_singleton]; omega) (by omega)
    obtain ⟨s4, a4, e4, q4⟩ := mpoint q3 (by simp only [List.length_append, List.length_singleton]; omega) (b := b) (by omega) al
    have hpl := ppt_len b al
    obtain ⟨s5, a5, e5, q5⟩ := mbin292 vn ve (gr := gr) (iI p) (M := M) (b := b) (by omega) (by omega) b 0 fu s4 a4 _ (by omega) (by unfold fu; omega) (by
      show Pt s4 a4 (_ ++ [])
      rw [List.append_nil]; exact q4) (by simp only [List.length_append, List.length_singleton]; omega)
    have hlt : (if gr then 80 else 112) < 128 := by split <;> decide
    obtain ⟨s6, a6, e6, q6⟩ := mpower hp1 hp2 hc (ls := 1) (by decide) (by decide) (lt := if gr then 80 else 112) hlt q5 (by simp only [List.length_append, hxl_len, List.length_singleton]; omega)
    refine ⟨s6, a6, ?_, ?_⟩
    · unfold f_M_binary_266
      rw [e2, bi2_s, show (52 : Int32) = nI 52 from rfl, lsr_N (by omega) (by decide), lN_i, add48, e3, bi2_s, e4, bi2_s, show (1 : Int32) = nI (0 + 1) from rfl, e5]
      unfold f_M_binary_340 f_M_binary_352
      rw [ite_c (bz_f _)]
      cases gr
      · rw [if_pos rfl]
        rw [if_neg (by decide)] at e6
        rw [show (112 : Int32) = nI 112 from rfl, show (1 : Int32) = nI 1 from rfl, e6, bi2_s]
      · rw [if_neg (by decide)]
        rw [if_pos rfl] at e6
        rw [show (80 : Int32) = nI 80 from rfl, show (1 : Int32) = nI 1 from rfl, e6, bi2_s]
    · unfold cH
      rw [← hx]
      simp only [List.append_assoc, List.cons_append, List.nil_append] at q6 ⊢
      exact q6
  unfold f_M_binary_248
  rw [show (48 : Int32) = nI 48 from rfl, e1, bi2_s, ite_c (bz_f _)]
  cases gr
  · rw [if_pos rfl]
    exact go 120 rfl
  · rw [if_neg (by decide)]
    exact go 88 rfl
theorem mhex (neg : Bool) {m : Nat} {E : Int} (hRl : Rl m E) {P : Int} (hP1 : -1 ≤ P) (hP2 : P ≤ 99) {gr al : Bool} {c : Nat} (hc : Dc (hP m E).natAbs c) {sz : Int32} {a : Nat → Int32} {l : List Nat} (hPt : Pt sz a l) (hl : l.length ≤ 100) :
    ∃ sz' a', f_M_binary (jJ (if neg then -(m : Int) else m)) (iI E) sz a (iI P) (bz al) (bz gr) = some (sz', a') ∧ Pt sz' a' (l ++ [48, if gr then 88 else 120] ++ cH (hr (m * 2 ^ hk m E) (4 * (13 - hB (m * 2 ^ hk m E) P))) (hB (m * 2 ^ hk m E) P) al gr (hP m E) (max 1 c)) := by
  have hE : -1074 ≤ E ∧ E ≤ 1024 := by
    obtain ⟨hm, hR⟩ := hRl
    have hb1 : m ≠ 0 → 1 ≤ bl m := bl_pos
    rcases hR with ⟨w1, w2, w3⟩ | ⟨w1, w2⟩
    · have := hb1 (by omega)
      omega
    · omega
  have hb : bl m ≤ 53 := bl_le_iff.mpr hRl.1
  have hM := hM_lt E hRl.1
  have hpr : -9000 ≤ hP m E ∧ hP m E ≤ 9000 := by
    unfold hP hk
    split <;> omega
  rw [mbin_start neg hRl]
  generalize jJ (if neg then -(m : Int) else m) = vn
  have hB2 : hB (m * 2 ^ hk m E) P ≤ 102 := by
    unfold hB
    have := need16_le (m * 2 ^ hk m E) 13
    split <;> omega
  have hrM := hr_le hM (show 4 * (13 - hB (m * 2 ^ hk m E) P) ≤ 52 by omega)
  have hn := hr_need (m * 2 ^ hk m E)
  obtain ⟨sz', a', e1, q1⟩ := mbin248 vn (iI E) (gr := gr) (al := al) hpr.1 hpr.2 hc (M := hr (m * 2 ^ hk m E) (4 * (13 - hB (m * 2 ^ hk m E) P))) (b := hB (m * 2 ^ hk m E) P) hrM hB2 hPt hl
  refine ⟨sz', a', ?_, q1⟩
  rw [← e1]
  clear e1 q1
  unfold hB at *
  generalize m * 2 ^ hk m E = M at *
  unfold f_M_binary_106 f_M_binary_125
  by_cases w : P = -1
  · subst w
    rw [if_pos rfl] at *
    rw [hn, if_pos (by decide), show (0 : Int32) = nI 0 from rfl, mbin126 _ _ _ _ _ _ _ _ hM (by decide), hr_0, show iI (-1) = (-1 : Int32) from by decide, if_neg (by decide)]
    unfold f_M_binary_212
    rw [show (13 : Int32) = nI 13 from rfl]
    exact mbin214 vn (iI E) sz a (bz al) (bz gr) (iI (hP m E)) (by omega) 13 fu (Nat.le_refl _) (by decide)
  · obtain ⟨k, rfl⟩ : ∃ k : Nat, P = k := ⟨P.toNat, by omega⟩
    rw [if_neg w] at *
    rw [Int.toNat_natCast] at *
    have last : ∀ H, f_M_binary_212 vn (iI E) sz a (nI k) (bz al) (bz gr) (iI (hP m E)) H (nI k) = f_M_binary_248 vn (iI E) sz a (bz al) (bz gr) (iI (hP m E)) H (nI k) := by
      intro H
      show f_M_binary_214b _ _ _ _ _ _ _ _ _ _ _ = _
      unfold f_M_binary_214b
      rw [if_pos (nI_pos' (by omega))]
    rw [← iI_nI, if_neg (nI_pos (by omega)), ite_c (show ((13 : Int32) ≤ nI k) = (13 ≤ k) from propext (nI_leI (a := 13) (by decide) (by omega)))]
    by_cases g : 13 ≤ k
    · rw [if_pos g, show (0 : Int32) = nI 0 from rfl, mbin126 _ _ _ _ _ _ _ _ hM (by decide), if_pos (nI_pos' (by omega)), last, show 4 * (13 - k) = 0 from by omega]
    · rw [if_neg g, sh13 (by omega), mbin126 _ _ _ _ _ _ _ _ hM (by omega), if_pos (nI_pos' (by omega)), last]

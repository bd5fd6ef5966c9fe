/-! whole numbers: digits with 10, 8, 16 -/
def wd (md u i : Nat) : Nat := u / md ^ i % md
def wg (md : Nat) (gr : Bool) (u i : Nat) : Nat := hxd gr (wd md u i)
def Wc (md u c : Nat) : Prop := (u = 0 ∧ c = 0) ∨ (1 ≤ c ∧ md ^ (c - 1) ≤ u ∧ u < md ^ c)
def rdl (g : Nat → Nat) : Nat → List Nat
  | 0 => []
  | k + 1 => g k :: rdl g k
def fwl (g : Nat → Nat) : Nat → List Nat
  | 0 => []
  | k + 1 => fwl g k ++ [g k]
theorem rdl_len (g : Nat → Nat) : ∀ k, (rdl g k).length = k := by
  intro k
  induction k with
  | zero => rfl
  | succ k ih => show (rdl g k).length + 1 = k + 1; rw [ih]
theorem fwl_len (g : Nat → Nat) : ∀ k, (fwl g k).length = k := by
  intro k
  induction k with
  | zero => rfl
  | succ k ih => show (fwl g k ++ [g k]).length = k + 1; rw [List.length_append, ih]; rfl
theorem rdl_By {g : Nat → Nat} (hg : ∀ i, g i < 128) : ∀ k, By (rdl g k) := by
  intro k
  induction k with
  | zero => exact By_nil
  | succ k ih =>
    show By ([g k] ++ rdl g k)
    exact By_app (By_one (hg k)) ih
theorem fwl_rev (g : Nat → Nat) : ∀ k, (fwl g k).reverse = rdl g k := by
  intro k
  induction k with
  | zero => rfl
  | succ k ih =>
    show (fwl g k ++ [g k]).reverse = g k :: rdl g k
    rw [List.reverse_append, ih]
    rfl
theorem wd_lt {md : Nat} (h : 0 < md) (h2 : md ≤ 16) (u i : Nat) : wd md u i < 16 := by
  have := Nat.mod_lt (u / md ^ i) h
  unfold wd
  omega
theorem wg_lt {md : Nat} (h : 0 < md) (h2 : md ≤ 16) (gr : Bool) (u i : Nat) : wg md gr u i < 128 := hxd_lt (wd_lt h h2 u i)
theorem Wc_ex {md : Nat} (hmd : 2 ≤ md) {u : Nat} : ∀ k, u < md ^ k → ∃ c, c ≤ k ∧ Wc md u c := by
  intro k
  induction k with
  | zero =>
    intro h
    rw [Nat.pow_zero] at h
    exact ⟨0, Nat.le_refl _, Or.inl ⟨by omega, rfl⟩⟩
  | succ k ih =>
    intro h
    by_cases c : u < md ^ k
    · obtain ⟨c, h1, h2⟩ := ih c
      exact ⟨c, by omega, h2⟩
    · exact ⟨k + 1, Nat.le_refl _, Or.inr ⟨by omega, by rw [show k + 1 - 1 = k from rfl]; omega, h⟩⟩
theorem Wc_pos {md u c k : Nat} (hmd : 2 ≤ md) (h : Wc md u c) (hk : k < c) : u / md ^ k ≠ 0 := by
  rcases h with ⟨a1, a2⟩ | ⟨a1, a2, a3⟩
  · omega
  · have : md ^ k ≤ u := Nat.le_trans (Nat.pow_le_pow_right (by omega) (by omega)) a2
    have := Nat.div_pos this (Nat.pow_pos (by omega))
    omega
theorem Wc_end {md u c : Nat} (h : Wc md u c) : u / md ^ c = 0 := by
  rcases h with ⟨a1, a2⟩ | ⟨a1, a2, a3⟩
  · rw [a1, Nat.zero_div]
  · exact Nat.div_eq_of_lt a3
theorem Wc_top {md u c : Nat} (hmd : 2 ≤ md) (h : Wc md u (c + 1)) : wd md u c ≠ 0 := by
  rcases h with ⟨a1, a2⟩ | ⟨a1, a2, a3⟩
  · omega
  · have hp : 0 < md ^ c := Nat.pow_pos (by omega)
    unfold wd
    have h1 : u / md ^ c < md := by
      rw [Nat.div_lt_iff_lt_mul hp, Nat.mul_comm, ← Nat.pow_succ]
      exact a3
    rw [Nat.mod_eq_of_lt h1]
    rw [show c + 1 - 1 = c from rfl] at a2
    have := Nat.div_pos a2 hp
    omega
/-- what is left after k digits -/
def wX (md : Nat) (neg : Bool) (u k : Nat) : Int64 := if md = 10 then jJ (sgI neg (u / 10 ^ k)) else lN (u / md ^ k)
theorem hxd_10 {gr : Bool} {d : Nat} (h : d < 10) : hxd gr d = 48 + d := by
  unfold hxd
  rw [if_pos h]
/-! the class -/
theorem mask78 (x : Nat) : (lN x &&& (((((1 : Int32) <<< ((3 : Int32) &&& 31)) - (1 : Int32))).toInt64)) = lN (x % 8) := by
  have := jJ_mask (x : Int) 3 (by decide)
  rw [show ((2 ^ 3 - 1 : Nat) : Int) = 7 from by decide, show jJ 7 = (((((1 : Int32) <<< ((3 : Int32) &&& 31)) - (1 : Int32))).toInt64) from by decide, ← jJ_lN] at this
  rw [this, jJ_lN]
  congr 1
theorem mask716 (x : Nat) : (lN x &&& (((((1 : Int32) <<< ((4 : Int32) &&& 31)) - (1 : Int32))).toInt64)) = lN (x % 16) := by
  have := jJ_mask (x : Int) 4 (by decide)
  rw [show ((2 ^ 4 - 1 : Nat) : Int) = 15 from by decide, show jJ 15 = (((((1 : Int32) <<< ((4 : Int32) &&& 31)) - (1 : Int32))).toInt64) from by decide, ← jJ_lN] at this
  rw [this, jJ_lN]
  congr 1
theorem find38 {lc : Nat} (hlc : lc < 65536) {b md : Nat} (hb : (b = 3 ∧ md = 8) ∨ (b = 4 ∧ md = 16)) {u : Nat} (hu : u < 18446744073709551616) {c : Nat} (hc : Wc md u c) (hc2 : c ≤ 22) : ∀ (m k f : Nat) (a : Nat → Int32), k + m = c → m < f → (∀ i, i < k → a i = nI (wg md (decide (lc < 97)) u i)) →
    ∃ a', f_Writer_findDigits_38 f (nI k) (nI lc) a (nI b) (lN (u / md ^ k)) = some (nI c, a') ∧ (∀ i, i < c → a' i = nI (wg md (decide (lc < 97)) u i)) := by
  have hmd : 2 ≤ md ∧ md ≤ 16 ∧ md = 2 ^ b := by
    rcases hb with ⟨rfl, rfl⟩ | ⟨rfl, rfl⟩ <;> decide
  intro m
  induction m with
  | zero =>
    intro k f a h hf ha
    obtain ⟨f, rfl⟩ : ∃ j, f = j + 1 := ⟨f - 1, by omega⟩
    have : k = c := by omega
    subst this
    refine ⟨a, ?_, ha⟩
    show f_Writer_findDigits_38b _ _ _ _ _ _ = _
    unfold f_Writer_findDigits_38b
    rw [Wc_end hc, if_pos (show lN 0 = 0 from rfl)]
  | succ m ih =>
    intro k f a h hf ha
    obtain ⟨f, rfl⟩ : ∃ j, f = j + 1 := ⟨f - 1, by omega⟩
    have hne := Wc_pos hmd.1 hc (show k < c by omega)
    have hle : u / md ^ k ≤ u := Nat.div_le_self _ _
    have hnext : u / md ^ (k + 1) = u / md ^ k / md := by rw [Nat.pow_succ, Nat.div_div_eq_div_mul]
    have hw : wd md u k = u / md ^ k % md := rfl
    have hw16 := wd_lt (show 0 < md by omega) hmd.2.1 u k
    have ih1 := ih (k + 1) f
    rw [hnext] at ih1
    clear ih
    have hne0 : ¬ lN (u / md ^ k) = (0 : Int64) := by
      intro q
      have q2 : lN (u / md ^ k) = lN 0 := q
      rw [jJ_lN, jJ_lN] at q2
      have q3 := congrArg (fun z : Int64 => z.toBitVec.toNat) q2
      simp only [jJ_bits] at q3
      clear hw hw16 ih1 hnext
      generalize u / md ^ k = x at *
      omega
    have hmask : (lN (u / md ^ k) &&& (((((1 : Int32) <<< (nI b &&& 31)) - (1 : Int32))).toInt64)) = lN (u / md ^ k % md) := by
      rcases hb with ⟨rfl, rfl⟩ | ⟨rfl, rfl⟩
      · exact mask78 _
      · exact mask716 _
    have hsh : lus (lN (u / md ^ k)) (nI b) = lN (u / md ^ k / md) := by
      rw [lus_N (by omega) (by rcases hb with ⟨rfl, rfl⟩ | ⟨rfl, rfl⟩ <;> decide), hmd.2.2]
    show ∃ a', f_Writer_findDigits_38b _ _ _ _ _ _ = _ ∧ _
    unfold f_Writer_findDigits_38b
    rw [if_neg hne0, if_neg (show ¬ (22 : Int32) ≤ nI k from nI_ge (b := 22) (by omega) (by decide)), bd_s, hmask, ← hw, digit16 hlc, bi1_s, ck_s (gin_nI (by omega) (by decide)), bd_s, bd_s, bd_s, nI_clamp (by omega), Nat.mod_eq_of_lt hw16, byte7 _ (hxd_lt hw16), hsh, nI_1]
    refine ih1 _ (by omega) (by omega) ?_
    intro i hi
    unfold upd
    by_cases q : i = k
    · rw [if_pos q, q]
      rfl
    · rw [if_neg q]
      exact ha i (by omega)
theorem foundG15 {dgs : Nat → Int32} {g : Nat → Nat} {c : Nat} (hc : c ≤ 22) (hd : ∀ i, i < c → dgs i = nI (g i)) (hg : ∀ i, g i < 128) (vc : Int32) : ∀ (k f : Nat) (sz : Int32) (a : Nat → Int32) (l : List Nat), k ≤ c → k < f → Pt sz a l → l.length + k ≤ 420 →
    ∃ sz' a', f_Writer_putFoundDigits_15 f vc dgs sz a (iI ((k : Int) - 1)) = some (sz', a') ∧ Pt sz' a' (l ++ rdl g k) := by
  intro k
  induction k with
  | zero =>
    intro f sz a l hk hf hP hl
    obtain ⟨f, rfl⟩ : ∃ j, f = j + 1 := ⟨f - 1, by omega⟩
    refine ⟨sz, a, ?_, by show Pt sz a (l ++ []); rw [List.append_nil]; exact hP⟩
    show f_Writer_putFoundDigits_15b _ _ _ _ _ _ = _
    unfold f_Writer_putFoundDigits_15b
    rw [if_pos (by decide)]
  | succ k ih =>
    intro f sz a l hk hf hP hl
    obtain ⟨f, rfl⟩ : ∃ j, f = j + 1 := ⟨f - 1, by omega⟩
    obtain ⟨s1, a1, e1, h1⟩ := cput (b := g k) hP (by omega) (hg k)
    obtain ⟨s2, a2, e2, h2⟩ := ih f s1 a1 (l ++ [g k]) (by omega) (by omega) h1 (by rw [List.length_append, List.length_singleton]; omega)
    rw [List.append_assoc] at h2
    refine ⟨s2, a2, ?_, h2⟩
    show f_Writer_putFoundDigits_15b _ _ _ _ _ _ = _
    unfold f_Writer_putFoundDigits_15b
    rw [show ((k + 1 : Nat) : Int) - 1 = (k : Int) from by omega, ← iI_nI, if_neg (nI_pos (by omega)), ck_s (gin_nI (by omega) (by decide)), nI_clamp (by omega), hd k (by omega), e1, bi2_s, bd_s, show nI k + (-1 : Int32) = iI ((k : Int) - 1) from by rw [show (-1 : Int32) = iI (-1) from by decide, iI_nI, iI_add]; congr 1]
    exact e2
theorem foundG {dgs : Nat → Int32} {g : Nat → Nat} {c : Nat} (hc : c ≤ 22) (hd : ∀ i, i < c → dgs i = nI (g i)) (hg : ∀ i, g i < 128) {sz : Int32} {a : Nat → Int32} {l : List Nat} (hP : Pt sz a l) (hl : l.length + c ≤ 420) :
    ∃ sz' a', f_Writer_putFoundDigits (nI c) dgs sz a = some (sz', a') ∧ Pt sz' a' (l ++ rdl g c) := by
  unfold f_Writer_putFoundDigits
  rw [bd_s, show (22 : Int32) = nI 22 from rfl, imn_nI (by omega) (by decide), Nat.min_eq_left hc, iI_nI c, show (1 : Int32) = iI 1 from by decide, iI_sub, ← iI_nI]
  exact foundG15 hc hd hg (nI c) c fu sz a l (Nat.le_refl _) (by unfold fu; omega) hP hl
/-! the reference -/
theorem wX_ne {md : Nat} {neg : Bool} {u k : Nat} (hu : u < 18446744073709551616) (h10 : md = 10 → u ≤ 9223372036854775808) (hne : u / md ^ k ≠ 0) : ¬ wX md neg u k = (0 : Int64) := by
  have hle : u / md ^ k ≤ u := Nat.div_le_self _ _
  unfold wX
  by_cases c : md = 10
  · have := h10 c
    rw [c] at hne hle
    rw [if_pos c]
    intro q
    rw [show (0 : Int64) = jJ 0 from by decide] at q
    have q3 := congrArg (fun z : Int64 => z.toBitVec.toNat) q
    simp only [jJ_bits] at q3
    generalize u / 10 ^ k = x at *
    unfold sgI at q3
    split at q3 <;> omega
  · rw [if_neg c]
    intro q
    have q2 : lN (u / md ^ k) = lN 0 := q
    rw [jJ_lN, jJ_lN] at q2
    have q3 := congrArg (fun z : Int64 => z.toBitVec.toNat) q2
    simp only [jJ_bits] at q3
    generalize u / md ^ k = x at *
    omega
theorem and7 (x : Nat) : (lN x &&& (((nI 8).toInt64) - (1 : Int64))) = lN (x % 8) := by
  have := jJ_mask (x : Int) 3 (by decide)
  rw [show ((2 ^ 3 - 1 : Nat) : Int) = 7 from by decide, show jJ 7 = (((nI 8).toInt64) - (1 : Int64)) from by decide, ← jJ_lN] at this
  rw [this, jJ_lN]
  congr 1
theorem and15b (x : Nat) : (lN x &&& (((nI 16).toInt64) - (1 : Int64))) = lN (x % 16) := by
  have := jJ_mask (x : Int) 4 (by decide)
  rw [show ((2 ^ 4 - 1 : Nat) : Int) = 15 from by decide, show jJ 15 = (((nI 16).toInt64) - (1 : Int64)) from by decide, ← jJ_lN] at this
  rw [this, jJ_lN]
  congr 1
theorem whole15 (vn : Int64) {md : Nat} (hmd : md = 10 ∨ md = 8 ∨ md = 16) {gr neg : Bool} {u : Nat} (hu : u < 18446744073709551616) (h10 : md = 10 → u ≤ 9223372036854775808 ∧ (neg = false → u < 9223372036854775808)) {c : Nat} (hc : Wc md u c) (hc2 : c ≤ 22) (y3 y7 : Int32) : ∀ (m k f : Nat) (sz : Int32) (a : Nat → Int32) (l : List Nat), k + m = c → m < f → Pt sz a (l ++ fwl (wg md gr u) k) → l.length + c < 700 →
    ∃ sz' a', f_M_wholeDigits_15 f vn sz a (nI md) (bz gr) y3 (nI k) (wX md neg u k) y7 = f_M_wholeDigits_106 fu vn sz' a' y3 (nI c) y7 ∧ Pt sz' a' (l ++ fwl (wg md gr u) c) := by
  have hmd2 : 2 ≤ md ∧ md ≤ 16 := by rcases hmd with rfl | rfl | rfl <;> decide
  intro m
  induction m with
  | zero =>
    intro k f sz a l h hf hP hl
    obtain ⟨f, rfl⟩ : ∃ j, f = j + 1 := ⟨f - 1, by omega⟩
    have : k = c := by omega
    subst this
    refine ⟨sz, a, ?_, hP⟩
    show f_M_wholeDigits_15b _ _ _ _ _ _ _ _ _ _ = _
    unfold f_M_wholeDigits_15b wX
    by_cases z : md = 10
    · subst z
      rw [if_pos rfl, Wc_end hc, if_pos (by cases neg <;> decide)]
    · rw [if_neg z, Wc_end hc, if_pos (show lN 0 = 0 from rfl)]
  | succ m ih =>
    intro k f sz a l h hf hP hl
    obtain ⟨f, rfl⟩ : ∃ j, f = j + 1 := ⟨f - 1, by omega⟩
    have hne := Wc_pos hmd2.1 hc (show k < c by omega)
    have hle : u / md ^ k ≤ u := Nat.div_le_self _ _
    have hw16 := wd_lt (show 0 < md by omega) hmd2.2 u k
    have hx := wX_ne (neg := neg) hu (fun w => (h10 w).1) hne
    obtain ⟨s1, a1, e1, h1⟩ := mput (b := wg md gr u k) hP (by rw [List.length_append, fwl_len]; omega) (wg_lt (by omega) hmd2.2 gr u k)
    rw [List.append_assoc, show fwl (wg md gr u) k ++ [wg md gr u k] = fwl (wg md gr u) (k + 1) from rfl] at h1
    obtain ⟨s2, a2, e2, h2⟩ := ih (k + 1) f s1 a1 l (by omega) (by omega) h1 hl
    refine ⟨s2, a2, ?_, h2⟩
    have nx : f_M_wholeDigits_62 (f_M_wholeDigits_15 f) vn sz a (nI md) (bz gr) y3 (nI k) (wX md neg u k) y7 (nI (wd md u k)) = f_M_wholeDigits_106 fu vn s2 a2 y3 (nI c) y7 := by
      unfold f_M_wholeDigits_62 f_M_wholeDigits_97 f_M_wholeDigits_98
      rw [sixteen_eq _ hw16, bi1_s, show hxd gr (wd md u k) = wg md gr u k from rfl, e1, bi2_s, bd_s, bd_s, bd_s, nI_1]
      rcases hmd with rfl | rfl | rfl
      · obtain ⟨w1, w2⟩ := h10 rfl
        rw [if_pos (show nI 10 = (10 : Int32) from rfl)]
        refine Eq.trans ?_ e2
        congr 1
        unfold wX
        rw [if_pos rfl, if_pos rfl, Nat.pow_succ, ← Nat.div_div_eq_div_mul]
        generalize u / 10 ^ k = x at *
        rw [show (10 : Int64) = jJ 10 from by decide, jJ_div (by unfold sgI; split <;> omega) (by unfold sgI; cases neg <;> simp_all <;> omega) (by decide) (by decide)]
        congr 1
        unfold sgI
        cases neg
        · rw [if_neg (by decide), if_neg (by decide)]
          rfl
        · rw [if_pos rfl, if_pos rfl, Int.neg_tdiv]
          rfl
      · rw [if_neg (by decide), if_pos (show nI 8 = (8 : Int32) from rfl)]
        refine Eq.trans ?_ e2
        congr 1
        unfold wX
        rw [if_neg (by decide), if_neg (by decide), show (3 : Int32) = nI 3 from rfl, lus_N (by omega) (by decide), show u / 8 ^ (k + 1) = u / 8 ^ k / 2 ^ 3 from by rw [Nat.div_div_eq_div_mul]; congr 1]
      · rw [if_neg (by decide), if_neg (by decide)]
        refine Eq.trans ?_ e2
        congr 1
        unfold wX
        rw [if_neg (by decide), if_neg (by decide), show (4 : Int32) = nI 4 from rfl, lus_N (by omega) (by decide), show u / 16 ^ (k + 1) = u / 16 ^ k / 2 ^ 4 from by rw [Nat.div_div_eq_div_mul]; congr 1]
    show f_M_wholeDigits_15b _ _ _ _ _ _ _ _ _ _ = _
    unfold f_M_wholeDigits_15b f_M_wholeDigits_46
    rw [if_neg hx]
    rcases hmd with rfl | rfl | rfl
    · obtain ⟨w1, w2⟩ := h10 rfl
      have hmod : (lrm (wX 10 neg u k) (10 : Int64)).toInt32 = iI (sgI neg (wd 10 u k)) := by
        unfold wX wd
        rw [if_pos rfl]
        generalize u / 10 ^ k = x at *
        rw [show (10 : Int64) = jJ 10 from by decide, jJ_rem (by unfold sgI; split <;> omega) (by unfold sgI; cases neg <;> simp_all <;> omega) (by decide) (by decide), jJ_i]
        congr 1
        unfold sgI
        cases neg
        · rw [if_neg (by decide), if_neg (by decide)]
          rfl
        · rw [if_pos rfl, if_pos rfl, Int.neg_tmod]
          rfl
      rw [if_pos (show nI 10 = (10 : Int32) from rfl), hmod]
      cases neg
      · rw [show sgI false (wd 10 u k) = ((wd 10 u k : Nat) : Int) from rfl, ← iI_nI, if_pos (nI_pos' (by omega))]
        exact nx
      · rw [show sgI true (wd 10 u k) = -((wd 10 u k : Nat) : Int) from rfl]
        by_cases z : wd 10 u k = 0
        · rw [z] at nx ⊢
          rw [show -((0 : Nat) : Int) = ((0 : Nat) : Int) from rfl, ← iI_nI, if_pos (nI_pos' (by decide))]
          exact nx
        · rw [if_neg (by rw [iI_kle 0 (by decide) (by omega) (by omega) (by decide) (by decide)]; omega), iI_neg, Int.neg_neg, ← iI_nI]
          exact nx
    · have hd : (wX 8 neg u k &&& (((nI 8).toInt64) - (1 : Int64))).toInt32 = nI (wd 8 u k) := by
        unfold wX
        rw [if_neg (by decide), and7, lN_i]
        rfl
      rw [if_neg (by decide), hd, if_pos (nI_pos' (by omega))]
      exact nx
    · have hd : (wX 16 neg u k &&& (((nI 16).toInt64) - (1 : Int64))).toInt32 = nI (wd 16 u k) := by
        unfold wX
        rw [if_neg (by decide), and15b, lN_i]
        rfl
      rw [if_neg (by decide), hd, if_pos (nI_pos' (by omega))]
      exact nx
theorem whole106 (vn : Int64) {n ls : Nat} (hn : n ≤ 200) (hls : ls ≤ 200) (y7 : Int32) : ∀ (m k f : Nat) (sz : Int32) (a : Nat → Int32) (l : List Nat), k + m = max n ls → m < f → n ≤ k → Pt sz a (l ++ List.replicate (k - n) 48) → l.length + (max n ls - n) < 700 →
    ∃ sz' a', f_M_wholeDigits_106 f vn sz a (nI ls) (nI k) y7 = f_M_wholeDigits_124 vn sz' a' (nI (max n ls)) y7 ∧ Pt sz' a' (l ++ List.replicate (max n ls - n) 48) := by
  intro m
  induction m with
  | zero =>
    intro k f sz a l h hf hk hP hl
    obtain ⟨f, rfl⟩ : ∃ j, f = j + 1 := ⟨f - 1, by omega⟩
    have : k = max n ls := by omega
    subst this
    refine ⟨sz, a, ?_, hP⟩
    show f_M_wholeDigits_106b _ _ _ _ _ _ _ = _
    unfold f_M_wholeDigits_106b
    rw [if_pos (nI_le (by omega) (by omega))]
  | succ m ih =>
    intro k f sz a l h hf hk hP hl
    obtain ⟨f, rfl⟩ : ∃ j, f = j + 1 := ⟨f - 1, by omega⟩
    obtain ⟨s1, a1, e1, h1⟩ := mput (b := 48) hP (by rw [List.length_append, List.length_replicate]; omega) (by decide)
    rw [List.append_assoc, show List.replicate (k - n) 48 ++ [48] = List.replicate (k + 1 - n) 48 from by rw [show k + 1 - n = (k - n) + 1 from by omega, List.replicate_succ']] at h1
    obtain ⟨s2, a2, e2, h2⟩ := ih (k + 1) f s1 a1 l (by omega) (by omega) (by omega) h1 hl
    refine ⟨s2, a2, ?_, h2⟩
    show f_M_wholeDigits_106b _ _ _ _ _ _ _ = _
    unfold f_M_wholeDigits_106b
    rw [if_neg (nI_ge (by omega) (by omega)), show (48 : Int32) = nI 48 from rfl, e1, bi2_s, bd_s, nI_1]
    exact e2
theorem byte1 : ∀ b : Nat, b < 128 → (nI b).toInt8.toInt32 = nI b := by decide +kernel
theorem whole127 (vn : Int64) {l P : List Nat} (hB : By P) (hl : l.length + P.length < 700) (sz : Int32) : ∀ (m k f : Nat) (a : Nat → Int32), k + m = P.length / 2 → m < f → (∀ i, i < l.length → a i = nI (l.getD i 0)) → (∀ i, i < P.length → a (l.length + i) = nI (if i < k ∨ P.length - k ≤ i then P.getD (P.length - 1 - i) 0 else P.getD i 0)) →
    ∃ a', f_M_wholeDigits_127 f vn sz a (nI P.length) (nI l.length) (nI k) = some (sz, a') ∧ (∀ i, i < l.length → a' i = nI (l.getD i 0)) ∧ (∀ i, i < P.length → a' (l.length + i) = nI (P.getD (P.length - 1 - i) 0)) := by
  have e2 : nI P.length / (2 : Int32) = nI (P.length / 2) := by
    rw [iI_nI, show (2 : Int32) = iI 2 from by decide, iI_div (by omega) (by omega) (by decide) (by decide), iI_nI]
    congr 1
  intro m
  induction m with
  | zero =>
    intro k f a h hf h1 h2
    obtain ⟨f, rfl⟩ : ∃ j, f = j + 1 := ⟨f - 1, by omega⟩
    have : k = P.length / 2 := by omega
    subst this
    refine ⟨a, ?_, h1, ?_⟩
    · show f_M_wholeDigits_127b _ _ _ _ _ _ _ = _
      unfold f_M_wholeDigits_127b
      rw [e2, if_pos (Int32.le_refl _)]
    · intro i hi
      rw [h2 i hi]
      by_cases c : i < P.length / 2 ∨ P.length - P.length / 2 ≤ i
      · rw [if_pos c]
      · rw [if_neg c]
        congr 2
        omega
  | succ m ih =>
    intro k f a h hf h1 h2
    obtain ⟨f, rfl⟩ : ∃ j, f = j + 1 := ⟨f - 1, by omega⟩
    have ea : nI l.length + nI k = nI (l.length + k) := nI_add _ _
    have eb : nI l.length + nI P.length - (1 : Int32) - nI k = nI (l.length + (P.length - 1 - k)) := by
      rw [nI_add, show nI (l.length + P.length) - (1 : Int32) = nI (l.length + P.length - 1) from pk_sub (b := 1) (by omega), pk_sub (by omega)]
      congr 1
      omega
    have hk := h2 k (by omega)
    rw [if_neg (by omega)] at hk
    have hr := h2 (P.length - 1 - k) (by omega)
    rw [if_neg (by omega)] at hr
    have bk := hB k (by omega)
    have br := hB (P.length - 1 - k) (by omega)
    show ∃ a', f_M_wholeDigits_127b _ _ _ _ _ _ _ = _ ∧ _
    unfold f_M_wholeDigits_127b
    rw [e2, if_neg (nI_ge (by omega) (by omega)), ea, eb, ck_s (gin_nI (by omega) (by decide)), bd_s, ck_s (gin_nI (by omega) (by decide)), ck_s (gin_nI (by omega) (by decide)), bd_s, ck_s (gin_nI (by omega) (by decide)), bd_s, bd_s, nI_clamp (by omega), nI_clamp (by omega), hk, hr, byte1 _ bk, byte1 _ br, nI_1]
    refine ih (k + 1) f _ (by omega) (by omega) ?_ ?_
    · intro i hi
      unfold upd
      rw [if_neg (by omega), if_neg (by omega)]
      exact h1 i hi
    · intro i hi
      unfold upd
      by_cases c1 : i = P.length - 1 - k
      · rw [if_pos (by omega), if_pos (by omega), c1]
        congr 2
        omega
      · rw [if_neg (by omega)]
        by_cases c2 : i = k
        · rw [if_pos (by omega), if_pos (by omega), c2]
        · rw [if_neg (by omega), h2 i hi]
          by_cases d : i < k ∨ P.length - k ≤ i
          · rw [if_pos d, if_pos (by omega)]
          · rw [if_neg d, if_neg (by omega)]
theorem g_rev (P : List Nat) {i : Nat} (h : i < P.length) : P.reverse.getD i 0 = P.getD (P.length - 1 - i) 0 := by
  rw [List.getD_eq_getElem?_getD, List.getD_eq_getElem?_getD, List.getElem?_reverse h]
/-- the digits of a whole number, with 0s in front -/
def wl (md : Nat) (gr : Bool) (u c ls : Nat) : List Nat := List.replicate (ls - c) 48 ++ rdl (wg md gr u) c
theorem wl_By {md : Nat} (h : 0 < md) (h2 : md ≤ 16) (gr : Bool) (u c ls : Nat) : By (wl md gr u c ls) := By_app (By_rep (by decide)) (rdl_By (wg_lt h h2 gr u) c)
theorem wl_len (md : Nat) (gr : Bool) (u c ls : Nat) : (wl md gr u c ls).length = max c ls := by
  unfold wl
  rw [List.length_append, List.length_replicate, rdl_len]
  omega
theorem mwhole {md : Nat} (hmd : md = 10 ∨ md = 8 ∨ md = 16) {gr neg : Bool} {u : Nat} (hu : u < 18446744073709551616) (h10 : md = 10 → u ≤ 9223372036854775808 ∧ (neg = false → u < 9223372036854775808)) {c : Nat} (hc : Wc md u c) (hc2 : c ≤ 22) {ls : Nat} (hls : ls ≤ 99) {sz : Int32} {a : Nat → Int32} {l : List Nat} (hP : Pt sz a l) (hl : l.length ≤ 100) :
    ∃ sz' a', f_M_wholeDigits (wX md neg u 0) sz a (nI md) (bz gr) (nI ls) = some (sz', a') ∧ Pt sz' a' (l ++ wl md gr u c ls) := by
  have hmd2 : 0 < md ∧ md ≤ 16 := by rcases hmd with rfl | rfl | rfl <;> decide
  obtain ⟨s1, a1, e1, q1⟩ := whole15 (wX md neg u 0) hmd (gr := gr) (neg := neg) hu h10 hc hc2 (nI ls) sz c 0 fu sz a l (by omega) (by unfold fu; omega) (by
    show Pt sz a (l ++ [])
    rw [List.append_nil]; exact hP) (by omega)
  obtain ⟨s2, a2, e2, q2⟩ := whole106 (wX md neg u 0) (n := c) (ls := ls) (by omega) (by omega) sz (max c ls - c) c fu s1 a1 (l ++ fwl (wg md gr u) c) (by omega) (by unfold fu; omega) (Nat.le_refl _) (by rw [Nat.sub_self, List.replicate_zero, List.append_nil]; exact q1) (by rw [List.length_append, fwl_len]; omega)
  have hPl : (fwl (wg md gr u) c ++ List.replicate (max c ls - c) 48).length = max c ls := by
    rw [List.length_append, fwl_len, List.length_replicate]
    omega
  have hPB : By (fwl (wg md gr u) c ++ List.replicate (max c ls - c) 48) := by
    refine By_app ?_ (By_rep (by decide))
    intro i hi
    have h3 := rdl_By (wg_lt hmd2.1 hmd2.2 gr u) c (c - 1 - i) (by rw [rdl_len]; rw [fwl_len] at hi; omega)
    rw [← fwl_rev, g_rev _ (by rw [fwl_len]; rw [fwl_len] at hi; omega), fwl_len, show c - 1 - (c - 1 - i) = i from by rw [fwl_len] at hi; omega] at h3
    exact h3
  rw [List.append_assoc] at q2
  generalize hQ : fwl (wg md gr u) c ++ List.replicate (max c ls - c) 48 = Q at *
  have hrev : Q.reverse = wl md gr u c ls := by
    rw [← hQ, List.reverse_append, fwl_rev, List.reverse_replicate]
    unfold wl
    rw [show max c ls - c = ls - c from by omega]
  obtain ⟨a3, e3, h3, h4⟩ := whole127 (wX md neg u 0) (l := l) (P := Q) hPB (by omega) s2 (Q.length / 2) 0 fu a2 (by omega) (by unfold fu; omega) (by
    intro i hi
    rw [q2.2 i (by rw [List.length_append]; omega), gA, if_pos hi]) (by
    intro i hi
    rw [if_neg (by omega), q2.2 (l.length + i) (by rw [List.length_append]; omega), gA, if_neg (by omega)]
    congr 2
    omega)
  refine ⟨s2, a3, ?_, ?_, ?_⟩
  · unfold f_M_wholeDigits
    rw [show (0 : Int32) = nI 0 from rfl, e1, e2]
    unfold f_M_wholeDigits_124
    rw [hP.1, ← hPl]
    exact e3
  · rw [q2.1, List.length_append, List.length_append, hPl, wl_len]
  · intro i hi
    rw [gA]
    by_cases c1 : i < l.length
    · rw [if_pos c1]
      exact h3 i c1
    · rw [List.length_append, wl_len] at hi
      rw [if_neg c1, ← hrev, g_rev _ (by omega), ← h4 (i - l.length) (by omega)]
      congr 1
      omega

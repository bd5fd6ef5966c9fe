/-! the reference's roundTo -/
/-- one more, behind a run of 9s -/
theorem inc_dg {X s : Nat} (h9 : X % 10 ^ s = 10 ^ s - 1) (hne : dg X s ≠ 9) (i : Nat) : dg (X + 1) i = if i < s then 0 else if i = s then dg X s + 1 else dg X i := by
  have hp := ten_pos s
  have e := Nat.div_add_mod X (10 ^ s)
  have e1 : X + 1 = 10 ^ s * (X / 10 ^ s + 1) := by
    rw [Nat.mul_add, Nat.mul_one]
    omega
  have hq : X / 10 ^ s % 10 ≠ 9 := hne
  by_cases c : i < s
  · rw [if_pos c, e1]
    unfold dg
    have : 10 ^ s = 10 ^ i * (10 * 10 ^ (s - i - 1)) := by
      rw [show 10 * 10 ^ (s - i - 1) = 10 ^ (s - i - 1 + 1) from by rw [Nat.pow_succ]; omega, ← Nat.pow_add]
      congr 1
      omega
    rw [this, Nat.mul_assoc, Nat.mul_div_cancel_left _ (ten_pos i), Nat.mul_assoc, Nat.mul_mod_right]
  · rw [if_neg c]
    by_cases d : i = s
    · rw [if_pos d, d, e1]
      unfold dg
      rw [Nat.mul_div_cancel_left _ hp]
      generalize X / 10 ^ s = Y at hq
      omega
    · rw [if_neg d, e1]
      unfold dg
      have : 10 ^ i = 10 ^ s * (10 * 10 ^ (i - s - 1)) := by
        rw [show 10 * 10 ^ (i - s - 1) = 10 ^ (i - s - 1 + 1) from by rw [Nat.pow_succ]; omega, ← Nat.pow_add]
        congr 1
        omega
      rw [this, ← Nat.div_div_eq_div_mul, ← Nat.div_div_eq_div_mul, Nat.mul_div_cancel_left _ hp, ← Nat.div_div_eq_div_mul, ← Nat.div_div_eq_div_mul]
      generalize X / 10 ^ s = Y at hq
      rw [show (Y + 1) / 10 = Y / 10 from by omega]
theorem nine_run {X s : Nat} (h9 : X % 10 ^ s = 10 ^ s - 1) (h : dg X s = 9) : X % 10 ^ (s + 1) = 10 ^ (s + 1) - 1 := by
  rw [dg_split, h, h9, Nat.pow_succ]
  have := ten_pos s
  omega
/-- the carry: K digits of X + 1 -/
theorem rt226 (vl vp rp : Int32) (ex : Nat → Int32) {n : Nat} (hn : n < 1299) : ∀ (t f : Nat) (a : Nat → Int32), t ≤ n → t < f → (∀ j, j < n + 1 → t < j ∨ j < n → a j = 0) →
    ∃ a', f_M_roundTo_226 f vl vp (nI n) rp ex a (nI t) = f_M_roundTo_253 vl vp (nI n) rp ex a' ∧ (∀ j, 1 ≤ j → j < n + 1 → a' j = 0) := by
  intro t
  induction t with
  | zero =>
    intro f a ht hf ha
    obtain ⟨f, rfl⟩ : ∃ j, f = j + 1 := ⟨f - 1, by omega⟩
    refine ⟨a, ?_, fun j h1 h2 => ha j h2 (by omega)⟩
    show f_M_roundTo_226b _ _ _ _ _ _ _ _ = _
    unfold f_M_roundTo_226b
    rw [if_pos (by decide)]
  | succ t ih =>
    intro f a ht hf ha
    obtain ⟨f, rfl⟩ : ∃ j, f = j + 1 := ⟨f - 1, by omega⟩
    show ∃ a', f_M_roundTo_226b _ _ _ _ _ _ _ _ = _ ∧ _
    unfold f_M_roundTo_226b
    rw [if_neg (nI_nle (by omega) (by omega)), nI_pred, ck_s (gin_nI (by omega) (by decide)), ck_s (gin_nI (by omega) (by decide)), bd_s, bd_s, nI_clamp (by omega), nI_clamp (by omega), show nI (t + 1) + (-1 : Int32) = nI t from by rw [sub_one _ (by omega), iI_nI]; congr 1; omega, ha t (by omega) (by omega)]
    refine ih f _ (by omega) (by omega) ?_
    intro j hj hor
    unfold upd
    by_cases c : j = t + 1
    · rw [if_pos c]; rfl
    · rw [if_neg c]
      exact ha j hj (by omega)
theorem rt171 (vl vp : Int32) (rp : Int) (ex : Nat → Int32) {n X : Nat} (hn : n < 1299) (hX : X < 10 ^ n) : ∀ (t f : Nat) (a : Nat → Int32), t ≤ n → t < f → X % 10 ^ (n - t) = 10 ^ (n - t) - 1 → (∀ j, j < n → a j = nI (if j < t then dg X (n - 1 - j) else 0)) →
    ∃ (c : Nat) (a' : Nat → Int32), c ≤ 1 ∧ (c = 1 → X + 1 = 10 ^ n) ∧ X + 1 < 10 ^ (n + c) ∧ f_M_roundTo_171 f vl vp (nI n) (iI rp) ex a (iI ((t : Int) - 1)) = some (nI (n + c), iI (rp + c), a') ∧ (∀ j, j < n + c → a' j = nI (dg (X + 1) (n + c - 1 - j))) := by
  intro t
  induction t with
  | zero =>
    intro f a ht hf h9 ha
    obtain ⟨f, rfl⟩ : ∃ j, f = j + 1 := ⟨f - 1, by omega⟩
    rw [Nat.sub_zero, Nat.mod_eq_of_lt hX] at h9
    have hp := ten_pos n
    have hXn : X + 1 = 10 ^ n := by omega
    have ha0 : ∀ j, j < n → a j = 0 := by
      intro j hj
      rw [ha j hj, if_neg (by omega)]
      rfl
    obtain ⟨a1, e1, h1⟩ := rt226 vl vp (iI rp) ex hn n fu a (Nat.le_refl _) (by unfold fu; omega) (by
      intro j hj hor
      exact ha0 j (by omega))
    refine ⟨1, upd a1 0 1, Nat.le_refl _, fun _ => hXn, ?_, ?_, ?_⟩
    · rw [hXn]
      exact (Nat.pow_lt_pow_iff_right (by decide)).mpr (by omega)
    · show f_M_roundTo_171b _ _ _ _ _ _ _ _ = _
      unfold f_M_roundTo_171b f_M_roundTo_202
      rw [if_pos (by decide), if_pos (by decide), e1]
      unfold f_M_roundTo_253
      rw [ck_s (show gin (0 : Int32) 1300 from gin_nI (n := 0) (by decide) (by decide)), bd_s, bd_s, bd_s, nI_1, show (1 : Int32) = iI 1 from by decide, iI_add]
      rfl
    · intro j hj
      unfold upd
      rw [hXn]
      by_cases q : j = 0
      · rw [if_pos q, q]
        have : dg (10 ^ n) (n + 1 - 1 - 0) = 1 := by
          unfold dg
          rw [show n + 1 - 1 - 0 = n from by omega, Nat.div_self hp]
        rw [this]
        rfl
      · rw [if_neg q, h1 j (by omega) hj]
        have : dg (10 ^ n) (n + 1 - 1 - j) = 0 := by
          unfold dg
          rw [show 10 ^ n = 10 ^ (n + 1 - 1 - j) * (10 * 10 ^ (j - 1)) from by
            rw [show 10 * 10 ^ (j - 1) = 10 ^ (j - 1 + 1) from by rw [Nat.pow_succ]; omega, ← Nat.pow_add]
            congr 1
            omega, Nat.mul_div_cancel_left _ (ten_pos _), Nat.mul_mod_right]
        rw [this]
        rfl
  | succ t ih =>
    intro f a ht hf h9 ha
    obtain ⟨f, rfl⟩ : ∃ j, f = j + 1 := ⟨f - 1, by omega⟩
    have hd := dg_lt X (n - (t + 1))
    have hat : a t = nI (dg X (n - (t + 1))) := by
      rw [ha t (by omega), if_pos (by omega)]
      congr 2
      omega
    show ∃ (c : Nat) (a' : Nat → Int32), c ≤ 1 ∧ (c = 1 → X + 1 = 10 ^ n) ∧ X + 1 < 10 ^ (n + c) ∧ f_M_roundTo_171b _ _ _ _ _ _ _ _ = _ ∧ _
    unfold f_M_roundTo_171b
    rw [show ((t + 1 : Nat) : Int) - 1 = (t : Int) from by omega, ← iI_nI, if_neg (nI_pos (by omega)), ck_s (gin_nI (by omega) (by decide)), ite_c (show (a (nI t).toNatClampNeg = (9 : Int32)) = (dg X (n - (t + 1)) = 9) from by rw [nI_clamp (by omega), hat]; exact propext (nI_eq (b := 9) (by omega) (by decide)))]
    by_cases c : dg X (n - (t + 1)) = 9
    · rw [if_pos c, ck_s (gin_nI (by omega) (by decide)), bd_s, bd_s, nI_clamp (by omega), show nI t + (-1 : Int32) = iI ((t : Int) - 1) from by rw [show (-1 : Int32) = iI (-1) from by decide, iI_nI, iI_add]; congr 1]
      refine ih f _ (by omega) (by omega) ?_ ?_
      · rw [show n - t = n - (t + 1) + 1 from by omega]
        exact nine_run h9 c
      · intro j hj
        unfold upd
        by_cases q : j = t
        · rw [if_pos q, if_neg (by omega)]; rfl
        · rw [if_neg q, ha j hj]
          by_cases d : j < t
          · rw [if_pos d, if_pos (by omega)]
          · rw [if_neg d, if_neg (by omega)]
    · rw [if_neg c]
      have hlt : X + 1 < 10 ^ n := by
        have hi := inc_dg h9 c
        rcases Nat.lt_or_ge (X + 1) (10 ^ n) with z | z
        · exact z
        · have hXn : X + 1 = 10 ^ n := by omega
          have h1 := hi n
          rw [hXn, if_neg (by omega)] at h1
          have h2 : dg (10 ^ n) n = 1 := by
            unfold dg
            rw [Nat.div_self (ten_pos n)]
          rw [h2, if_neg (by omega), dg_high hX (Nat.le_refl n)] at h1
          omega
      refine ⟨0, upd a t (nI (dg X (n - (t + 1)) + 1)), by omega, fun q => absurd q (by decide), hlt, ?_, ?_⟩
      · unfold f_M_roundTo_202
        rw [if_neg (nI_pos (by omega)), ck_s (gin_nI (by omega) (by decide)), ck_s (gin_nI (by omega) (by decide)), bd_s, nI_clamp (by omega), hat, nI_1, byte_nI (by omega), show rp + ((0 : Nat) : Int) = rp from by omega]
        rfl
      · intro j hj
        unfold upd
        rw [inc_dg h9 c]
        by_cases q : j = t
        · rw [if_pos q, if_neg (by omega), if_pos (by omega)]
        · rw [if_neg q, ha j (by omega)]
          by_cases d : j < t
          · rw [if_pos (by omega), if_neg (by omega), if_neg (by omega)]
            rfl
          · rw [if_neg (by omega), if_pos (by omega)]
theorem more_div {Y s : Nat} : (Y / 10 ^ s = 0) ↔ (Y / 10 ^ (s + 1) = 0 ∧ dg Y s = 0) := by
  unfold dg
  rw [Nat.pow_succ, ← Nat.div_div_eq_div_mul]
  generalize Y / 10 ^ s = x
  omega
theorem dg_mod {W q i : Nat} (h : i < q) : dg (W % 10 ^ q) i = dg W i := by
  unfold dg
  rw [show 10 ^ q = 10 ^ i * (10 * 10 ^ (q - i - 1)) from by
    rw [show 10 * 10 ^ (q - i - 1) = 10 ^ (q - i - 1 + 1) from by rw [Nat.pow_succ]; omega, ← Nat.pow_add]
    congr 1
    omega, Nat.mod_mul_right_div_self, Nat.mod_mul_right_mod]
theorem rt80 (vp rp : Int32) (rl : Int32) (rd : Nat → Int32) {W L n : Nat} {ex : Nat → Int32} (hL : L ≤ 1299) (hn : n < L) (hE : Ex ex W L L) : ∀ (m k f : Nat), k + m = L → m < f → n + 1 ≤ k →
    f_M_roundTo_80 f (nI L) vp rl rp ex rd (nI n) (bz (decide (W % 10 ^ (L - n - 1) / 10 ^ (L - k) ≠ 0))) (nI k) = f_M_roundTo_113 (nI L) vp rl rp ex rd (nI n) (bz (decide (W % 10 ^ (L - n - 1) ≠ 0))) := by
  intro m
  induction m with
  | zero =>
    intro k f h hf hk
    obtain ⟨f, rfl⟩ : ∃ j, f = j + 1 := ⟨f - 1, by omega⟩
    have : k = L := by omega
    subst this
    show f_M_roundTo_80b _ _ _ _ _ _ _ _ _ _ = _
    unfold f_M_roundTo_80b
    rw [if_pos (Int32.le_refl _), Nat.sub_self, Nat.pow_zero, Nat.div_one]
  | succ m ih =>
    intro k f h hf hk
    obtain ⟨f, rfl⟩ : ∃ j, f = j + 1 := ⟨f - 1, by omega⟩
    have nxt := ih (k + 1) f (by omega) (by omega) (by omega)
    have key := more_div (Y := W % 10 ^ (L - n - 1)) (s := L - (k + 1))
    rw [show L - (k + 1) + 1 = L - k from by omega, dg_mod (by omega)] at key
    have hd := dg_lt W (L - (k + 1))
    have hek : ex k = nI (dg W (L - (k + 1))) := by
      rw [hE k (by omega)]
      congr 2
      omega
    show f_M_roundTo_80b _ _ _ _ _ _ _ _ _ _ = _
    unfold f_M_roundTo_80b f_M_roundTo_101 f_M_roundTo_106
    rw [if_neg (nI_ge (by omega) (by omega)), ite_c (bz_f _), bd_s, bd_s, nI_1]
    by_cases c : W % 10 ^ (L - n - 1) / 10 ^ (L - k) = 0
    · rw [if_pos (by simp only [c]; decide), ck_s (gin_nI (by omega) (by decide)), nI_clamp (by omega), hek]
      by_cases d : dg W (L - (k + 1)) = 0
      · rw [d, if_pos (by decide)]
        rw [decide_eq_false (show ¬ (W % 10 ^ (L - n - 1) / 10 ^ (L - (k + 1)) ≠ 0) from fun z => z (key.mpr ⟨c, d⟩))] at nxt
        exact nxt
      · rw [if_neg (nI_nle (by omega) (by omega))]
        rw [decide_eq_true (show W % 10 ^ (L - n - 1) / 10 ^ (L - (k + 1)) ≠ 0 from fun z => d (key.mp z).2)] at nxt
        exact nxt
    · rw [if_neg (by rw [decide_eq_true (show W % 10 ^ (L - n - 1) / 10 ^ (L - k) ≠ 0 from c)]; decide)]
      rw [decide_eq_true (show W % 10 ^ (L - n - 1) / 10 ^ (L - (k + 1)) ≠ 0 from fun z => c (key.mp z).1)] at nxt
      exact nxt
/-- the digits that are kept -/
theorem rt23 (vp rp : Int32) (y1 : Int32) {W L n : Nat} {ex : Nat → Int32} (hL : L ≤ 1299) (hn : n ≤ 1299) (hE : Ex ex W L L) : ∀ (m k f : Nat) (rd : Nat → Int32), k + m = n → m < f → (∀ j, j < k → rd j = nI (if j < L then dg W (L - 1 - j) else 0)) →
    ∃ rd', f_M_roundTo_23 f (nI L) vp (nI n) rp ex rd y1 (nI k) = f_M_roundTo_61 (nI L) vp (nI n) rp ex rd' y1 ∧ (∀ j, j < n → rd' j = nI (if j < L then dg W (L - 1 - j) else 0)) := by
  intro m
  induction m with
  | zero =>
    intro k f rd h hf ha
    obtain ⟨f, rfl⟩ : ∃ j, f = j + 1 := ⟨f - 1, by omega⟩
    have : k = n := by omega
    subst this
    refine ⟨rd, ?_, ha⟩
    show f_M_roundTo_23b _ _ _ _ _ _ _ _ _ = _
    unfold f_M_roundTo_23b
    rw [if_pos (Int32.le_refl _)]
  | succ m ih =>
    intro k f rd h hf ha
    obtain ⟨f, rfl⟩ : ∃ j, f = j + 1 := ⟨f - 1, by omega⟩
    have hd := dg_lt W (L - 1 - k)
    have key : ∀ z : Nat, z < 10 → z = (if k < L then dg W (L - 1 - k) else 0) → ∃ rd', f_M_roundTo_54 (f_M_roundTo_23 f) (nI L) vp (nI n) rp ex rd y1 (nI k) (nI k) (nI z) = f_M_roundTo_61 (nI L) vp (nI n) rp ex rd' y1 ∧ (∀ j, j < n → rd' j = nI (if j < L then dg W (L - 1 - j) else 0)) := by
      intro z hz hz2
      unfold f_M_roundTo_54
      rw [ck_s (gin_nI (by omega) (by decide)), bd_s, bd_s, nI_clamp (by omega), nI_1]
      refine ih (k + 1) f _ (by omega) (by omega) ?_
      intro j hj
      unfold upd
      by_cases q : j = k
      · rw [if_pos q, q, ← hz2]
        have : ∀ d : Nat, d < 10 → (nI d).toInt8.toInt32 = nI d := by decide +kernel
        exact this z hz
      · rw [if_neg q]
        exact ha j (by omega)
    show ∃ rd', f_M_roundTo_23b _ _ _ _ _ _ _ _ _ = _ ∧ _
    unfold f_M_roundTo_23b
    rw [if_neg (nI_ge (by omega) (by omega)), ite_c (propext (nI_leI (by omega) (by omega)))]
    by_cases c : L ≤ k
    · rw [if_pos c]
      exact key 0 (by decide) (by rw [if_neg (by omega)])
    · rw [if_neg c, ck_s (gin_nI (by omega) (by decide)), show ex (nI k).toNatClampNeg = nI (dg W (L - 1 - k)) from by rw [nI_clamp (by omega), hE k (by omega)]]
      exact key _ hd (by rw [if_pos (by omega)])
theorem dg_div (W q i : Nat) : dg (W / 10 ^ q) i = dg W (q + i) := by
  unfold dg
  rw [Nat.pow_add, Nat.div_div_eq_div_mul]
theorem div_lt_ten {W q n : Nat} (h : W < 10 ^ (q + n)) : W / 10 ^ q < 10 ^ n := by
  rw [Nat.div_lt_iff_lt_mul (ten_pos q), Nat.mul_comm, ← Nat.pow_add]
  exact h
theorem rdE_div (W q : Nat) : rdE W q = (W / 10 ^ q + if ru W q then 1 else 0) * 10 ^ q := by
  unfold rdE
  have := Nat.div_add_mod W (10 ^ q)
  rw [Nat.add_mul, Nat.mul_comm (W / 10 ^ q)]
  omega
theorem roundTo_mid {W L n : Nat} {ex : Nat → Int32} (hL : L ≤ 1200) (hn : n < L) (hE : Ex ex W L L) (hW : W < 10 ^ L) {pt : Int} (rl0 rp0 : Int32) (rd : Nat → Int32) :
    ∃ (c : Nat) (rd' : Nat → Int32), c ≤ 1 ∧ f_M_roundTo (nI L) (iI pt) rl0 rp0 ex rd (nI n) = some (nI (n + c), iI (pt + c), rd') ∧ (W / 10 ^ (L - n) + if ru W (L - n) then 1 else 0) < 10 ^ (n + c) ∧ (c = 1 → (W / 10 ^ (L - n) + if ru W (L - n) then 1 else 0) = 10 ^ n) ∧ (∀ j, j < n + c → rd' j = nI (dg (W / 10 ^ (L - n) + if ru W (L - n) then 1 else 0) (n + c - 1 - j))) := by
  unfold f_M_roundTo f_M_roundTo_10
  rw [if_pos (nI_pos' (by omega))]
  obtain ⟨rd1, e1, h1⟩ := rt23 (iI pt) (iI pt) (nI n) (n := n) (by omega) (by omega) hE n 0 fu rd (by omega) (by unfold fu; omega) (fun j hj => absurd hj (by omega))
  rw [show (0 : Int32) = nI 0 from rfl, e1]
  have hX : W / 10 ^ (L - n) < 10 ^ n := div_lt_ten (by rw [show L - n + n = L from by omega]; exact hW)
  have h1' : ∀ j, j < n → rd1 j = nI (dg (W / 10 ^ (L - n)) (n - 1 - j)) := by
    intro j hj
    rw [h1 j hj, if_pos (by omega), dg_div]
    congr 2
    omega
  have no : ru W (L - n) = false → ∃ (c : Nat) (rd' : Nat → Int32), c ≤ 1 ∧ some (nI n, iI pt, rd1) = some (nI (n + c), iI (pt + c), rd') ∧ (W / 10 ^ (L - n) + if ru W (L - n) then 1 else 0) < 10 ^ (n + c) ∧ (c = 1 → (W / 10 ^ (L - n) + if ru W (L - n) then 1 else 0) = 10 ^ n) ∧ (∀ j, j < n + c → rd' j = nI (dg (W / 10 ^ (L - n) + if ru W (L - n) then 1 else 0) (n + c - 1 - j))) := by
    intro hu
    rw [hu, if_neg (by decide)]
    refine ⟨0, rd1, by omega, ?_, hX, fun q => absurd q (by decide), h1'⟩
    rw [show pt + ((0 : Nat) : Int) = pt from by omega]
    rfl
  have yes : ru W (L - n) = true → ∃ (c : Nat) (rd' : Nat → Int32), c ≤ 1 ∧ f_M_roundTo_166 (nI L) (iI pt) (nI n) (iI pt) ex rd1 (nI n) = some (nI (n + c), iI (pt + c), rd') ∧ (W / 10 ^ (L - n) + if ru W (L - n) then 1 else 0) < 10 ^ (n + c) ∧ (c = 1 → (W / 10 ^ (L - n) + if ru W (L - n) then 1 else 0) = 10 ^ n) ∧ (∀ j, j < n + c → rd' j = nI (dg (W / 10 ^ (L - n) + if ru W (L - n) then 1 else 0) (n + c - 1 - j))) := by
    intro hu
    rw [hu, if_pos rfl]
    unfold f_M_roundTo_166
    obtain ⟨c, rd2, c1, c2, c3, c4, c5⟩ := rt171 (nI L) (iI pt) pt ex (n := n) (X := W / 10 ^ (L - n)) (by omega) hX n fu rd1 (Nat.le_refl _) (by unfold fu; omega) (by rw [Nat.sub_self, Nat.pow_zero, Nat.mod_one]) (by
      intro j hj
      rw [if_pos hj]
      exact h1' j hj)
    refine ⟨c, rd2, c1, ?_, c3, c2, c5⟩
    rw [bd_s, iI_nI n, show (1 : Int32) = iI 1 from by decide, iI_sub, ← iI_nI]
    exact c4
  unfold f_M_roundTo_61
  rw [if_neg (nI_pos (by omega)), if_pos (nI_lt hn (by omega)), bd_s, nI_1]
  have e2 := rt80 (iI pt) (iI pt) (nI n) rd1 (by omega) hn hE (L - (n + 1)) (n + 1) fu (by omega) (by unfold fu; omega) (Nat.le_refl _)
  rw [show L - (n + 1) = L - n - 1 from by omega, Nat.div_eq_of_lt (Nat.mod_lt _ (ten_pos _))] at e2
  rw [show (0 : Int32) = bz (decide ((0 : Nat) ≠ 0)) from rfl, e2]
  have hd := dg_lt W (L - n - 1)
  have hen : ex n = nI (dg W (L - n - 1)) := by
    rw [hE n hn]
    congr 2
    omega
  obtain ⟨q, hq⟩ : ∃ q, L - n = q + 1 := ⟨L - n - 1, by omega⟩
  have hs := dg_split W q
  have hp := ten_pos q
  have hr : W % 10 ^ q < 10 ^ q := Nat.mod_lt _ hp
  rw [show L - n - 1 = q from by omega] at hd hen ⊢
  rw [hq] at no yes hX h1' ⊢
  have fin : ∀ odd : Bool, odd = decide (W / 10 ^ (q + 1) % 2 = 1) → ∃ (c : Nat) (rd' : Nat → Int32), c ≤ 1 ∧ f_M_roundTo_136 (nI L) (iI pt) (nI n) (iI pt) ex rd1 (nI n) (bz (decide (W % 10 ^ q ≠ 0))) (bz odd) = some (nI (n + c), iI (pt + c), rd') ∧ (W / 10 ^ (q + 1) + if ru W (q + 1) then 1 else 0) < 10 ^ (n + c) ∧ (c = 1 → (W / 10 ^ (q + 1) + if ru W (q + 1) then 1 else 0) = 10 ^ n) ∧ (∀ j, j < n + c → rd' j = nI (dg (W / 10 ^ (q + 1) + if ru W (q + 1) then 1 else 0) (n + c - 1 - j))) := by
    intro odd hodd
    have hru : ru W (q + 1) = decide (10 ^ q * 10 < 2 * (dg W q * 10 ^ q + W % 10 ^ q) ∨ (10 ^ q * 10 = 2 * (dg W q * 10 ^ q + W % 10 ^ q) ∧ W / 10 ^ (q + 1) % 2 = 1)) := by
      unfold ru
      rw [hs, Nat.pow_succ]
    have hx : dg W q * 10 ^ q = 10 ^ q * dg W q := Nat.mul_comm _ _
    generalize hR : W % 10 ^ q = r at *
    generalize hT : 10 ^ q = x at *
    unfold f_M_roundTo_136
    rw [ck_s (gin_nI (by omega) (by decide)), ite_c (show (ex (nI n).toNatClampNeg < (5 : Int32)) = (dg W q < 5) from by rw [nI_clamp (by omega), hen]; exact propext (nI_ltI (b := 5) (by omega) (by decide)))]
    by_cases c5 : dg W q < 5
    · rw [if_pos c5]
      apply no
      rw [hru, decide_eq_false]
      have : x * dg W q ≤ x * 4 := Nat.mul_le_mul_left _ (by omega)
      omega
    · rw [if_neg c5, ck_s (gin_nI (by omega) (by decide)), ite_c (show (ex (nI n).toNatClampNeg = (5 : Int32)) = (dg W q = 5) from by rw [nI_clamp (by omega), hen]; exact propext (nI_eq (b := 5) (by omega) (by decide)))]
      by_cases c6 : dg W q = 5
      · rw [if_pos c6, ite_c (bz_f _), ite_c (bz_f _)]
        rw [c6] at hru hx
        by_cases c7 : r = 0
        · rw [if_pos (by simp [c7])]
          cases ho : odd with
          | false =>
            rw [if_pos rfl]
            rw [ho] at hodd
            have := of_decide_eq_false hodd.symm
            apply no
            rw [hru, decide_eq_false]
            omega
          | true =>
            rw [if_neg (by decide)]
            rw [ho] at hodd
            have := of_decide_eq_true hodd.symm
            apply yes
            rw [hru, decide_eq_true]
            omega
        · rw [if_neg (by simp [c7])]
          apply yes
          rw [hru, decide_eq_true]
          omega
      · rw [if_neg c6]
        apply yes
        rw [hru, decide_eq_true]
        have : x * 6 ≤ x * dg W q := Nat.mul_le_mul_left _ (by omega)
        omega
  unfold f_M_roundTo_113 f_M_roundTo_135
  by_cases c0 : n = 0
  · rw [if_pos (by rw [c0]; decide)]
    refine fin false ?_
    rw [c0, Nat.pow_zero] at hX
    rw [Nat.lt_one_iff.mp hX]
    rfl
  · rw [if_neg (nI_nle (by omega) (by omega)), show nI n - (1 : Int32) = nI (n - 1) from pk_sub (b := 1) (by omega), ck_s (gin_nI (by omega) (by decide)), nI_clamp (by omega), h1' (n - 1) (by omega), show n - 1 - (n - 1) = 0 from by omega, show (2 : Int32) = nI 2 from rfl]
    have hd0 := dg_lt (W / 10 ^ (q + 1)) 0
    rw [irm_nI (by omega) (by decide) (by decide), ite_c (show (nI (dg (W / 10 ^ (q + 1)) 0 % 2) = (1 : Int32)) = (dg (W / 10 ^ (q + 1)) 0 % 2 = 1) from propext (nI_eq (b := 1) (by omega) (by decide)))]
    have hpar : dg (W / 10 ^ (q + 1)) 0 % 2 = W / 10 ^ (q + 1) % 2 := by
      unfold dg
      rw [Nat.pow_zero, Nat.div_one]
      omega
    rw [hpar]
    by_cases o : W / 10 ^ (q + 1) % 2 = 1
    · rw [if_pos o]
      exact fin true (by rw [decide_eq_true o])
    · rw [if_neg o]
      exact fin false (by rw [decide_eq_false o])
/-! in terms of V: the number times 10^1548 -/
def dgZ (V : Nat) (p : Int) : Nat := if p < -1548 then 0 else dg V (p + 1548).toNat
theorem dgZ_lt (V : Nat) (p : Int) : dgZ V p < 10 := by
  unfold dgZ
  split
  · decide
  · exact dg_lt _ _
theorem rdE_scale (W q z : Nat) : rdE (W * 10 ^ z) (q + z) = rdE W q * 10 ^ z := by
  have hp := ten_pos z
  have e1 : W * 10 ^ z / 10 ^ (q + z) = W / 10 ^ q := by rw [Nat.pow_add, Nat.mul_div_mul_right _ _ hp]
  have e2 : W * 10 ^ z % 10 ^ (q + z) = W % 10 ^ q * 10 ^ z := by rw [Nat.pow_add, Nat.mul_mod_mul_right]
  have e3 : ru (W * 10 ^ z) (q + z) = ru W q := by
    unfold ru
    rw [e1, e2]
    apply decide_eq_decide.mpr
    rw [Nat.pow_add, show 2 * (W % 10 ^ q * 10 ^ z) = 2 * (W % 10 ^ q) * 10 ^ z from by rw [Nat.mul_assoc]]
    constructor
    · rintro (h | ⟨h, h2⟩)
      · exact Or.inl (Nat.lt_of_mul_lt_mul_right h)
      · exact Or.inr ⟨Nat.eq_of_mul_eq_mul_right hp h, h2⟩
    · rintro (h | ⟨h, h2⟩)
      · exact Or.inl (Nat.mul_lt_mul_of_pos_right h hp)
      · exact Or.inr ⟨congrArg (· * 10 ^ z) h, h2⟩
  rw [rdE_div, rdE_div, e1, e3, Nat.pow_add, Nat.mul_assoc]
theorem ru_dvd {V E : Nat} (h : 10 ^ E ∣ V) : ru V E = false := by
  unfold ru
  rw [Nat.mod_eq_zero_of_dvd h, decide_eq_false]
  have := ten_pos E
  omega
theorem rdE_dvd {V E : Nat} (h : 10 ^ E ∣ V) : rdE V E = V := by
  unfold rdE
  rw [ru_dvd h, Nat.mod_eq_zero_of_dvd h, if_neg (by decide)]
  omega
theorem rdE_small {V E : Nat} (h : 2 * V < 10 ^ E) : rdE V E = 0 := by
  unfold rdE ru
  rw [Nat.mod_eq_of_lt (by omega), decide_eq_false (by omega), if_neg (by decide)]
  omega
theorem dg_mul (K E i : Nat) : dg (K * 10 ^ E) i = if i < E then 0 else dg K (i - E) := by
  by_cases c : i < E
  · rw [if_pos c]
    unfold dg
    rw [show 10 ^ E = 10 ^ i * (10 * 10 ^ (E - i - 1)) from by
      rw [show 10 * 10 ^ (E - i - 1) = 10 ^ (E - i - 1 + 1) from by rw [Nat.pow_succ]; omega, ← Nat.pow_add]
      congr 1
      omega, Nat.mul_left_comm, Nat.mul_div_cancel_left _ (ten_pos i), Nat.mul_left_comm, Nat.mul_mod_right]
  · rw [if_neg c]
    unfold dg
    rw [show 10 ^ i = 10 ^ (i - E) * 10 ^ E from by rw [← Nat.pow_add]; congr 1; omega, Nat.mul_div_mul_right _ _ (ten_pos E)]
/-- V has the digits that the reference expanded -/
def Xp (V : Nat) (ex : Nat → Int32) (L : Nat) (pt : Int) : Prop :=
  L ≤ 1200 ∧ -1500 ≤ pt ∧ pt ≤ 1500 ∧ ∃ W z : Nat, V = W * 10 ^ z ∧ (z : Int) + L = 1548 + pt ∧ W < 10 ^ L ∧ Ex ex W L L ∧ (L = 0 ∨ 10 ^ (L - 1) ≤ W)
/-- what was rounded: place by place -/
def Rt (R : Nat) (rl : Int32) (rp : Int) (rd : Nat → Int32) : Prop :=
  ∀ k : Int, -5000 ≤ k → k ≤ 5000 → f_M_roundAt rl rd (iI k) = some (nI (dgZ R (rp - 1 - k)))
theorem Rt_of {R K E n : Nat} {rp : Int} {rd : Nat → Int32} (hR : R = K * 10 ^ E) (hK : K < 10 ^ n) (hn : n ≤ 1299) (hE : (E : Int) + n = 1548 + rp ∨ K = 0) (hrd : ∀ j, j < n → rd j = nI (dg K (n - 1 - j))) (hrp : -3000 ≤ rp) (hrp2 : rp ≤ 3000) : Rt R (nI n) rp rd := by
  intro k hk hk2
  unfold f_M_roundAt
  rw [ite_c (iI_ltk 0 (by decide) (by omega) (by omega) (by decide) (by decide)), ite_c (show (nI n ≤ iI k) = ((n : Int) ≤ k) from by rw [iI_nI, iI_le (by omega) (by omega) (by omega) (by omega)])]
  rcases hE with hE | hE
  · by_cases c : k < 0
    · rw [if_pos c]
      unfold dgZ
      rw [if_neg (by omega), hR, dg_mul, if_neg (by omega), dg_high hK (by omega)]
      rfl
    · rw [if_neg c]
      by_cases d : (n : Int) ≤ k
      · rw [if_pos d]
        unfold dgZ
        by_cases g : rp - 1 - k < -1548
        · rw [if_pos g]; rfl
        · rw [if_neg g, hR, dg_mul, if_pos (by omega)]; rfl
      · obtain ⟨j, rfl⟩ : ∃ j : Nat, k = j := ⟨k.toNat, by omega⟩
        rw [if_neg d, ← iI_nI, ck_s (gin_nI (by omega) (by decide)), nI_clamp (by omega), hrd j (by omega)]
        unfold dgZ
        rw [if_neg (by omega), hR, dg_mul, if_neg (by omega)]
        congr 3
        omega
  · have z : ∀ p, dgZ R p = 0 := by
      intro p
      unfold dgZ dg
      rw [hR, hE, Nat.zero_mul, Nat.zero_div]
      split <;> rfl
    rw [z]
    by_cases c : k < 0
    · rw [if_pos c]; rfl
    · rw [if_neg c]
      by_cases d : (n : Int) ≤ k
      · rw [if_pos d]; rfl
      · obtain ⟨j, rfl⟩ : ∃ j : Nat, k = j := ⟨k.toNat, by omega⟩
        rw [if_neg d, ← iI_nI, ck_s (gin_nI (by omega) (by decide)), nI_clamp (by omega), hrd j (by omega), hE]
        unfold dg
        rw [Nat.zero_div]
theorem roundTo_V {V L : Nat} {ex : Nat → Int32} {pt : Int} (hX : Xp V ex L pt) {n : Int} (hn : -1500 ≤ n) (hn2 : n ≤ 1200) {Er : Nat} (hEr : (Er : Int) = 1548 + pt - n) (rl0 rp0 : Int32) (rd : Nat → Int32) :
    ∃ (rl : Int32) (rp : Int) (rd' : Nat → Int32), f_M_roundTo (nI L) (iI pt) rl0 rp0 ex rd (iI n) = some (rl, iI rp, rd') ∧ Rt (rdE V Er) rl rp rd' ∧ rdE V Er < 10 ^ (1548 + rp).toNat ∧ ((1 ≤ n ∨ pt < rp) → V ≠ 0 → 10 ^ (1547 + rp).toNat ≤ rdE V Er) ∧ pt ≤ rp ∧ rp ≤ pt + 1 := by
  obtain ⟨hL, hp1, hp2, W, z, hV, hz, hW, hE, hW1⟩ := hX
  have hpz := ten_pos z
  by_cases c0 : n < 0
  · have hVlt : V < 10 ^ (z + L) := by
      rw [hV, Nat.pow_add, Nat.mul_comm]
      exact Nat.mul_lt_mul_of_pos_left hW hpz
    have h10 : 10 * 10 ^ (z + L) ≤ 10 ^ Er := by
      rw [show 10 * 10 ^ (z + L) = 10 ^ (z + L + 1) from by rw [Nat.pow_succ]; omega]
      exact ten_le (by omega)
    have hR0 : rdE V Er = 0 := rdE_small (by omega)
    refine ⟨nI 0, pt, rd, ?_, ?_, ?_, fun h => absurd h (by omega), by omega, by omega⟩
    · unfold f_M_roundTo f_M_roundTo_10
      rw [if_neg (by rw [iI_kle 0 (by decide) (by omega) (by omega) (by decide) (by decide)]; omega)]
      show f_M_roundTo_23b _ _ _ _ _ _ _ _ _ = _
      unfold f_M_roundTo_23b f_M_roundTo_61
      rw [if_pos (by decide), if_pos (by rw [iI_ltk 0 (by decide) (by omega) (by omega) (by decide) (by decide)]; exact c0)]
      rfl
    · rw [hR0]
      exact Rt_of (K := 0) (E := 0) (n := 0) rfl (by decide) (by decide) (Or.inr rfl) (fun j hj => absurd hj (by omega)) (by omega) (by omega)
    · rw [hR0]; exact ten_pos _
  · obtain ⟨k, rfl⟩ : ∃ k : Nat, n = k := ⟨n.toNat, by omega⟩
    by_cases c1 : k < L
    · obtain ⟨c, rd', d1, d2, d3, d4, d5⟩ := roundTo_mid (pt := pt) hL c1 hE hW rl0 rp0 rd
      have hRK : rdE V Er = (W / 10 ^ (L - k) + if ru W (L - k) then 1 else 0) * 10 ^ Er := by
        rw [hV, show Er = (L - k) + z from by omega, rdE_scale, rdE_div, Nat.mul_assoc, ← Nat.pow_add]
      have hKlow : (1 ≤ k ∨ c = 1) → 10 ^ (k + c - 1) ≤ (W / 10 ^ (L - k) + if ru W (L - k) then 1 else 0) := by
        intro hk
        by_cases hc : c = 1
        · rw [d4 hc, hc]
          exact ten_le (by omega)
        · rw [show c = 0 from by omega]
          have hw : 10 ^ (L - 1) ≤ W := by
            rcases hW1 with q | q
            · omega
            · exact q
          have : 10 ^ (k - 1) ≤ W / 10 ^ (L - k) := by
            rw [Nat.le_div_iff_mul_le (ten_pos _), ← Nat.pow_add, show k - 1 + (L - k) = L - 1 from by omega]
            exact hw
          rw [show k + 0 - 1 = k - 1 from rfl]
          exact Nat.le_trans this (Nat.le_add_right _ _)
      generalize (W / 10 ^ (L - k) + if ru W (L - k) then 1 else 0) = K at *
      refine ⟨nI (k + c), pt + c, rd', by rw [← iI_nI]; exact d2, ?_, ?_, ?_, by omega, by omega⟩
      · exact Rt_of hRK d3 (by omega) (Or.inl (by omega)) d5 (by omega) (by omega)
      · rw [hRK, show (1548 + (pt + (c : Int))).toNat = (k + c) + Er from by omega, Nat.pow_add]
        exact Nat.mul_lt_mul_of_pos_right d3 (ten_pos Er)
      · intro h1 _
        rw [hRK, show (1547 + (pt + (c : Int))).toNat = (k + c - 1) + Er from by omega, Nat.pow_add]
        exact Nat.mul_le_mul_right _ (hKlow (by omega))
    · have hdv : 10 ^ Er ∣ V := by
        rw [hV]
        exact Nat.dvd_trans (Nat.pow_dvd_pow 10 (show Er ≤ z by omega)) (Nat.dvd_mul_left _ _)
      have hRV : rdE V Er = V := rdE_dvd hdv
      obtain ⟨rd1, e1, h1⟩ := rt23 (iI pt) (iI pt) (nI k) (n := k) (by omega) (by omega) hE k 0 fu rd (by omega) (by unfold fu; omega) (fun j hj => absurd hj (by omega))
      have hVK : V = W * 10 ^ (k - L) * 10 ^ Er := by
        rw [hV, Nat.mul_assoc, ← Nat.pow_add]
        congr 2
        omega
      have hK : W * 10 ^ (k - L) < 10 ^ k := by
        rw [show 10 ^ k = 10 ^ L * 10 ^ (k - L) from by rw [← Nat.pow_add]; congr 1; omega]
        exact Nat.mul_lt_mul_of_pos_right hW (ten_pos _)
      refine ⟨nI k, pt, rd1, ?_, ?_, ?_, ?_, by omega, by omega⟩
      · unfold f_M_roundTo f_M_roundTo_10
        rw [← iI_nI, if_pos (nI_pos' (by omega)), show (0 : Int32) = nI 0 from rfl, e1]
        unfold f_M_roundTo_61
        rw [if_neg (nI_pos (by omega)), if_neg (nI_nlt (by omega) (by omega))]
      · rw [hRV]
        refine Rt_of hVK hK (by omega) (Or.inl (by omega)) ?_ (by omega) (by omega)
        intro j hj
        rw [h1 j hj, dg_mul]
        by_cases d : j < L
        · rw [if_pos d, if_neg (by omega)]
          congr 2
          omega
        · rw [if_neg d, if_pos (by omega)]
      · rw [hRV, hV, show (1548 + pt).toNat = L + z from by omega, Nat.pow_add]
        exact Nat.mul_lt_mul_of_pos_right hW hpz
      · intro _ hV0
        rw [hRV]
        have hw : L ≠ 0 ∧ 10 ^ (L - 1) ≤ W := by
          rcases hW1 with q | q
          · rw [q, Nat.pow_zero] at hW
            exact absurd (by rw [hV, Nat.lt_one_iff.mp hW, Nat.zero_mul] : V = 0) hV0
          · refine ⟨?_, q⟩
            intro w
            rw [w, Nat.pow_zero] at hW
            exact absurd (by rw [hV, Nat.lt_one_iff.mp hW, Nat.zero_mul] : V = 0) hV0
        rw [hV, show (1547 + pt).toNat = (L - 1) + z from by omega, Nat.pow_add]
        exact Nat.mul_le_mul_right _ hw.2

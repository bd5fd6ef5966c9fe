/-! the reference's large numbers: shifts, comparison, difference -/
theorem lw_up (V j : Nat) : lw (V * 1073741824) (j + 1) = lw V j ∧ lw (V * 1073741824) 0 = 0 := by
  constructor
  · unfold lw
    rw [QB_s, Nat.mul_div_mul_right _ _ (by decide)]
  · unfold lw
    rw [QB_0, Nat.div_one, Nat.mul_mod_left]
theorem up17 {k5 : (Nat → Int32) → Int32 → Int32 → Int32 → Option (Int32 × (Nat → Int32))} {V m : Nat} (hm : m < 400) (y2 y4 : Int32) : ∀ (t f : Nat) (a : Nat → Int32), t ≤ m → t < f → (∀ j, j < 400 → a j = nI (if t < j ∧ j ≤ m then lw V (j - 1) else lw V j)) →
    ∃ a', f_M_up_17 k5 f a y2 (nI m) y4 (nI t) = f_M_up_38 k5 a' y2 (nI m) y4 ∧ (∀ j, j < 400 → a' j = nI (if 0 < j ∧ j ≤ m then lw V (j - 1) else lw V j)) := by
  intro t
  induction t with
  | zero =>
    intro f a h hf ha
    obtain ⟨f, rfl⟩ : ∃ j, f = j + 1 := ⟨f - 1, by omega⟩
    refine ⟨a, ?_, ha⟩
    show f_M_up_17b _ _ _ _ _ _ _ = _
    unfold f_M_up_17b
    rw [if_pos (by decide)]
  | succ t ih =>
    intro f a h hf ha
    obtain ⟨f, rfl⟩ : ∃ j, f = j + 1 := ⟨f - 1, by omega⟩
    show ∃ a', f_M_up_17b _ _ _ _ _ _ _ = _ ∧ _
    unfold f_M_up_17b
    rw [if_neg (nI_nle (by omega) (by omega)), nI_pred, ck_s (gin_nI (by omega) (by decide)), ck_s (gin_nI (by omega) (by decide)), bd_s, bd_s, nI_clamp (by omega), nI_clamp (by omega), show nI (t + 1) + (-1 : Int32) = nI t from by rw [sub_one _ (by omega), iI_nI]; congr 1; omega]
    refine ih f _ (by omega) (by omega) ?_
    intro j hj
    unfold upd
    by_cases c : j = t + 1
    · rw [if_pos c, if_pos (by omega), ha t (by omega), if_neg (by omega), c]
      rfl
    · rw [if_neg c, ha j hj]
      by_cases d : t + 1 < j ∧ j ≤ m
      · rw [if_pos d, if_pos (by omega)]
      · rw [if_neg d, if_neg (by omega)]
theorem up5 {b : Nat} (hb : b < 2147483648) : ∀ (c k f m V : Nat) (a : Nat → Int32), k + c = b / 30 → c < f → m + c < 400 → 1 ≤ m → Al a V → Sz m V →
    ∃ a', f_M_up_5 f a (nI b) (nI m) (nI k) = f_M_up_51 a' (nI b) (nI (m + c)) ∧ Al a' (V * QB c) ∧ Sz (m + c) (V * QB c) := by
  have e30 : nI b / (30 : Int32) = nI (b / 30) := by
    rw [iI_nI, show (30 : Int32) = iI 30 from by decide, iI_div (by omega) (by omega) (by decide) (by decide), iI_nI]
    congr 1
  intro c
  induction c with
  | zero =>
    intro k f m V a h hf hm hm1 hA hS
    obtain ⟨f, rfl⟩ : ∃ j, f = j + 1 := ⟨f - 1, by omega⟩
    refine ⟨a, ?_, by rw [QB_0, Nat.mul_one]; exact hA, by rw [QB_0, Nat.mul_one]; exact hS⟩
    show f_M_up_5b _ _ _ _ _ = _
    unfold f_M_up_5b
    rw [e30, if_pos (nI_le (by omega) (by omega))]
    rfl
  | succ c ih =>
    intro k f m V a h hf hm hm1 hA hS
    obtain ⟨f, rfl⟩ : ∃ j, f = j + 1 := ⟨f - 1, by omega⟩
    show ∃ a', f_M_up_5b _ _ _ _ _ = _ ∧ _
    unfold f_M_up_5b
    rw [e30, if_neg (nI_ge (by omega) (by omega))]
    obtain ⟨a1, e1, h1⟩ := up17 (k5 := f_M_up_5 f) (V := V) (m := m) (by omega) (nI b) (nI k) m fu a (Nat.le_refl _) (by unfold fu; omega) (by
      intro j hj
      rw [if_neg (by omega)]
      exact hA j hj)
    rw [e1]
    unfold f_M_up_38
    rw [ck_s (show gin (0 : Int32) 400 from gin_nI (n := 0) (by decide) (by decide)), bd_s, bd_s, bd_s, nI_1, nI_1, show (0 : Int32).toNatClampNeg = 0 from rfl]
    have hA1 : Al (upd a1 0 0) (V * 1073741824) := by
      intro j hj
      unfold upd
      by_cases q : j = 0
      · rw [if_pos q, q, (lw_up V 0).2]
        rfl
      · rw [if_neg q, h1 j hj]
        obtain ⟨i, rfl⟩ : ∃ i, j = i + 1 := ⟨j - 1, by omega⟩
        rw [(lw_up V i).1]
        by_cases d : 0 < i + 1 ∧ i + 1 ≤ m
        · rw [if_pos d]
          rfl
        · rw [if_neg d, lw_hi hS.1 (by omega), lw_hi hS.1 (by omega)]
    have hS1 : Sz (m + 1) (V * 1073741824) := by
      refine ⟨?_, ?_⟩
      · rw [QB_s]
        exact Nat.mul_lt_mul_of_pos_right hS.1 (by decide)
      · intro _
        rw [show m + 1 - 1 = m - 1 + 1 from by omega, QB_s]
        exact Nat.mul_le_mul_right _ (hS.2 (by omega))
    obtain ⟨a2, e2, h2, h3⟩ := ih (k + 1) f (m + 1) (V * 1073741824) (upd a1 0 0) (by omega) (by omega) (by omega) (by omega) hA1 hS1
    rw [show V * 1073741824 * QB c = V * QB (c + 1) from by rw [QB_s, Nat.mul_assoc, Nat.mul_comm (QB c)]] at h2 h3
    rw [show m + 1 + c = m + (c + 1) from by omega] at e2 h3
    exact ⟨a2, e2, h2, h3⟩
theorem shl1 : ∀ t : Nat, t < 30 → ((1 : Int32) <<< (nI t &&& 31)) = nI (2 ^ t) := by decide +kernel
theorem up_eq {a : Nat → Int32} {n V b : Nat} (hb : n + b / 30 + 1 < 400) (hn : 1 ≤ n) (hA : Al a V) (hS : Sz n V) :
    ∃ n' a', n' ≤ n + b / 30 + 1 ∧ f_M_up a (nI n) (nI b) = some (nI n', a') ∧ Al a' (V * 2 ^ b) ∧ Sz n' (V * 2 ^ b) := by
  unfold f_M_up
  obtain ⟨a1, e1, h1, h2⟩ := up5 (b := b) (by omega) (b / 30) 0 fu n V a (by omega) (by unfold fu; omega) (by omega) hn hA hS
  have hr : b % 30 < 30 := Nat.mod_lt _ (by decide)
  have hp : 2 ^ (b % 30) ≤ 2 ^ 29 := Nat.pow_le_pow_right (by decide) (by omega)
  obtain ⟨n', a', q1, q2, q3, q4⟩ := mulq_eq (M := 2 ^ (b % 30)) (e := 0) (by omega) (by omega) (Nat.two_pow_pos _) h1 h2
  rw [show (0 : Int32) = nI 0 from rfl, e1]
  unfold f_M_up_51
  rw [show (30 : Int32) = nI 30 from rfl, irm_nI (by omega) (by decide) (by decide), shl1 _ hr, show (0 : Int32) = nI 0 from rfl, q2, bi2_s]
  have e2 : V * QB (b / 30) * 2 ^ (b % 30) + 0 = V * 2 ^ b := by
    rw [QB_two, Nat.mul_assoc, ← Nat.pow_add, Nat.div_add_mod, Nat.add_zero]
  rw [e2] at q3 q4
  exact ⟨n', a', by omega, rfl, q3, q4⟩
/-- half -/
theorem or29 {x h : Nat} (hx : x < 536870912) (hh : h < 2) : (nI x ||| (nI h <<< ((29 : Int32) &&& 31))) = nI (x + h * 536870912) := by
  have e1 : nI h <<< ((29 : Int32) &&& 31) = nI (h * 536870912) := by
    rcases (by omega : h = 0 ∨ h = 1) with q | q <;> subst q <;> decide
  rw [e1]
  apply Int32.toBitVec_inj.mp
  apply BitVec.eq_of_toNat_eq
  rw [Int32.toBitVec_or, BitVec.toNat_or, pk_tn (by omega), pk_tn (by omega), pk_tn (by omega), Nat.or_comm, Nat.mul_comm, show (536870912 : Nat) = 2 ^ 29 from rfl, ← Nat.two_pow_add_eq_or_of_lt (by omega)]
  omega
theorem lw_half (V k : Nat) : lw (V / 2) k = lw V k / 2 + lw V (k + 1) % 2 * 536870912 := by
  unfold lw
  rw [QB_s, ← Nat.div_div_eq_div_mul, show V / 2 / QB k = V / QB k / 2 from by rw [Nat.div_div_eq_div_mul, Nat.mul_comm, ← Nat.div_div_eq_div_mul]]
  generalize V / QB k = X
  omega
theorem half2 {V n : Nat} (hn : n ≤ 400) (hV : V < QB n) : ∀ (m k f : Nat) (a : Nat → Int32), k + m = n → m < f → (∀ j, j < 400 → a j = nI (if j < k then lw (V / 2) j else lw V j)) →
    ∃ a', f_M_half_2 f a (nI n) (nI k) = some a' ∧ Al a' (V / 2) := by
  intro m
  induction m with
  | zero =>
    intro k f a h hf ha
    obtain ⟨f, rfl⟩ : ∃ j, f = j + 1 := ⟨f - 1, by omega⟩
    have : k = n := by omega
    subst this
    refine ⟨a, ?_, ?_⟩
    · show f_M_half_2b _ _ _ _ = _
      unfold f_M_half_2b
      rw [if_pos (Int32.le_refl _)]
    · intro j hj
      rw [ha j hj]
      by_cases c : j < k
      · rw [if_pos c]
      · rw [if_neg c, lw_hi hV (by omega), lw_hi (n := k) (by omega) (by omega)]
  | succ m ih =>
    intro k f a h hf ha
    obtain ⟨f, rfl⟩ : ∃ j, f = j + 1 := ⟨f - 1, by omega⟩
    have hl := lw_lt V k
    have hl1 := lw_lt V (k + 1)
    have hh := lw_half V k
    have key : ∀ z : Nat, z = lw V (k + 1) % 2 → ∃ a', f_M_half_25 (f_M_half_2 f) a (nI n) (nI k) (nI z) = some a' ∧ Al a' (V / 2) := by
      intro z hz
      unfold f_M_half_25
      rw [ck_s (gin_nI (by omega) (by decide)), ck_s (gin_nI (by omega) (by decide)), bd_s, bd_s, nI_clamp (by omega), ha k (by omega), if_neg (by omega), show (1 : Int32) &&& 31 = nI 1 &&& 31 from rfl, nI_shr (by omega) (by decide), or29 (by omega) (by omega), nI_1]
      refine ih (k + 1) f _ (by omega) (by omega) ?_
      intro j hj
      unfold upd
      by_cases c : j = k
      · rw [if_pos c, if_pos (by omega), c, hh, hz]
      · rw [if_neg c, ha j hj]
        by_cases d : j < k
        · rw [if_pos d, if_pos (by omega)]
        · rw [if_neg d, if_neg (by omega)]
    show ∃ a', f_M_half_2b _ _ _ _ = _ ∧ _
    unfold f_M_half_2b
    rw [if_neg (nI_ge (by omega) (by omega)), nI_1, ite_c (propext (nI_leI (by omega) (by omega)))]
    by_cases c : n ≤ k + 1
    · rw [if_pos c]
      exact key 0 (by rw [lw_hi hV c])
    · rw [if_neg c, ck_s (gin_nI (by omega) (by decide)), nI_clamp (by omega), ha (k + 1) (by omega), if_neg (by omega), pk_andN (by omega) 1 (by decide)]
      exact key _ rfl
theorem half_eq {V n : Nat} {a : Nat → Int32} (hn : n ≤ 400) (hV : V < QB n) (hA : Al a V) : ∃ a', f_M_half a (nI n) = some a' ∧ Al a' (V / 2) :=
  half2 hn hV n 0 fu a (by omega) (by unfold fu; omega) (by
    intro j hj
    rw [if_neg (by omega)]
    exact hA j hj)
theorem lw_step (V t : Nat) : V / QB t = V / QB (t + 1) * 1073741824 + lw V t := by
  unfold lw
  rw [QB_s, ← Nat.div_div_eq_div_mul]
  generalize V / QB t = X
  omega
theorem enough4 {A B : Nat} {a b : Nat → Int32} (hA : Al a A) (hB : Al b B) : ∀ (t f : Nat), t ≤ 400 → t < f → A / QB t = B / QB t → f_M_isEnough_4 f a b (iI ((t : Int) - 1)) = some (bz (decide (B ≤ A))) := by
  intro t
  induction t with
  | zero =>
    intro f ht hf h
    obtain ⟨f, rfl⟩ : ∃ j, f = j + 1 := ⟨f - 1, by omega⟩
    rw [QB_0, Nat.div_one, Nat.div_one] at h
    rw [h, decide_eq_true (Nat.le_refl _)]
    show f_M_isEnough_4b _ _ _ _ = _
    unfold f_M_isEnough_4b
    rw [if_pos (by decide)]
    rfl
  | succ t ih =>
    intro f ht hf h
    obtain ⟨f, rfl⟩ : ∃ j, f = j + 1 := ⟨f - 1, by omega⟩
    have hlA := lw_lt A t
    have hlB := lw_lt B t
    have sA := lw_step A t
    have sB := lw_step B t
    show f_M_isEnough_4b _ _ _ _ = _
    unfold f_M_isEnough_4b
    rw [show ((t + 1 : Nat) : Int) - 1 = (t : Int) from by omega, ← iI_nI, if_neg (nI_pos (by omega)), ck_s (gin_nI (by omega) (by decide)), ck_s (gin_nI (by omega) (by decide)), nI_clamp (by omega), hA t (by omega), hB t (by omega), ite_c (propext (nI_eq (by omega) (by omega)))]
    by_cases c : lw A t = lw B t
    · rw [if_pos c, bd_s, show nI t + (-1 : Int32) = iI ((t : Int) - 1) from by rw [show (-1 : Int32) = iI (-1) from by decide, iI_nI, iI_add]; congr 1]
      exact ih f (by omega) (by omega) (by rw [sA, sB, h, c])
    · rw [if_neg c]
      unfold f_M_isEnough_17
      rw [ck_s (gin_nI (by omega) (by decide)), ck_s (gin_nI (by omega) (by decide)), nI_clamp (by omega), hA t (by omega), hB t (by omega), ite_c (propext (nI_leI (by omega) (by omega)))]
      by_cases d : lw A t ≤ lw B t
      · have : A / QB t < B / QB t := by rw [sA, sB, h]; omega
        have hlt : A < B := by
          rcases Nat.lt_or_ge A B with z | z
          · exact z
          · have := Nat.div_le_div_right (c := QB t) z
            omega
        rw [if_pos d, decide_eq_false (by omega)]
        rfl
      · have : B / QB t < A / QB t := by rw [sA, sB, h]; omega
        have hlt : B < A := by
          rcases Nat.lt_or_ge B A with z | z
          · exact z
          · have := Nat.div_le_div_right (c := QB t) z
            omega
        rw [if_neg d, decide_eq_true (by omega)]
        rfl
theorem enough_eq {A B n : Nat} {a b : Nat → Int32} (hn : n ≤ 400) (hA : Al a A) (hB : Al b B) (h1 : A < QB n) (h2 : B < QB n) : f_M_isEnough a b (nI n) = some (bz (decide (B ≤ A))) := by
  unfold f_M_isEnough
  rw [bd_s, iI_nI, show (1 : Int32) = iI 1 from by decide, iI_sub]
  exact enough4 hA hB n fu hn (by unfold fu; omega) (by rw [Nat.div_eq_of_lt h1, Nat.div_eq_of_lt h2])
/-- difference -/
theorem sub_key (A B Q : Nat) (hQ : 0 < Q) (h : B ≤ A) (c : Nat) (hc : c = if A % Q < B % Q then 1 else 0) :
    (((A - B) / Q : Nat) : Int) = ((A / Q : Nat) : Int) - ((B / Q : Nat) : Int) - c := by
  have a1 := Nat.div_add_mod A Q
  have a2 := Nat.div_add_mod B Q
  have a3 := Nat.mod_lt A hQ
  have a4 := Nat.mod_lt B hQ
  by_cases d : A % Q < B % Q
  · rw [if_pos d] at hc
    have hlt : B / Q < A / Q := by
      rcases Nat.lt_or_ge (B / Q) (A / Q) with z | z
      · exact z
      · have : Q * (A / Q) ≤ Q * (B / Q) := Nat.mul_le_mul_left _ z
        omega
    have e : A - B = Q * (A / Q - B / Q - 1) + (A % Q + Q - B % Q) := by
      have : Q * (A / Q) = Q * (A / Q - B / Q - 1) + Q * (B / Q) + Q := by
        rw [← Nat.mul_add, ← Nat.mul_succ]
        congr 1
        omega
      omega
    rw [e, Nat.mul_add_div hQ, Nat.div_eq_of_lt (by omega : A % Q + Q - B % Q < Q)]
    omega
  · rw [if_neg d] at hc
    have hle : B / Q ≤ A / Q := Nat.div_le_div_right h
    have e : A - B = Q * (A / Q - B / Q) + (A % Q - B % Q) := by
      have : Q * (A / Q) = Q * (A / Q - B / Q) + Q * (B / Q) := by
        rw [← Nat.mul_add]
        congr 1
        omega
      omega
    rw [e, Nat.mul_add_div hQ, Nat.div_eq_of_lt (by omega : A % Q - B % Q < Q)]
    omega
theorem sub_borrow (A B Q : Nat) (hQ : 0 < Q) (c : Nat) (hc : c = if A % Q < B % Q then 1 else 0) :
    (A % (Q * 1073741824) < B % (Q * 1073741824)) ↔ (((A / Q % 1073741824 : Nat) : Int) - ((B / Q % 1073741824 : Nat) : Int) - c < 0) := by
  rw [Nat.mod_mul, Nat.mod_mul]
  have a3 := Nat.mod_lt A hQ
  have a4 := Nat.mod_lt B hQ
  generalize A / Q % 1073741824 = x
  generalize B / Q % 1073741824 = y
  rcases Nat.lt_trichotomy x y with d | d | d
  · have : Q * (x + 1) ≤ Q * y := Nat.mul_le_mul_left _ d
    rw [Nat.mul_add, Nat.mul_one] at this
    constructor
    · intro _; omega
    · intro _; omega
  · subst d
    by_cases g : A % Q < B % Q
    · rw [if_pos g] at hc
      constructor
      · intro _; omega
      · intro _; omega
    · rw [if_neg g] at hc
      constructor
      · intro _; omega
      · intro _; omega
  · have : Q * (y + 1) ≤ Q * x := Nat.mul_le_mul_left _ d
    rw [Nat.mul_add, Nat.mul_one] at this
    have hc2 : c ≤ 1 := by rw [hc]; split <;> omega
    constructor
    · intro _; omega
    · intro _; omega
theorem subq5 {A B n : Nat} {b : Nat → Int32} (hn : n ≤ 400) (hB : Al b B) (hle : B ≤ A) (hAn : A < QB n) : ∀ (m k f : Nat) (a : Nat → Int32) (c : Nat), k + m = n → m < f → c = (if A % QB k < B % QB k then 1 else 0) → (∀ j, j < 400 → a j = nI (if j < k then lw (A - B) j else lw A j)) →
    ∃ a', f_M_subtract_5 f a b (nI n) (nI c) (nI k) = some a' ∧ Al a' (A - B) := by
  intro m
  induction m with
  | zero =>
    intro k f a c h hf hc ha
    obtain ⟨f, rfl⟩ : ∃ j, f = j + 1 := ⟨f - 1, by omega⟩
    have : k = n := by omega
    subst this
    refine ⟨a, ?_, ?_⟩
    · show f_M_subtract_5b _ _ _ _ _ _ = _
      unfold f_M_subtract_5b
      rw [if_pos (Int32.le_refl _)]
    · intro j hj
      rw [ha j hj]
      by_cases d : j < k
      · rw [if_pos d]
      · rw [if_neg d, lw_hi hAn (by omega), lw_hi (n := k) (by omega) (by omega)]
  | succ m ih =>
    intro k f a c h hf hc ha
    obtain ⟨f, rfl⟩ : ∃ j, f = j + 1 := ⟨f - 1, by omega⟩
    have hlA := lw_lt A k
    have hlB := lw_lt B k
    have hak : a k = nI (lw A k) := by rw [ha k (by omega), if_neg (by omega)]
    have k1 := sub_key A B (QB k) (QB_pos k) hle c hc
    have k2 := sub_borrow A B (QB k) (QB_pos k) c hc
    have hc2 : c ≤ 1 := by rw [hc]; split <;> omega
    rw [← QB_s] at k2
    rw [show A / QB k % 1073741824 = lw A k from rfl, show B / QB k % 1073741824 = lw B k from rfl] at k2
    have hd : nI (lw A k) - nI (lw B k) - nI c = iI ((lw A k : Int) - (lw B k : Int) - c) := by
      rw [iI_nI, iI_nI, iI_nI, iI_sub, iI_sub]
    have hw : (iI ((lw A k : Int) - (lw B k : Int) - c) &&& (1073741823 : Int32)) = nI (lw (A - B) k) := by
      have := iI_mask ((lw A k : Int) - (lw B k : Int) - c) 30 (by decide)
      rw [show iI ((2 ^ 30 - 1 : Nat) : Int) = (1073741823 : Int32) from by decide] at this
      rw [this, iI_nI]
      congr 1
      unfold lw
      rw [show ((2 ^ 30 : Nat) : Int) = 1073741824 from by decide]
      generalize (A - B) / QB k = X at *
      generalize A / QB k = Y at *
      generalize B / QB k = Z at *
      omega
    have key : ∀ c2 : Nat, c2 = (if A % QB (k + 1) < B % QB (k + 1) then 1 else 0) → ∃ a', f_M_subtract_34 (f_M_subtract_5 f) a b (nI n) (nI k) (iI ((lw A k : Int) - (lw B k : Int) - c)) (nI c2) = some a' ∧ Al a' (A - B) := by
      intro c2 hc2
      unfold f_M_subtract_34
      rw [ck_s (gin_nI (by omega) (by decide)), bd_s, bd_s, nI_clamp (by omega), hw, nI_1]
      refine ih (k + 1) f _ c2 (by omega) (by omega) hc2 ?_
      intro j hj
      unfold upd
      by_cases d : j = k
      · rw [if_pos d, if_pos (by omega), d]
      · rw [if_neg d, ha j hj]
        by_cases g : j < k
        · rw [if_pos g, if_pos (by omega)]
        · rw [if_neg g, if_neg (by omega)]
    show ∃ a', f_M_subtract_5b _ _ _ _ _ _ = _ ∧ _
    unfold f_M_subtract_5b
    rw [if_neg (nI_ge (by omega) (by omega)), ck_s (gin_nI (by omega) (by decide)), ck_s (gin_nI (by omega) (by decide)), bd_s, nI_clamp (by omega), hak, hB k (by omega), hd, ite_c (iI_kle 0 (by decide) (by omega) (by omega) (by decide) (by decide))]
    by_cases d : A % QB (k + 1) < B % QB (k + 1)
    · have := k2.mp d
      rw [if_neg (by omega)]
      exact key 1 (by rw [if_pos d])
    · have : ¬ ((lw A k : Int) - (lw B k : Int) - c < 0) := fun z => d (k2.mpr z)
      rw [if_pos (by omega)]
      exact key 0 (by rw [if_neg d])
theorem subq_eq {A B n : Nat} {a b : Nat → Int32} (hn : n ≤ 400) (hA : Al a A) (hB : Al b B) (hle : B ≤ A) (hAn : A < QB n) : ∃ a', f_M_subtract a b (nI n) = some a' ∧ Al a' (A - B) := by
  unfold f_M_subtract
  refine subq5 hn hB hle hAn n 0 fu a 0 (by omega) (by unfold fu; omega) ?_ ?_
  · rw [QB_0, Nat.mod_one, Nat.mod_one, if_neg (by decide)]
  · intro j hj
    rw [if_neg (by omega)]
    exact hA j hj

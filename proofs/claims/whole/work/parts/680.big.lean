/-! the reference's large numbers: limbs of 30 bits, lowest first -/
def QB (k : Nat) : Nat := 1073741824 ^ k
theorem QB_0 : QB 0 = 1 := rfl
theorem QB_s (k : Nat) : QB (k + 1) = QB k * 1073741824 := Nat.pow_succ _ _
theorem QB_pos (k : Nat) : 0 < QB k := Nat.pow_pos (by decide)
theorem QB_add (a b : Nat) : QB (a + b) = QB a * QB b := Nat.pow_add _ _ _
theorem QB_le {a b : Nat} (h : a ≤ b) : QB a ≤ QB b := Nat.pow_le_pow_right (by decide) h
theorem QB_two (k : Nat) : QB k = 2 ^ (30 * k) := by
  unfold QB
  rw [Nat.pow_mul]
theorem QB_div (X a b : Nat) : X / QB (a + b) = X / QB a / QB b := by rw [QB_add, Nat.div_div_eq_div_mul]
def lw (V j : Nat) : Nat := V / QB j % 1073741824
theorem lw_lt (V j : Nat) : lw V j < 1073741824 := Nat.mod_lt _ (by decide)
theorem lw_0 (j : Nat) : lw 0 j = 0 := by unfold lw; rw [Nat.zero_div]
theorem lw_hi {V n j : Nat} (h : V < QB n) (hj : n ≤ j) : lw V j = 0 := by
  unfold lw
  rw [Nat.div_eq_of_lt (Nat.lt_of_lt_of_le h (QB_le hj))]
def Al (a : Nat → Int32) (V : Nat) : Prop := ∀ j, j < 400 → a j = nI (lw V j)
def Sz (n V : Nat) : Prop := V < QB n ∧ (n ≠ 0 → QB (n - 1) ≤ V)
theorem Sz_0 : Sz 0 0 := ⟨by decide, fun h => absurd rfl h⟩
theorem Sz_lt {n V k : Nat} (h : Sz n V) (hV : V < QB k) : n ≤ k := by
  rcases Nat.lt_or_ge k n with c | c
  · have h1 := h.2 (by omega)
    have := QB_le (show k ≤ n - 1 by omega)
    omega
  · exact c
theorem Sz_z {n V : Nat} (h : Sz n V) : n = 0 ↔ V = 0 := by
  constructor
  · intro q
    subst q
    have := h.1
    rw [QB_0] at this
    omega
  · intro q
    rcases Nat.eq_zero_or_pos n with c | c
    · exact c
    · have h1 := h.2 (by omega)
      have := QB_pos (n - 1)
      omega
theorem mulq_key (V M e Q : Nat) (hQ : 0 < Q) : (V * M + e) / Q % 1073741824 = ((V / Q % 1073741824) * M + (V % Q * M + e) / Q) % 1073741824 ∧ (V % (Q * 1073741824) * M + e) / (Q * 1073741824) = ((V / Q % 1073741824) * M + (V % Q * M + e) / Q) / 1073741824 := by
  have e1 : V * M + e = Q * (V / Q * M) + (V % Q * M + e) := by
    rw [← Nat.add_assoc, ← Nat.mul_assoc, ← Nat.add_mul, Nat.div_add_mod]
  constructor
  · rw [e1, Nat.mul_add_div hQ]
    generalize (V % Q * M + e) / Q = c
    generalize V / Q = A
    have e2 : A * M + c = 1073741824 * (A / 1073741824 * M) + (A % 1073741824 * M + c) := by
      rw [← Nat.add_assoc, ← Nat.mul_assoc, ← Nat.add_mul, Nat.div_add_mod]
    rw [e2, Nat.mul_add_mod]
  · rw [Nat.mod_mul, ← Nat.div_div_eq_div_mul, Nat.add_mul, Nat.mul_assoc, Nat.add_comm (V % Q * M), Nat.add_assoc, Nat.mul_add_div hQ]
theorem carryq_lt (V M e Q : Nat) (hQ : 0 < Q) (he : e < M) : (V % Q * M + e) / Q < M := by
  rw [Nat.div_lt_iff_lt_mul hQ, Nat.mul_comm M Q]
  have h := Nat.mod_lt V hQ
  have h2 : (V % Q + 1) * M ≤ Q * M := Nat.mul_le_mul_right _ h
  rw [Nat.add_mul, Nat.one_mul] at h2
  omega
theorem mask30 (x : Nat) : (lN x &&& (1073741823 : Int64)) = lN (x % 1073741824) := by
  have := jJ_mask (x : Int) 30 (by decide)
  rw [show ((2 ^ 30 - 1 : Nat) : Int) = 1073741823 from by decide, show jJ 1073741823 = (1073741823 : Int64) from by decide, ← jJ_lN] at this
  rw [this, jJ_lN]
  congr 1
theorem shr30 {x : Nat} (h : x < 9223372036854775808) : lsr (lN x) (30 : Int32) = lN (x / 1073741824) := by
  have := jJ_lsr (x := (x : Int)) (by omega) (by omega) (k := 30) (by decide)
  rw [← jJ_lN, show iI ((30 : Nat) : Int) = (30 : Int32) from by decide] at this
  rw [this, jJ_lN]
  congr 1
theorem mulq7 {V M e n : Nat} (hn : n ≤ 400) (hM : M ≤ 536870912) (he : e < M) : ∀ (m k f : Nat) (a : Nat → Int32), k + m = n → m < f → (∀ j, j < 400 → a j = nI (if j < k then lw (V * M + e) j else lw V j)) →
    ∃ a', f_M_multiply_7 f a (nI n) (nI M) (lN ((V % QB k * M + e) / QB k)) (nI k) = f_M_multiply_50 a' (nI n) (lN ((V % QB n * M + e) / QB n)) ∧ (∀ j, j < 400 → a' j = nI (if j < n then lw (V * M + e) j else lw V j)) := by
  intro m
  induction m with
  | zero =>
    intro k f a h hf ha
    obtain ⟨f, rfl⟩ : ∃ j, f = j + 1 := ⟨f - 1, by omega⟩
    have : k = n := by omega
    subst this
    refine ⟨a, ?_, ha⟩
    show f_M_multiply_7b _ _ _ _ _ _ = _
    unfold f_M_multiply_7b
    rw [if_pos (Int32.le_refl _)]
  | succ m ih =>
    intro k f a h hf ha
    obtain ⟨f, rfl⟩ : ∃ j, f = j + 1 := ⟨f - 1, by omega⟩
    obtain ⟨k1, k2⟩ := mulq_key V M e (QB k) (QB_pos k)
    have hc := carryq_lt V M e (QB k) (QB_pos k) he
    have hl := lw_lt V k
    have hak : a k = nI (lw V k) := by rw [ha k (by omega), if_neg (by omega)]
    have hk1 : lw (V * M + e) k = (lw V k * M + (V % QB k * M + e) / QB k) % 1073741824 := k1
    have hprod : lw V k * M ≤ 1073741823 * 536870912 := Nat.mul_le_mul (by omega) hM
    rw [show V / QB k % 1073741824 = lw V k from rfl, ← QB_s] at k2
    show ∃ a', f_M_multiply_7b _ _ _ _ _ _ = _ ∧ _
    unfold f_M_multiply_7b
    generalize (V % QB k * M + e) / QB k = c at *
    rw [if_neg (nI_ge (by omega) (by omega)), ck_s (gin_nI (by omega) (by decide)), bd_s, ck_s (gin_nI (by omega) (by decide)), bd_s, bd_s, bd_s, nI_clamp (by omega), hak, nI_l (by omega), nI_l (by omega), lN_mul, lN_add, mask30, lN_i, shr30 (by omega), nI_1, show c + lw V k * M = lw V k * M + c from Nat.add_comm _ _, ← k2]
    refine ih (k + 1) f _ (by omega) (by omega) ?_
    intro j hj
    unfold upd
    by_cases q : j = k
    · rw [if_pos q, if_pos (by omega), q, hk1]
    · rw [if_neg q, ha j hj]
      by_cases d : j < k
      · rw [if_pos d, if_pos (by omega)]
      · rw [if_neg d, if_neg (by omega)]
theorem mulq_eq {V M e n : Nat} {a : Nat → Int32} (hn : n < 400) (hM : M ≤ 536870912) (he : e < M) (hA : Al a V) (hS : Sz n V) :
    ∃ n' a', n' ≤ n + 1 ∧ f_M_multiply a (nI n) (nI M) (nI e) = some (nI n', a') ∧ Al a' (V * M + e) ∧ Sz n' (V * M + e) := by
  unfold f_M_multiply
  rw [bd_s, nI_l (by omega)]
  obtain ⟨a', e1, h1⟩ := mulq7 (V := V) (M := M) (e := e) (n := n) (by omega) hM he n 0 fu a (by omega) (by unfold fu; omega) (by
    intro j hj
    rw [if_neg (by omega)]
    exact hA j hj)
  rw [QB_0, Nat.mod_one, Nat.zero_mul, Nat.zero_add, Nat.div_one] at e1
  rw [show (0 : Int32) = nI 0 from rfl, e1]
  have hVm : V % QB n = V := Nat.mod_eq_of_lt hS.1
  rw [hVm]
  have hc := carryq_lt V M e (QB n) (QB_pos n) he
  rw [hVm] at hc
  have hw : ∀ j, n ≤ j → lw V j = 0 := fun j hj => lw_hi hS.1 hj
  unfold f_M_multiply_50
  rw [ite_c (show (lN ((V * M + e) / QB n) = (0 : Int64)) = ((V * M + e) / QB n = 0) from propext (pk_lEQ (b := 0) (by omega) (by decide)))]
  by_cases c : (V * M + e) / QB n = 0
  · have hlt : V * M + e < QB n := (Nat.div_eq_zero_iff_lt (QB_pos n)).mp c
    refine ⟨n, a', by omega, by rw [if_pos c], ?_, hlt, ?_⟩
    · intro j hj
      rw [h1 j hj]
      by_cases d : j < n
      · rw [if_pos d]
      · rw [if_neg d, hw j (by omega), lw_hi hlt (by omega)]
    · intro q
      have h2 := hS.2 q
      have : V * 1 ≤ V * M := Nat.mul_le_mul_left _ (by omega)
      omega
  · have hlt : V * M + e < QB (n + 1) := by
      rw [QB_s, Nat.mul_comm (QB n)]
      exact (Nat.div_lt_iff_lt_mul (QB_pos n)).mp (by omega)
    refine ⟨n + 1, upd a' n (nI ((V * M + e) / QB n)), by omega, ?_, ?_, hlt, ?_⟩
    · rw [if_neg c, ck_s (gin_nI hn (by decide)), bd_s, nI_clamp (by omega), lN_i, nI_1]
    · intro j hj
      unfold upd
      by_cases d : j = n
      · rw [if_pos d, d]
        congr 1
        unfold lw
        exact (Nat.mod_eq_of_lt (by omega)).symm
      · rw [if_neg d, h1 j hj]
        by_cases g : j < n
        · rw [if_pos g]
        · rw [if_neg g, hw j (by omega), lw_hi hlt (by omega)]
    · intro _
      show QB n ≤ _
      rcases Nat.lt_or_ge (V * M + e) (QB n) with z | z
      · exact absurd (Nat.div_eq_of_lt z) c
      · exact z
theorem sh5 : ∀ k : Nat, k < 32 → ((nI k &&& 31).toBitVec.smod 32).toNat = k := by decide +kernel
theorem nI_shr {x k : Nat} (hx : x < 2147483648) (hk : k < 32) : (nI x >>> (nI k &&& 31)) = nI (x / 2 ^ k) := by
  rw [iI_of (nI x >>> (nI k &&& 31)), iI_nI (x / 2 ^ k)]
  congr 1
  show ((nI x >>> (nI k &&& 31)).toBitVec).toInt = _
  rw [Int32.toBitVec_shiftRight, BitVec.sshiftRight_eq', sh5 k hk, BitVec.toInt_sshiftRight]
  show ((nI x).toInt) >>> k = _
  rw [nI_toInt (by omega), Int.shiftRight_eq_div_pow]
  rfl
theorem bits8 {a : Nat → Int32} {n x : Nat} (hn : 1 ≤ n) (hn2 : n ≤ 400) (ha : a (n - 1) = nI x) (hx : x < 1073741824) : ∀ (m t f : Nat), t + m = bl x → m < f → f_M_bits_8 f a (nI n) (nI t) = some (nI (30 * (n - 1) + bl x)) := by
  have hb : bl x ≤ 30 := bl_le_iff.mpr hx
  have e1 : nI n - (1 : Int32) = nI (n - 1) := pk_sub (b := 1) hn
  intro m
  induction m with
  | zero =>
    intro t f h hf
    obtain ⟨f, rfl⟩ : ∃ j, f = j + 1 := ⟨f - 1, by omega⟩
    have : t = bl x := by omega
    subst this
    show f_M_bits_8b _ _ _ _ = _
    unfold f_M_bits_8b f_M_bits_24
    rw [e1, ck_s (gin_nI (by omega) (by decide)), nI_clamp (by omega), ha, nI_shr (by omega) (by omega), Nat.div_eq_of_lt (bl_lt x), if_pos (show nI 0 = 0 from rfl), show (30 : Int32) = nI 30 from rfl, pk_mul, nI_add]
  | succ m ih =>
    intro t f h hf
    obtain ⟨f, rfl⟩ : ∃ j, f = j + 1 := ⟨f - 1, by omega⟩
    have hx0 : x ≠ 0 := by
      intro q
      rw [q, bl_0] at h
      omega
    have hle := bl_le hx0
    have hp : 2 ^ t ≤ 2 ^ (bl x - 1) := Nat.pow_le_pow_right (by decide) (by omega)
    have h1 : 0 < x / 2 ^ t := Nat.div_pos (by omega) (Nat.two_pow_pos t)
    have h2 : x / 2 ^ t ≤ x := Nat.div_le_self _ _
    show f_M_bits_8b _ _ _ _ = _
    unfold f_M_bits_8b
    rw [e1, ck_s (gin_nI (by omega) (by decide)), nI_clamp (by omega), ha, nI_shr (by omega) (by omega), if_neg (nI_ne0 h1 (by omega)), bd_s, nI_1]
    exact ih (t + 1) f (by omega) (by omega)
theorem bl_Sz {n V : Nat} (hS : Sz n V) (hn : 1 ≤ n) : bl V = 30 * (n - 1) + bl (lw V (n - 1)) := by
  have h1 := hS.2 (by omega)
  have h2 := hS.1
  have e : lw V (n - 1) = V / QB (n - 1) := by
    unfold lw
    apply Nat.mod_eq_of_lt
    apply Nat.div_lt_of_lt_mul
    rw [← QB_s, show n - 1 + 1 = n from by omega]
    exact h2
  rw [e]
  rw [QB_two] at h1 ⊢
  rw [bl_div h1]
  omega
theorem bits_eq {a : Nat → Int32} {n V : Nat} (hn : n ≤ 400) (hA : Al a V) (hS : Sz n V) : f_M_bits a (nI n) = some (nI (bl V)) := by
  unfold f_M_bits
  rw [ite_c (nI_eq0 (by omega))]
  by_cases c : n = 0
  · rw [if_pos c, (Sz_z hS).mp c, bl_0]
    rfl
  · rw [if_neg c, bl_Sz hS (by omega)]
    exact bits8 (x := lw V (n - 1)) (by omega) hn (hA _ (by omega)) (lw_lt _ _) (bl (lw V (n - 1))) 0 fu (by omega) (by
      have : bl (lw V (n - 1)) ≤ 30 := bl_le_iff.mpr (lw_lt _ _)
      unfold fu
      omega)

/-! the class's reader, phase by phase -/
/-- how many places from i on, of at most m, hold P one after the other -/
def rn (P : Nat → Bool) : Nat → Nat → Nat
  | 0, _ => 0
  | m + 1, i => if P i = true then rn P m (i + 1) + 1 else 0
theorem rn_le (P : Nat → Bool) : ∀ (m i : Nat), rn P m i ≤ m := by
  intro m
  induction m with
  | zero => intro i; exact Nat.le_refl 0
  | succ m ih =>
    intro i
    unfold rn
    by_cases c : P i = true
    · rw [if_pos c]; have := ih (i + 1); omega
    · rw [if_neg c]; omega
theorem rn_all (P : Nat → Bool) : ∀ (m i j : Nat), j < rn P m i → P (i + j) = true := by
  intro m
  induction m with
  | zero => intro i j h; exact absurd h (Nat.not_lt_zero _)
  | succ m ih =>
    intro i j h
    unfold rn at h
    by_cases c : P i = true
    · rw [if_pos c] at h
      cases j with
      | zero => exact c
      | succ j =>
        have := ih (i + 1) j (by omega)
        rw [show i + (j + 1) = i + 1 + j from by omega]
        exact this
    · rw [if_neg c] at h; exact absurd h (Nat.not_lt_zero _)
theorem rn_stop (P : Nat → Bool) : ∀ (m i : Nat), rn P m i < m → P (i + rn P m i) = false := by
  intro m
  induction m with
  | zero => intro i h; exact absurd h (Nat.not_lt_zero _)
  | succ m ih =>
    intro i h
    unfold rn at h ⊢
    by_cases c : P i = true
    · rw [if_pos c] at h ⊢
      have := ih (i + 1) (by omega)
      rw [show i + (rn P m (i + 1) + 1) = i + 1 + rn P m (i + 1) from by omega]
      exact this
    · rw [if_neg c, Nat.add_zero]
      simpa using c
theorem passBlanks_loop {n : Nat} (hn : n ≤ 1200) (a : Nat → Int32) : ∀ (m i f : Nat), i + m = n → m < f → f_Numeral_passBlanks_8 f (nI i) (nI n) a (nI n) = some (nI (i + rn (fun j => isBl (bt8 a j)) m i)) := by
  intro m
  induction m with
  | zero =>
    intro i f h hf
    obtain ⟨f, rfl⟩ : ∃ k, f = k + 1 := ⟨f - 1, by omega⟩
    show f_Numeral_passBlanks_8b _ _ _ _ _ = _
    unfold f_Numeral_passBlanks_8b
    rw [if_pos (nI_le (by omega) (by omega))]
    rfl
  | succ m ih =>
    intro i f h hf
    obtain ⟨f, rfl⟩ : ∃ k, f = k + 1 := ⟨f - 1, by omega⟩
    show f_Numeral_passBlanks_8b _ _ _ _ _ = _
    unfold f_Numeral_passBlanks_8b
    rw [if_neg (nI_ge (by omega) (by omega)), tape_at hn a (by omega), if_pos (by omega), bi1_s, isBlank_eq _ (bt8_lt a i), bi1_s]
    unfold rn
    by_cases c : isBl (bt8 a i) = true
    · rw [if_pos c, if_neg (by decide), bd_s, nI_1, ih (i + 1) f (by omega) (by omega), if_pos c]
      congr 2
      omega
    · rw [if_neg c, if_pos rfl, if_neg c]
      rfl
theorem passBlanks_eq {n : Nat} (hn : n ≤ 1200) (a : Nat → Int32) {i : Nat} (hi : i ≤ n) : f_Numeral_passBlanks (nI i) (nI n) a = some (nI (i + rn (fun j => isBl (bt8 a j)) (n - i) i)) := by
  unfold f_Numeral_passBlanks f_Tape_length
  rw [bi1_s]
  exact passBlanks_loop hn a (n - i) i fu (by omega) (by unfold fu; omega)
/-- a sign stands at i -/
def sgn (a : Nat → Int32) (n i : Nat) : Bool := decide (i < n) && (bt8 a i == 43 || bt8 a i == 45)
def mns (a : Nat → Int32) (n i : Nat) : Bool := decide (i < n) && bt8 a i == 45
theorem nI_eqb {b k : Nat} (hb : b < 256) (hk : k < 256) : (nI b = nI k) = ((b == k) = true) := by
  rw [propext (nI_eq (a := b) (b := k) (by omega) (by omega))]
  simp
theorem passSign_eq {n : Nat} (hn : n ≤ 1200) (a : Nat → Int32) {i : Nat} (hi : i ≤ n) : f_Numeral_passSign (nI i) (nI n) a = some (bz (mns a n i), nI (if sgn a n i then i + 1 else i)) := by
  unfold f_Numeral_passSign
  rw [tape_at hn a (by omega), bi1_s]
  unfold f_Numeral_passSign_24 f_Numeral_passSign_34
  by_cases c : i < n
  · rw [if_pos c]
    have hb := bt8_lt a i
    unfold sgn mns
    rw [show (43 : Int32) = nI 43 from rfl, show (45 : Int32) = nI 45 from rfl]
    simp only [c, decide_true, Bool.true_and]
    rw [bd_s, nI_1, ite_c (nI_eqb hb (by decide)), ite_c (nI_eqb hb (by decide)), ite_c (nI_eqb hb (by decide))]
    by_cases c3 : bt8 a i = 43
    · simp [c3, bz]
    · by_cases c5 : bt8 a i = 45
      · simp [c5, bz]
      · have h45 : ¬ nI (bt8 a i) = nI 45 := by rw [nI_eqb hb (by decide)]; simp [c5]
        have q3 : (bt8 a i == 43) = false := by simp [c3]
        have q5 : (bt8 a i == 45) = false := by simp [c5]
        simp [h45, q3, q5, bz]
  · rw [if_neg c, if_neg (by decide), if_neg (by decide)]
    have h1 : sgn a n i = false := by simp [sgn, c]
    have h2 : mns a n i = false := by simp [mns, c]
    rw [h1, h2]
    rfl
/-- 0x stands at i -/
def pfx (a : Nat → Int32) (n i : Nat) : Bool := decide (i + 1 < n) && bt8 a i == 48 && (bt8 a (i + 1) == 120 || bt8 a (i + 1) == 88)
theorem passPrefix_eq {n : Nat} (hn : n ≤ 1200) (a : Nat → Int32) {i : Nat} (hi : i ≤ n) (s0 : Int32) : f_Numeral_passPrefix (nI i) s0 (nI n) a = some (nI (if pfx a n i then i + 2 else i), bz (pfx a n i)) := by
  unfold f_Numeral_passPrefix
  rw [nI_1, tape_at hn a (by omega), bi1_s, tape_at hn a (by omega), bi1_s]
  have E : ∀ z : Bool, f_Numeral_passPrefix_48 (nI i) s0 (nI n) a (bz z) = some (nI (if z then i + 2 else i), bz z) := by
    intro z
    unfold f_Numeral_passPrefix_48
    rw [ck_s (bz_ck z)]
    cases z
    · rw [if_pos (show bz false = 0 from rfl)]; rfl
    · rw [if_neg (show ¬ bz true = 0 from by decide), bd_s, show (2 : Int32) = nI 2 from rfl, nI_add]; rfl
  have E0 : f_Numeral_passPrefix_47 (nI i) s0 (nI n) a = some (nI (if false then i + 2 else i), bz false) := E false
  have E1 : f_Numeral_passPrefix_43 (nI i) s0 (nI n) a = some (nI (if true then i + 2 else i), bz true) := E true
  rw [E0, E1]
  have hb := bt8_lt a i
  have hb1 := bt8_lt a (i + 1)
  by_cases c : i + 1 < n
  · rw [if_pos c, if_pos (show i < n from by omega), show (48 : Int32) = nI 48 from rfl, show (120 : Int32) = nI 120 from rfl, show (88 : Int32) = nI 88 from rfl, ite_c (nI_eqb hb (by decide)), ite_c (nI_eqb hb1 (by decide)), ite_c (nI_eqb hb1 (by decide))]
    unfold pfx
    by_cases c0 : bt8 a i = 48
    · by_cases cx : bt8 a (i + 1) = 120
      · simp [c, c0, cx]
      · by_cases cX : bt8 a (i + 1) = 88
        · simp [c, c0, cX]
        · have q1 : (bt8 a (i + 1) == 120) = false := by simp [cx]
          have q2 : (bt8 a (i + 1) == 88) = false := by simp [cX]
          simp [c, c0, q1, q2]
    · have q0 : (bt8 a i == 48) = false := by simp [c0]
      simp [q0]
  · rw [if_neg c, if_neg (show ¬ (-1 : Int32) = 120 from by decide), if_neg (show ¬ (-1 : Int32) = 88 from by decide)]
    have h : pfx a n i = false := by simp [pfx, c]
    rw [h]
    simp only [ite_self]
def isDg (sx : Bool) (a : Nat → Int32) (j : Nat) : Bool := (dv sx (bt8 a j)).isSome
theorem dvI_neg {o : Option Nat} (h : ∀ d, o = some d → d < 16) : (dvI o < 0) = (o.isSome = false) := by
  cases o with
  | none => exact propext ⟨fun _ => rfl, fun _ => by decide⟩
  | some d =>
    have := h d rfl
    exact propext ⟨fun q => absurd q (nI_pos (by omega)), fun q => by cases q⟩
/-- digits behind the point -/
theorem passDigits_loop1 {n : Nat} (hn : n ≤ 1200) (a : Nat → Int32) (sx : Bool) (fr to be : Int32) : ∀ (m i f D : Nat), i + m = n → m < f →
    f_Numeral_passDigits_31 f (nI i) (bz sx) 1 fr to be (nI D) (nI n) a (nI n) = some (nI (i + rn (isDg sx a) m i), 1, fr, nI (i + rn (isDg sx a) m i), be, nI (D + rn (isDg sx a) m i)) := by
  intro m
  induction m with
  | zero =>
    intro i f D h hf
    obtain ⟨f, rfl⟩ : ∃ k, f = k + 1 := ⟨f - 1, by omega⟩
    show f_Numeral_passDigits_31b _ _ _ _ _ _ _ _ _ _ _ = _
    unfold f_Numeral_passDigits_31b
    rw [if_pos (nI_le (by omega) (by omega))]
    rfl
  | succ m ih =>
    intro i f D h hf
    obtain ⟨f, rfl⟩ : ∃ k, f = k + 1 := ⟨f - 1, by omega⟩
    show f_Numeral_passDigits_31b _ _ _ _ _ _ _ _ _ _ _ = _
    unfold f_Numeral_passDigits_31b
    have hb := bt8_lt a i
    have hdg := digitOf_eq (bt8 a i) hb sx
    rw [show (if sx = true then (1 : Int32) else 0) = bz sx from rfl] at hdg
    rw [if_neg (nI_ge (by omega) (by omega)), tape_at hn a (by omega), if_pos (by omega), bi1_s, hdg, bi1_s, ite_c (dvI_neg (fun d hd => (dv_lt _ hb sx d hd).1))]
    unfold rn
    by_cases c : (dv sx (bt8 a i)).isSome = false
    · have c' : ¬ isDg sx a i = true := by unfold isDg; rw [c]; decide
      rw [if_pos c, if_neg c', if_neg (show ¬ (1 : Int32) = 0 from by decide)]
      unfold f_Numeral_passDigits_127
      split <;> rfl
    · have c' : isDg sx a i = true := by
        unfold isDg
        cases h9 : (dv sx (bt8 a i)).isSome with
        | true => rfl
        | false => exact absurd h9 c
      rw [if_neg c, if_pos c', bd_s, if_neg (show ¬ (1 : Int32) = 0 from by decide)]
      unfold f_Numeral_passDigits_89 f_Numeral_passDigits_114
      rw [bd_s, bd_s, Int32.add_zero, nI_1, nI_1, ih (i + 1) f (D + 1) (by omega) (by omega)]
      rw [show i + (rn (isDg sx a) m (i + 1) + 1) = i + 1 + rn (isDg sx a) m (i + 1) from by omega, show D + (rn (isDg sx a) m (i + 1) + 1) = D + 1 + rn (isDg sx a) m (i + 1) from by omega]
/-- digits, and a point among them -/
def pnt (sx : Bool) (a : Nat → Int32) (n i : Nat) : Bool := decide (i + rn (isDg sx a) (n - i) i < n) && bt8 a (i + rn (isDg sx a) (n - i) i) == 46
theorem passDigits_loop0 {n : Nat} (hn : n ≤ 1200) (a : Nat → Int32) (sx : Bool) (fr to : Int32) : ∀ (m i f D : Nat), i + m = n → m < f →
    f_Numeral_passDigits_31 f (nI i) (bz sx) 0 fr to (nI D) (nI D) (nI n) a (nI n) = some (
      if i + rn (isDg sx a) m i < n ∧ bt8 a (i + rn (isDg sx a) m i) = 46 then
        (nI (i + rn (isDg sx a) m i + 1 + rn (isDg sx a) (n - (i + rn (isDg sx a) m i + 1)) (i + rn (isDg sx a) m i + 1)), 1, fr, nI (i + rn (isDg sx a) m i + 1 + rn (isDg sx a) (n - (i + rn (isDg sx a) m i + 1)) (i + rn (isDg sx a) m i + 1)), nI (D + rn (isDg sx a) m i), nI (D + rn (isDg sx a) m i + rn (isDg sx a) (n - (i + rn (isDg sx a) m i + 1)) (i + rn (isDg sx a) m i + 1)))
      else (nI (i + rn (isDg sx a) m i), 0, fr, nI (i + rn (isDg sx a) m i), nI (D + rn (isDg sx a) m i), nI (D + rn (isDg sx a) m i))) := by
  intro m
  induction m with
  | zero =>
    intro i f D h hf
    obtain ⟨f, rfl⟩ : ∃ k, f = k + 1 := ⟨f - 1, by omega⟩
    show f_Numeral_passDigits_31b _ _ _ _ _ _ _ _ _ _ _ = _
    unfold f_Numeral_passDigits_31b
    rw [if_pos (nI_le (by omega) (by omega)), if_neg (by intro q; have := q.1; unfold rn at this; omega)]
    rfl
  | succ m ih =>
    intro i f D h hf
    obtain ⟨f, rfl⟩ : ∃ k, f = k + 1 := ⟨f - 1, by omega⟩
    show f_Numeral_passDigits_31b _ _ _ _ _ _ _ _ _ _ _ = _
    unfold f_Numeral_passDigits_31b
    have hb := bt8_lt a i
    have hdg := digitOf_eq (bt8 a i) hb sx
    rw [show (if sx = true then (1 : Int32) else 0) = bz sx from rfl] at hdg
    rw [if_neg (nI_ge (by omega) (by omega)), tape_at hn a (by omega), if_pos (by omega), bi1_s, hdg, bi1_s, ite_c (dvI_neg (fun d hd => (dv_lt _ hb sx d hd).1))]
    by_cases c : (dv sx (bt8 a i)).isSome = false
    · have c' : ¬ isDg sx a i = true := by unfold isDg; rw [c]; decide
      have r0 : rn (isDg sx a) (m + 1) i = 0 := by unfold rn; rw [if_neg c']
      rw [if_pos c, r0, if_pos (show (0 : Int32) = 0 from rfl), show (46 : Int32) = nI 46 from rfl, ite_c (nI_eqb hb (by decide))]
      by_cases c46 : bt8 a i = 46
      · rw [if_pos (by rw [c46]; rfl), if_pos ⟨by omega, by rw [Nat.add_zero]; exact c46⟩]
        unfold f_Numeral_passDigits_114
        rw [bd_s, nI_1, passDigits_loop1 hn a sx fr to (nI D) (n - (i + 1)) (i + 1) f D (by omega) (by omega)]
        rfl
      · rw [if_neg (by simpa using c46), if_neg (by intro q; exact c46 q.2)]
        rfl
    · have c' : isDg sx a i = true := by
        unfold isDg
        cases h9 : (dv sx (bt8 a i)).isSome with
        | true => rfl
        | false => exact absurd h9 c
      have r1 : rn (isDg sx a) (m + 1) i = rn (isDg sx a) m (i + 1) + 1 := by
        show (if isDg sx a i = true then rn (isDg sx a) m (i + 1) + 1 else 0) = _
        rw [if_pos c']
      rw [if_neg c, bd_s, if_pos (show (0 : Int32) = 0 from rfl)]
      unfold f_Numeral_passDigits_89 f_Numeral_passDigits_114
      rw [bd_s, bd_s, nI_1, nI_1, ih (i + 1) f (D + 1) (by omega) (by omega), r1]
      rw [show i + (rn (isDg sx a) m (i + 1) + 1) = i + 1 + rn (isDg sx a) m (i + 1) from by omega, show D + (rn (isDg sx a) m (i + 1) + 1) = D + 1 + rn (isDg sx a) m (i + 1) from by omega]
/-- the power that the class keeps, k digits from i on -/
def dgt (a : Nat → Int32) (i : Nat) : Nat := (dv false (bt8 a i)).getD 0
def pcf (a : Nat → Int32) : Nat → Nat → Nat → Nat
  | 0, _, p => p
  | k + 1, i, p => pcf a k (i + 1) (min 100000 (p * 10 + dgt a i))
/-- and the reference's -/
def pmf (a : Nat → Int32) : Nat → Nat → Nat → Nat
  | 0, _, p => p
  | k + 1, i, p => pmf a k (i + 1) (pwn p (dgt a i))
theorem pcf_pmf (a : Nat → Int32) : ∀ (k i p : Nat), pcf a k i (min 100000 p) = min 100000 (pmf a k i p) := by
  intro k
  induction k with
  | zero => intro i p; rfl
  | succ k ih =>
    intro i p
    show pcf a k (i + 1) (min 100000 (min 100000 p * 10 + dgt a i)) = min 100000 (pmf a k (i + 1) (pwn p (dgt a i)))
    rw [← ih]
    congr 1
    unfold pwn
    by_cases c : p ≤ 99999
    · rw [if_pos c]; omega
    · rw [if_neg c]; omega
theorem pmf_lt (a : Nat → Int32) : ∀ (k i p : Nat), p < 1000000 → pmf a k i p < 1000000 := by
  intro k
  induction k with
  | zero => intro i p h; exact h
  | succ k ih =>
    intro i p h
    refine ih (i + 1) _ ?_
    have hd : dgt a i < 10 := by
      unfold dgt
      cases q : dv false (bt8 a i) with
      | none => decide
      | some d => exact (dv_lt _ (bt8_lt a i) false d q).2 rfl
    unfold pwn
    by_cases c : p ≤ 99999
    · rw [if_pos c]; omega
    · rw [if_neg c]; exact h
theorem pcf_le (a : Nat → Int32) : ∀ (k i p : Nat), p ≤ 100000 → pcf a k i p ≤ 100000 := by
  intro k
  induction k with
  | zero => intro i p h; exact h
  | succ k ih => intro i p h; exact ih (i + 1) _ (Nat.min_le_left _ _)
theorem imn_nI {x y : Nat} (hx : x < 2147483648) (hy : y < 2147483648) : imn (nI x) (nI y) = nI (min x y) := by
  unfold imn
  by_cases c : y < x
  · rw [if_pos (nI_lt c hx), Nat.min_eq_right (by omega)]
  · rw [if_neg (nI_nlt (by omega) hy), Nat.min_eq_left (by omega)]
theorem passPower_loop {n : Nat} (hn : n ≤ 1200) (a : Nat → Int32) (sx hp neg : Int32) (st : Int32) : ∀ (m i f p : Nat), i + m = n → m < f → p ≤ 100000 →
    f_Numeral_passPower_103 f (nI i) sx hp (nI p) (nI n) a neg st (nI n) = f_Numeral_passPower_175 (nI (i + rn (isDg false a) m i)) sx hp (nI (pcf a (rn (isDg false a) m i) i p)) (nI n) a neg st := by
  intro m
  induction m with
  | zero =>
    intro i f p h hf hp9
    obtain ⟨f, rfl⟩ : ∃ k, f = k + 1 := ⟨f - 1, by omega⟩
    show f_Numeral_passPower_103b _ _ _ _ _ _ _ _ _ _ = _
    unfold f_Numeral_passPower_103b
    rw [if_pos (nI_le (by omega) (by omega))]
    rfl
  | succ m ih =>
    intro i f p h hf hp9
    obtain ⟨f, rfl⟩ : ∃ k, f = k + 1 := ⟨f - 1, by omega⟩
    show f_Numeral_passPower_103b _ _ _ _ _ _ _ _ _ _ = _
    unfold f_Numeral_passPower_103b
    have hb := bt8_lt a i
    have hdg : f_Numeral_digitOf (nI (bt8 a i)) 0 = some (dvI (dv false (bt8 a i))) := digitOf_eq (bt8 a i) hb false
    rw [if_neg (nI_ge (by omega) (by omega)), tape_at hn a (by omega), if_pos (by omega), bi1_s, bi1_s, hdg, bi1_s, bi1_s, ite_c (dvI_neg (fun d hd => (dv_lt _ hb false d hd).1))]
    unfold rn
    cases q : dv false (bt8 a i) with
    | none =>
      have c' : ¬ isDg false a i = true := by unfold isDg; rw [q]; decide
      rw [if_pos (show (none : Option Nat).isSome = false from rfl), if_neg c']
      rfl
    | some d =>
      have c' : isDg false a i = true := by unfold isDg; rw [q]; rfl
      have hd10 := (dv_lt _ hb false d q).2 rfl
      have hdt : dgt a i = d := by unfold dgt; rw [q]; rfl
      rw [if_neg (show ¬ (some d).isSome = false from (by decide : ¬ true = false)), if_pos c', bd_s, bd_s, show dvI (some d) = nI d from rfl, show (10 : Int32) = nI 10 from rfl, pk_mul, nI_add, show (100000 : Int32) = nI 100000 from rfl, imn_nI (by decide) (by omega), nI_1, ih (i + 1) f _ (by omega) (by omega) (Nat.min_le_left _ _)]
      rw [show i + (rn (isDg false a) m (i + 1) + 1) = i + 1 + rn (isDg false a) m (i + 1) from by omega]
      show _ = f_Numeral_passPower_175 _ sx hp (nI (pcf a (rn (isDg false a) m (i + 1)) (i + 1) (min 100000 (p * 10 + dgt a i)))) (nI n) a neg st
      rw [hdt]
/-- a power's letter stands at i -/
def ltr (sx : Bool) (a : Nat → Int32) (n i : Nat) : Bool := decide (i < n) && (if sx then bt8 a i == 112 || bt8 a i == 80 else bt8 a i == 101 || bt8 a i == 69)
def sgi (a : Nat → Int32) (n i : Nat) : Nat := if sgn a n i then i + 1 else i
theorem sgi_le {a : Nat → Int32} {n i : Nat} (h : i ≤ n) : sgi a n i ≤ n := by
  unfold sgi sgn
  by_cases c : i < n
  · split <;> omega
  · simp [c]; exact h
theorem passPower_62 {n : Nat} (hn : n ≤ 1200) (a : Nat → Int32) {i : Nat} (hi : i < n) (sx h0 : Int32) :
    f_Numeral_passPower_62 (nI i) sx h0 0 (nI n) a 1 = some (bz (decide (0 < rn (isDg false a) (n - sgi a n (i + 1)) (sgi a n (i + 1)))), nI (sgi a n (i + 1) + rn (isDg false a) (n - sgi a n (i + 1)) (sgi a n (i + 1))), 1, iI (if mns a n (i + 1) then -((pcf a (rn (isDg false a) (n - sgi a n (i + 1)) (sgi a n (i + 1))) (sgi a n (i + 1)) 0 : Nat) : Int) else ((pcf a (rn (isDg false a) (n - sgi a n (i + 1)) (sgi a n (i + 1))) (sgi a n (i + 1)) 0 : Nat) : Int))) := by
  have hj := sgi_le (a := a) (n := n) (i := i + 1) (by omega)
  unfold f_Numeral_passPower_62
  rw [ck_s (Or.inr rfl), if_neg (by decide), bd_s, nI_1, passSign_eq hn a (by omega), bi2_s]
  unfold f_Tape_length
  rw [bi1_s, show (if sgn a n (i + 1) = true then i + 1 + 1 else i + 1) = sgi a n (i + 1) from rfl, show (0 : Int32) = nI 0 from rfl, passPower_loop hn a sx 1 (bz (mns a n (i + 1))) (nI (sgi a n (i + 1))) (n - sgi a n (i + 1)) (sgi a n (i + 1)) fu 0 (by omega) (by unfold fu; omega) (by decide)]
  generalize sgi a n (i + 1) = j at hj ⊢
  have hk := rn_le (isDg false a) (n - j) j
  generalize rn (isDg false a) (n - j) j = k at hk ⊢
  unfold f_Numeral_passPower_175 f_Numeral_passPower_192
  have hc : (nI (j + k) ≤ nI j) = (k = 0) := by
    rw [propext (nI_leI (by omega) (by omega))]
    exact propext (by omega)
  rw [ite_c hc, ite_c hc, iI_nI (pcf a k j 0), iI_neg]
  cases mns a n (i + 1)
  · rw [if_pos (show bz false = 0 from rfl)]
    by_cases z : k = 0
    · rw [if_pos z]; simp [z, bz]
    · rw [if_neg z, show decide (0 < k) = true from by simp; omega]; rfl
  · rw [if_neg (show ¬ bz true = 0 from by decide)]
    by_cases z : k = 0
    · rw [if_pos z]; simp [z, bz]
    · rw [if_neg z, show decide (0 < k) = true from by simp; omega]; rfl
theorem passPower_eq {n : Nat} (hn : n ≤ 1200) (a : Nat → Int32) {i : Nat} (hi : i ≤ n) (sx : Bool) (h0 p0 : Int32) :
    f_Numeral_passPower (nI i) (bz sx) h0 p0 (nI n) a = if ltr sx a n i then f_Numeral_passPower_62 (nI i) (bz sx) h0 0 (nI n) a 1 else some (1, nI i, 0, 0) := by
  unfold f_Numeral_passPower f_Numeral_passPower_57 f_Numeral_passPower_37
  rw [tape_at hn a (by omega), bi1_s]
  have E0 : f_Numeral_passPower_62 (nI i) (bz sx) h0 0 (nI n) a 0 = some (1, nI i, 0, 0) := by
    unfold f_Numeral_passPower_62
    rw [ck_s (Or.inl rfl), if_pos rfl]
  rw [E0]
  unfold ltr
  by_cases c : i < n
  · have hb := bt8_lt a i
    rw [if_pos c, show (101 : Int32) = nI 101 from rfl, show (69 : Int32) = nI 69 from rfl, show (112 : Int32) = nI 112 from rfl, show (80 : Int32) = nI 80 from rfl, ite_c (nI_eqb hb (by decide)), ite_c (nI_eqb hb (by decide)), ite_c (nI_eqb hb (by decide)), ite_c (nI_eqb hb (by decide))]
    simp only [c, decide_true, Bool.true_and]
    cases sx
    · rw [if_pos (show bz false = 0 from rfl)]
      cases (bt8 a i == 101) <;> cases (bt8 a i == 69) <;> rfl
    · rw [if_neg (show ¬ bz true = 0 from by decide)]
      cases (bt8 a i == 112) <;> cases (bt8 a i == 80) <;> rfl
  · rw [if_neg c, if_neg (show ¬ (-1 : Int32) = 101 from by decide), if_neg (show ¬ (-1 : Int32) = 69 from by decide), if_neg (show ¬ (-1 : Int32) = 112 from by decide), if_neg (show ¬ (-1 : Int32) = 80 from by decide)]
    simp [c]

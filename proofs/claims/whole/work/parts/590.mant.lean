/-! the digits of a numeral, in the reference: from a start s0 (0, 1 or 12) at place i -/
/-- what the start must do: a digit, a point, nothing else -/
def Stt (sx : Bool) (s0 : Nat) : Prop := s0 < 19 ∧ acc s0 = false ∧ nx s0 46 = some (if sx then 14 else 4) ∧ ∀ b, b < 256 → (dv sx b).isSome = true → ∃ s1, nx s0 b = some s1 ∧ (s1 = (if sx then 13 else 3) ∨ (s1 = 2 ∧ sx = false ∧ b = 48))
theorem stt_0 : Stt false 0 := ⟨by decide, by decide, nx_p0, fun b hb h => ⟨_, nx_d0 b hb h, by
  by_cases c : b = 48
  · rw [if_pos c]; exact Or.inr ⟨rfl, rfl, c⟩
  · rw [if_neg c]; exact Or.inl rfl⟩⟩
theorem stt_1 : Stt false 1 := ⟨by decide, by decide, nx_p1, fun b hb h => ⟨_, nx_d1 b hb h, by
  by_cases c : b = 48
  · rw [if_pos c]; exact Or.inr ⟨rfl, rfl, c⟩
  · rw [if_neg c]; exact Or.inl rfl⟩⟩
theorem stt_12 : Stt true 12 := ⟨by decide, by decide, nx_p12, fun b hb h => ⟨_, nx_h12 b hb h, Or.inl rfl⟩⟩
/-- k + 1 digits from the start on -/
theorem mw_first {n : Nat} (hn : n ≤ 1200) {am a : Nat → Int32} (hB : ∀ i, i < n → bt8 am i = bt8 a i) {sx ls : Bool} {s0 : Nat} (hst : Stt sx s0) (da : Nat → Int32) {k i : Nat} (hi : i + (k + 1) ≤ n) (hdg : ∀ j, j < k + 1 → isDg sx a (i + j) = true) :
    ∃ s1, s1 < 19 ∧ (s1 = (if sx then 13 else 3) ∨ (s1 = 2 ∧ sx = false ∧ k = 0 ∧ bt8 a i = 48)) ∧ ∀ f, mw (f + (k + 1)) n am i s0 0 0 0 false ls true sx da = mw f n am (i + (k + 1)) s1 (k + 1) 0 0 false ls true sx (dap da 0 (k + 1) (fun t => dgv sx a (i + t))) := by
  obtain ⟨hs0, -, -, hd0⟩ := hst
  have hb := bt8_lt a i
  have h0 := hdg 0 (by omega)
  rw [Nat.add_zero] at h0
  unfold isDg at h0
  obtain ⟨d, hd⟩ := Option.isSome_iff_exists.mp h0
  have hdt : dv true (bt8 a i) = some d := by rw [dv_true_of _ hb sx h0]; exact hd
  have hg : dgv sx a (i + 0) = d := by unfold dgv; rw [Nat.add_zero, hd]; rfl
  obtain ⟨s1, hx, hs1⟩ := hd0 _ hb h0
  have hs19 := nx_lt hs0 hb hx
  have hn1 : nI s1 = 2 ∨ nI s1 = 3 ∨ nI s1 = 13 := by
    rcases hs1 with rfl | ⟨rfl, -, -⟩
    · cases sx <;> decide
    · decide
  have step1 : ∀ f, mw (f + (k + 1)) n am i s0 0 0 0 false ls true sx da = mw (f + k) n am (i + 1) s1 1 0 0 false ls true sx (upd da 0 (nI d)) := by
    intro f
    rw [show f + (k + 1) = (f + k) + 1 from by omega]
    exact mw_step hn hB (by omega) hs0 hx (note_digit _ hn1 (D := 0) (by decide) 0 _ false ls true sx da hb hdt)
  cases k with
  | zero =>
    refine ⟨s1, hs19, ?_, ?_⟩
    · rcases hs1 with h | ⟨h1, h2, h3⟩
      · exact Or.inl h
      · exact Or.inr ⟨h1, h2, rfl, h3⟩
    · intro f
      rw [step1, ← hg, ← dap_0 (upd da 0 (nI (dgv sx a (i + 0)))) 1 (fun t => (fun u => dgv sx a (i + u)) (t + 1)), dap_succ da 0 0 (fun u => dgv sx a (i + u))]
      rfl
  | succ k =>
    refine ⟨(if sx then 13 else 3), by cases sx <;> decide, Or.inl rfl, ?_⟩
    intro f
    have hb1 := bt8_lt a (i + 1)
    have h1 := hdg 1 (by omega)
    unfold isDg at h1
    obtain ⟨d1, hd1⟩ := Option.isSome_iff_exists.mp h1
    have hdt1 : dv true (bt8 a (i + 1)) = some d1 := by rw [dv_true_of _ hb1 sx h1]; exact hd1
    have hg1 : dgv sx a (i + 1) = d1 := by unfold dgv; rw [hd1]; rfl
    have hx1 : nx s1 (bt8 a (i + 1)) = some (if sx then 13 else 3) := by
      rcases hs1 with rfl | ⟨rfl, rfl, -⟩
      · cases sx
        · exact nx_d3 _ hb1 h1
        · exact nx_h13 _ hb1 h1
      · exact nx_d2 _ hb1 h1
    have hsd : nI (if sx = true then 13 else 3) = 2 ∨ nI (if sx = true then 13 else 3) = 3 ∨ nI (if sx = true then 13 else 3) = 13 := by cases sx <;> decide
    have step2 : mw (f + (k + 1)) n am (i + 1) s1 1 0 0 false ls true sx (upd da 0 (nI d)) = mw (f + k) n am (i + 1 + 1) (if sx then 13 else 3) 2 0 0 false ls true sx (upd (upd da 0 (nI d)) 1 (nI d1)) := by
      rw [show f + (k + 1) = (f + k) + 1 from by omega]
      exact mw_step hn hB (by omega) hs19 hx1 (note_digit _ hsd (D := 1) (by decide) 0 _ false ls true sx _ hb1 hdt1)
    have hrun := mw_digits hn hB (Bh := 0) (pl := false) (ls := ls) (pd := true) (sx := sx) k f (i + 1 + 1) 2 (upd (upd da 0 (nI d)) 1 (nI d1)) (by omega) (by omega) (fun j hj => by
      have := hdg (j + 2) (by omega)
      rw [show i + 1 + 1 + j = i + (j + 2) from by omega]; exact this)
    rw [step1, step2, hrun]
    rw [show i + 1 + 1 + k = i + (k + 1 + 1) from by omega, show 2 + k = k + 1 + 1 from by omega]
    congr 1
    have s1' := dap_succ da 0 (k + 1) (fun u => dgv sx a (i + u))
    have s2' := dap_succ (upd da 0 (nI (dgv sx a (i + 0)))) 1 k (fun u => dgv sx a (i + (u + 1)))
    rw [← s1', ← s2', hg]
    rw [show dgv sx a (i + (0 + 1)) = d1 from hg1]
    congr 1
    funext t
    show dgv sx a (i + 1 + 1 + t) = dgv sx a (i + (t + 1 + 1))
    rw [show i + 1 + 1 + t = i + (t + 1 + 1) from by omega]
/-- where the digits end, and how many there are: before a point, whether there is one, behind it -/
def m1 (sx : Bool) (a : Nat → Int32) (n i : Nat) : Nat := rn (isDg sx a) (n - i) i
def mp (sx : Bool) (a : Nat → Int32) (n i : Nat) : Bool := decide (i + m1 sx a n i < n ∧ bt8 a (i + m1 sx a n i) = 46)
def m2 (sx : Bool) (a : Nat → Int32) (n i : Nat) : Nat := if mp sx a n i then rn (isDg sx a) (n - (i + m1 sx a n i + 1)) (i + m1 sx a n i + 1) else 0
def mq (sx : Bool) (a : Nat → Int32) (n i : Nat) : Nat := if mp sx a n i then i + m1 sx a n i + 1 + m2 sx a n i else i + m1 sx a n i
theorem passDigits_eq {n : Nat} (hn : n ≤ 1200) (a : Nat → Int32) (sx : Bool) {i : Nat} (hi : i ≤ n) (hp fr to be dg : Int32) : f_Numeral_passDigits (nI i) (bz sx) hp fr to be dg (nI n) a = some (nI (mq sx a n i), bz (mp sx a n i), nI i, nI (mq sx a n i), nI (m1 sx a n i), nI (m1 sx a n i + m2 sx a n i)) := by
  unfold f_Numeral_passDigits f_Tape_length
  rw [bi1_s]
  have h := passDigits_loop0 hn a sx (nI i) to (n - i) i fu 0 (by omega) (by unfold fu; omega)
  rw [show (0 : Int32) = nI 0 from rfl] at h ⊢
  rw [show nI 0 = (0 : Int32) from rfl] at h ⊢
  rw [h]
  congr 1
  unfold mq m2 mp m1
  by_cases c : i + rn (isDg sx a) (n - i) i < n ∧ bt8 a (i + rn (isDg sx a) (n - i) i) = 46
  · rw [if_pos c, decide_eq_true c, if_pos rfl, if_pos rfl, Nat.zero_add]
    rfl
  · rw [if_neg c, decide_eq_false c, if_neg (by decide), if_neg (by decide), Nat.zero_add, Nat.add_zero]
    rfl
theorem mq_le {sx : Bool} {a : Nat → Int32} {n i : Nat} (hi : i ≤ n) : i ≤ mq sx a n i ∧ mq sx a n i ≤ n ∧ m1 sx a n i + m2 sx a n i ≤ n - i := by
  have h1 : m1 sx a n i ≤ n - i := rn_le _ _ _
  unfold mq m2
  by_cases c : mp sx a n i = true
  · have c' := of_decide_eq_true (show decide _ = true from c)
    have h2 := rn_le (isDg sx a) (n - (i + m1 sx a n i + 1)) (i + m1 sx a n i + 1)
    rw [if_pos c, if_pos c]
    omega
  · rw [if_neg c, if_neg c]
    omega
/-- no digit stands in the numeral -/
theorem mw_none {n : Nat} (hn : n ≤ 1200) {am a : Nat → Int32} (hB : ∀ i, i < n → bt8 am i = bt8 a i) {sx ls : Bool} {s0 : Nat} (hst : Stt sx s0) (da : Nat → Int32) {f i : Nat} (hi : i ≤ n) (hf : n - i + 1 < f) (hz : m1 sx a n i + m2 sx a n i = 0)
    (hno : i < n → (dv sx (bt8 a i)).isSome = false → bt8 a i ≠ 46 → nx s0 (bt8 a i) = none) :
    ∃ s' pd, mw f n am i s0 0 0 0 false ls true sx da = some (nI (mq sx a n i), nI s', nI 0, nI 0, nI 0, bz false, bz ls, bz pd, bz sx, da) := by
  obtain ⟨hs0, hacc, hpt, -⟩ := hst
  have h1 : m1 sx a n i = 0 := by omega
  have hnd : i < n → (dv sx (bt8 a i)).isSome = false := by
    intro c
    have := rn_stop (isDg sx a) (n - i) i (by unfold m1 at h1; omega)
    unfold m1 at h1
    rw [h1, Nat.add_zero] at this
    exact this
  obtain ⟨f, rfl⟩ : ∃ k, f = k + 1 := ⟨f - 1, by omega⟩
  by_cases c : mp sx a n i = true
  · have c' := of_decide_eq_true (show decide _ = true from c)
    rw [h1, Nat.add_zero] at c'
    have h2 : m2 sx a n i = 0 := by omega
    have hq : mq sx a n i = i + 1 := by unfold mq; rw [if_pos c, h1, h2]
    have hsp : nI (if sx = true then 14 else 4) = 4 ∨ nI (if sx = true then 14 else 4) = 6 ∨ nI (if sx = true then 14 else 4) = 14 ∨ nI (if sx = true then 14 else 4) = 16 := by cases sx <;> decide
    have hs4 : (if sx = true then 14 else 4) < 19 := by cases sx <;> decide
    obtain ⟨f, rfl⟩ : ∃ k, f = k + 1 := ⟨f - 1, by omega⟩
    refine ⟨(if sx then 14 else 4), false, ?_⟩
    rw [mw_step hn hB c'.1 hs0 (by rw [c'.2]; exact hpt) (note_spoil _ hsp _ _ _ false ls true sx da _), hq]
    by_cases e : i + 1 < n
    · have hnd2 : (dv sx (bt8 a (i + 1))).isSome = false := by
        unfold m2 at h2
        rw [if_pos c, h1, Nat.add_zero] at h2
        have := rn_stop (isDg sx a) (n - (i + 1)) (i + 1) (by omega)
        rw [h2, Nat.add_zero] at this
        exact this
      rw [mw_stop hn hB e hs4 (by
        cases sx
        · exact nx_n4 _ (bt8_lt a _) hnd2
        · exact nx_n14 _ (bt8_lt a _) hnd2)]
    · have e' : i + 1 = n := by omega
      rw [e', mw_end hn hs4, if_neg (by cases sx <;> decide)]
  · have hq : mq sx a n i = i := by unfold mq; rw [if_neg c, h1]; rfl
    refine ⟨s0, true, ?_⟩
    rw [hq]
    by_cases e : i < n
    · have h46 : bt8 a i ≠ 46 := by
        intro q
        apply c
        unfold mp
        rw [h1, Nat.add_zero]
        exact decide_eq_true ⟨e, q⟩
      rw [mw_stop hn hB e hs0 (hno e (hnd e) h46)]
    · have e' : i = n := by omega
      rw [e', mw_end hn hs0, hacc]
      rfl
/-- there are digits: the reference comes to their end -/
theorem mw_some {n : Nat} (hn : n ≤ 1200) {am a : Nat → Int32} (hB : ∀ i, i < n → bt8 am i = bt8 a i) {sx ls : Bool} {s0 : Nat} (hst : Stt sx s0) (da : Nat → Int32) {i : Nat} (hi : i ≤ n) (hz : m1 sx a n i + m2 sx a n i ≠ 0) (hpx : sx = false → i + 1 < n → bt8 a i = 48 → ¬ (bt8 a (i + 1) = 120 ∨ bt8 a (i + 1) = 88)) :
    ∃ s', s' < 19 ∧ fin sx s' = true ∧ (mq sx a n i < n → goes sx s' (bt8 a (mq sx a n i)) = false) ∧ ∀ f, mw (f + (mq sx a n i - i)) n am i s0 0 0 0 false ls true sx da = mw f n am (mq sx a n i) s' (m1 sx a n i + m2 sx a n i) (m2 sx a n i) 0 false ls (!mp sx a n i) sx (dap (dap da 0 (m1 sx a n i) (fun t => dgv sx a (i + t))) (m1 sx a n i) (m2 sx a n i) (fun t => dgv sx a (i + m1 sx a n i + 1 + t))) := by
  have hst' := hst
  obtain ⟨hs0, hacc, hpt, -⟩ := hst'
  have hm1 : m1 sx a n i ≤ n - i := rn_le _ _ _
  have hall : ∀ j, j < m1 sx a n i → isDg sx a (i + j) = true := rn_all _ _ _
  by_cases c : mp sx a n i = true
  · -- a point
    have c' := of_decide_eq_true (show decide _ = true from c)
    have h2e : m2 sx a n i = rn (isDg sx a) (n - (i + m1 sx a n i + 1)) (i + m1 sx a n i + 1) := by unfold m2; rw [if_pos c]
    have hm2 : m2 sx a n i ≤ n - (i + m1 sx a n i + 1) := by rw [h2e]; exact rn_le _ _ _
    have hall2 : ∀ j, j < m2 sx a n i → isDg sx a (i + m1 sx a n i + 1 + j) = true := by rw [h2e]; exact rn_all _ _ _
    have hq : mq sx a n i = i + m1 sx a n i + 1 + m2 sx a n i := by unfold mq; rw [if_pos c]
    have hs5 : (if sx = true then 15 else 5) < 19 := by cases sx <;> decide
    have hstop : mq sx a n i < n → (dv sx (bt8 a (mq sx a n i))).isSome = false := by
      intro h
      have := rn_stop (isDg sx a) (n - (i + m1 sx a n i + 1)) (i + m1 sx a n i + 1) (by rw [← h2e]; omega)
      rw [← h2e] at this
      rw [hq]
      exact this
    refine ⟨(if sx then 15 else 5), hs5, by cases sx <;> decide, ?_, ?_⟩
    · intro h
      unfold goes
      rw [hstop h]
      cases sx <;> simp
    · intro f
      rw [hq, c]
      have hb5 : nI (if sx = true then 15 else 5) = 5 ∨ nI (if sx = true then 15 else 5) = 15 := by cases sx <;> decide
      generalize m1 sx a n i = k1 at *
      generalize m2 sx a n i = k2 at *
      cases k1 with
      | zero =>
        -- a point first, then at least one digit
        rw [Nat.add_zero] at *
        obtain ⟨k2, rfl⟩ : ∃ k, k2 = k + 1 := ⟨k2 - 1, by omega⟩
        have hsp : nI (if sx = true then 14 else 4) = 4 ∨ nI (if sx = true then 14 else 4) = 6 ∨ nI (if sx = true then 14 else 4) = 14 ∨ nI (if sx = true then 14 else 4) = 16 := by cases sx <;> decide
        have hs4 : (if sx = true then 14 else 4) < 19 := by cases sx <;> decide
        have hb := bt8_lt a (i + 1)
        have h0 := hall2 0 (by omega)
        rw [Nat.add_zero] at h0
        unfold isDg at h0
        obtain ⟨d, hd⟩ := Option.isSome_iff_exists.mp h0
        have hg : dgv sx a (i + 1 + 0) = d := by unfold dgv; rw [Nat.add_zero, hd]; rfl
        have hx4 : nx (if sx then 14 else 4) (bt8 a (i + 1)) = some (if sx then 15 else 5) := by
          cases sx
          · exact nx_d4 _ hb h0
          · exact nx_h14 _ hb h0
        have hse : decide (nI (if sx = true then 15 else 5) = 15) = sx := by cases sx <;> decide
        have st1 : mw (f + (k2 + 1 + 1)) n am i s0 0 0 0 false ls true sx da = mw (f + (k2 + 1)) n am (i + 1) (if sx then 14 else 4) 0 0 0 false ls false sx da := by
          rw [show f + (k2 + 1 + 1) = (f + (k2 + 1)) + 1 from by omega]
          exact mw_step hn hB c'.1 hs0 (by rw [c'.2]; exact hpt) (note_spoil _ hsp _ _ _ false ls true sx da _)
        have st2 : mw (f + (k2 + 1)) n am (i + 1) (if sx then 14 else 4) 0 0 0 false ls false sx da = mw (f + k2) n am (i + 1 + 1) (if sx then 15 else 5) 1 1 0 false ls false sx (upd da 0 (nI d)) := by
          rw [show f + (k2 + 1) = (f + k2) + 1 from by omega]
          exact mw_step hn hB (by omega) hs4 hx4 (note_behind _ hb5 (D := 0) (Bh := 0) (by decide) _ false ls false sx da hb (by rw [hse]; exact hd))
        have st3 := mw_behind hn hB (pl := false) (ls := ls) (sx := sx) k2 f (i + 1 + 1) 1 1 false (upd da 0 (nI d)) (by omega) (by omega) (fun j hj => by
          have := hall2 (j + 1) (by omega)
          rw [show i + 1 + 1 + j = i + 1 + (j + 1) from by omega]; exact this)
        rw [show i + 1 + (k2 + 1) - i = k2 + 1 + 1 from by omega, st1, st2, st3, ite_self, dap_0]
        rw [show i + 1 + 1 + k2 = i + 1 + (k2 + 1) from by omega, show 1 + k2 = 0 + (k2 + 1) from by omega, show 0 + (k2 + 1) = k2 + 1 from by omega]
        congr 1
        rw [← dap_succ da 0 k2 (fun t => dgv sx a (i + 1 + t)), hg]
        congr 1
        funext t
        show dgv sx a (i + 1 + 1 + t) = dgv sx a (i + 1 + (t + 1))
        rw [show i + 1 + 1 + t = i + 1 + (t + 1) from by omega]
      | succ k1 =>
        obtain ⟨s1, hs1, hcase, hrun⟩ := mw_first hn hB (sx := sx) (ls := ls) hst da (k := k1) (i := i) (by omega) hall
        have hx1 : nx s1 46 = some (if sx then 15 else 5) := by
          rcases hcase with rfl | ⟨rfl, rfl, -, -⟩
          · cases sx
            · exact nx_pt.2.1
            · exact nx_pt.2.2
          · exact nx_pt.1
        have st2 : mw (f + (1 + k2)) n am (i + (k1 + 1)) s1 (k1 + 1) 0 0 false ls true sx (dap da 0 (k1 + 1) (fun t => dgv sx a (i + t))) = mw (f + k2) n am (i + (k1 + 1) + 1) (if sx then 15 else 5) (k1 + 1) 0 0 false ls false sx (dap da 0 (k1 + 1) (fun t => dgv sx a (i + t))) := by
          rw [show f + (1 + k2) = (f + k2) + 1 from by omega]
          exact mw_step hn hB c'.1 hs1 (by rw [c'.2]; exact hx1) (by rw [c'.2]; exact note_point _ hb5 _ _ _ false ls true sx _)
        have st3 := mw_behind hn hB (pl := false) (ls := ls) (sx := sx) k2 f (i + (k1 + 1) + 1) (k1 + 1) 0 false (dap da 0 (k1 + 1) (fun t => dgv sx a (i + t))) (by omega) (by omega) hall2
        rw [show f + (i + (k1 + 1) + 1 + k2 - i) = f + (1 + k2) + (k1 + 1) from by omega, hrun, st2, st3, ite_self, Nat.zero_add]
        rfl
  · -- no point
    have cf : mp sx a n i = false := by simpa using c
    have h2 : m2 sx a n i = 0 := by unfold m2; rw [if_neg c]
    have hq : mq sx a n i = i + m1 sx a n i := by unfold mq; rw [if_neg c]
    obtain ⟨k1, hk1⟩ : ∃ k, m1 sx a n i = k + 1 := ⟨m1 sx a n i - 1, by omega⟩
    have hstop : mq sx a n i < n → (dv sx (bt8 a (mq sx a n i))).isSome = false := by
      intro h
      have := rn_stop (isDg sx a) (n - i) i (by unfold m1 at hq; omega)
      rw [hq]
      exact this
    have h46 : mq sx a n i < n → bt8 a (mq sx a n i) ≠ 46 := by
      intro h q
      rw [hq] at h q
      apply c
      unfold mp
      exact decide_eq_true ⟨h, q⟩
    obtain ⟨s1, hs1, hcase, hrun⟩ := mw_first hn hB (sx := sx) (ls := ls) hst da (k := k1) (i := i) (by omega) (by rw [← hk1]; exact hall)
    refine ⟨s1, hs1, ?_, ?_, ?_⟩
    · rcases hcase with rfl | ⟨rfl, rfl, -, -⟩
      · cases sx <;> decide
      · decide
    · intro h
      unfold goes
      rw [hstop h]
      have z46 : (bt8 a (mq sx a n i) == 46) = false := by simpa using h46 h
      rw [z46]
      rcases hcase with rfl | ⟨rfl, hsx, hk0, hb48⟩
      · cases sx <;> simp
      · have hq1 : mq sx a n i = i + 1 := by omega
        have hx := hpx hsx (by omega) hb48
        rw [hq1]
        have e1 : (bt8 a (i + 1) == 120) = false := by simpa using fun q => hx (Or.inl q)
        have e2 : (bt8 a (i + 1) == 88) = false := by simpa using fun q => hx (Or.inr q)
        rw [e1, e2]
        rfl
    · intro f
      rw [hq, h2, hk1, cf, show i + (k1 + 1) - i = k1 + 1 from by omega, hrun, dap_0]
      rfl

/-! the digits of a numeral, in the reference: from a start s0 (0, 1 or 12) at place i -/
/-- what the start must do: a digit, a point, nothing else -/
def Stt (sx : Bool) (s0 : Nat) : Prop := s0 < 19 ∧ acc s0 = false ∧ nx s0 46 = some (if sx then 14 else 4) ∧ ∀ b, b < 256 → (dv sx b).isSome = true → ∃ s1, nx s0 b = some s1 ∧ (s1 = (if sx then 13 else 3) ∨ (s1 = 2 ∧ sx = false ∧ b = 48))
theorem stt_0 : Stt false 0 := ⟨by decide, by decide, nx_p0, fun b hb h => ⟨_, nx_d0 b hb h, by
  by_cases c : b = 48
  · rw [if_pos c]; exact Or.inr ⟨rfl, rfl, c⟩
  · rw [if_neg c]; exact Or.inl rfl⟩⟩
theorem stt_1 : Stt false 1 := ⟨by decide, by decide, nx_p1, fun b hb h => ⟨_, nx_d1 b hb h, by
  by_cases c : b = 48
  · rw [if_pos c]; exact Or.inr ⟨rfl, rfl, c⟩
  · rw [if_neg c]; exact Or.inl rfl⟩⟩
theorem stt_12 : Stt true 12 := ⟨by decide, by decide, nx_p12, fun b hb h => ⟨_, nx_h12 b hb h, Or.inl rfl⟩⟩
/-- k + 1 digits from the start on -/
theorem mw_first {n : Nat} (hn : n ≤ 1200) {am a : Nat → Int32} (hB : ∀ i, i < n → bt8 am i = bt8 a i) {sx ls : Bool} {s0 : Nat} (hst : Stt sx s0) (da : Nat → Int32) {k f i : Nat} (hi : i + (k + 1) ≤ n) (hdg : ∀ j, j < k + 1 → isDg sx a (i + j) = true) :
    ∃ s1, s1 < 19 ∧ (s1 = (if sx then 13 else 3) ∨ (s1 = 2 ∧ sx = false ∧ k = 0 ∧ bt8 a i = 48)) ∧ mw (f + (k + 1)) n am i s0 0 0 0 false ls true sx da = mw f n am (i + (k + 1)) s1 (k + 1) 0 0 false ls true sx (dap da 0 (k + 1) (fun t => dgv sx a (i + t))) := by
  obtain ⟨hs0, -, -, hd0⟩ := hst
  have hb := bt8_lt a i
  have h0 := hdg 0 (by omega)
  rw [Nat.add_zero] at h0
  unfold isDg at h0
  obtain ⟨d, hd⟩ := Option.isSome_iff_exists.mp h0
  have hdt : dv true (bt8 a i) = some d := by rw [dv_true_of _ hb sx h0]; exact hd
  have hg : dgv sx a (i + 0) = d := by unfold dgv; rw [Nat.add_zero, hd]; rfl
  obtain ⟨s1, hx, hs1⟩ := hd0 _ hb h0
  have hs19 := nx_lt hs0 hb hx
  have hn1 : nI s1 = 2 ∨ nI s1 = 3 ∨ nI s1 = 13 := by
    rcases hs1 with rfl | ⟨rfl, -, -⟩
    · cases sx <;> decide
    · decide
  have step1 : mw (f + (k + 1)) n am i s0 0 0 0 false ls true sx da = mw (f + k) n am (i + 1) s1 1 0 0 false ls true sx (upd da 0 (nI d)) := by
    rw [show f + (k + 1) = (f + k) + 1 from by omega]
    exact mw_step hn hB (by omega) hs0 hx (note_digit _ hn1 (D := 0) (by decide) 0 _ false ls true sx da hb hdt)
  cases k with
  | zero =>
    refine ⟨s1, hs19, ?_, ?_⟩
    · rcases hs1 with h | ⟨h1, h2, h3⟩
      · exact Or.inl h
      · exact Or.inr ⟨h1, h2, rfl, h3⟩
    · rw [step1, ← hg, ← dap_0 (upd da 0 (nI (dgv sx a (i + 0)))) 1 (fun t => (fun u => dgv sx a (i + u)) (t + 1)), dap_succ da 0 0 (fun u => dgv sx a (i + u))]
      rfl
  | succ k =>
    refine ⟨(if sx then 13 else 3), by cases sx <;> decide, Or.inl rfl, ?_⟩
    have hb1 := bt8_lt a (i + 1)
    have h1 := hdg 1 (by omega)
    unfold isDg at h1
    obtain ⟨d1, hd1⟩ := Option.isSome_iff_exists.mp h1
    have hdt1 : dv true (bt8 a (i + 1)) = some d1 := by rw [dv_true_of _ hb1 sx h1]; exact hd1
    have hg1 : dgv sx a (i + 1) = d1 := by unfold dgv; rw [hd1]; rfl
    have hx1 : nx s1 (bt8 a (i + 1)) = some (if sx then 13 else 3) := by
      rcases hs1 with rfl | ⟨rfl, rfl, -⟩
      · cases sx
        · exact nx_d3 _ hb1 h1
        · exact nx_h13 _ hb1 h1
      · exact nx_d2 _ hb1 h1
    have hsd : nI (if sx = true then 13 else 3) = 2 ∨ nI (if sx = true then 13 else 3) = 3 ∨ nI (if sx = true then 13 else 3) = 13 := by cases sx <;> decide
    have step2 : mw (f + (k + 1)) n am (i + 1) s1 1 0 0 false ls true sx (upd da 0 (nI d)) = mw (f + k) n am (i + 1 + 1) (if sx then 13 else 3) 2 0 0 false ls true sx (upd (upd da 0 (nI d)) 1 (nI d1)) := by
      rw [show f + (k + 1) = (f + k) + 1 from by omega]
      exact mw_step hn hB (by omega) hs19 hx1 (note_digit _ hsd (D := 1) (by decide) 0 _ false ls true sx _ hb1 hdt1)
    have hrun := mw_digits hn hB (Bh := 0) (pl := false) (ls := ls) (pd := true) (sx := sx) k f (i + 1 + 1) 2 (upd (upd da 0 (nI d)) 1 (nI d1)) (by omega) (by omega) (fun j hj => by
      have := hdg (j + 2) (by omega)
      rw [show i + 1 + 1 + j = i + (j + 2) from by omega]; exact this)
    rw [step1, step2, hrun]
    rw [show i + 1 + 1 + k = i + (k + 1 + 1) from by omega, show 2 + k = k + 1 + 1 from by omega]
    congr 1
    have s1' := dap_succ da 0 (k + 1) (fun u => dgv sx a (i + u))
    have s2' := dap_succ (upd da 0 (nI (dgv sx a (i + 0)))) 1 k (fun u => dgv sx a (i + (u + 1)))
    rw [← s1', ← s2', hg]
    rw [show dgv sx a (i + (0 + 1)) = d1 from hg1]
    congr 1
    funext t
    show dgv sx a (i + 1 + 1 + t) = dgv sx a (i + (t + 1 + 1))
    rw [show i + 1 + 1 + t = i + (t + 1 + 1) from by omega]

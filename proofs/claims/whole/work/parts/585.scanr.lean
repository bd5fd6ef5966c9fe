/-! behind the digits: a power, blanks, the end -/
def endp (a : Nat → Int32) (n e : Nat) : Nat := e + rn (fun j => isBl (bt8 a j)) (n - e) e
def wcode (a : Nat → Int32) (n e : Nat) : Int32 := if n ≤ endp a n e then -1 else nI (endp a n e)
def pk (a : Nat → Int32) (n j : Nat) : Nat := rn (isDg false a) (n - j) j
/-- digits of a power from state E or S at place j -/
theorem mw_pdig {n : Nat} (hn : n ≤ 1200) {am a : Nat → Int32} (hB : ∀ i, i < n → bt8 am i = bt8 a i) {s D Bh : Nat} {pl ls pd sx : Bool} {da : Nat → Int32} (hs : s < 19) (hacc : acc s = false) {f j : Nat} (hj : j ≤ n) (hf : n - j < f)
    (hx : j < n → nx s (bt8 a j) = (if (dv false (bt8 a j)).isSome then some (if sx then 18 else 8) else none)) :
    ∃ s', mw f n am j s D Bh 0 pl ls pd sx da = some (if pk a n j = 0 then nI j else wcode a n (j + pk a n j), nI s', nI D, nI Bh, nI (pmf a (pk a n j) j 0), bz pl, bz ls, bz pd, bz sx, da) := by
  obtain ⟨f, rfl⟩ : ∃ k, f = k + 1 := ⟨f - 1, by omega⟩
  unfold pk
  by_cases c : j < n
  · obtain ⟨m, hm⟩ : ∃ m, n - j = m + 1 := ⟨n - j - 1, by omega⟩
    have hb := bt8_lt a j
    rw [hm]
    cases q : dv false (bt8 a j) with
    | none =>
      have c' : ¬ isDg false a j = true := by unfold isDg; rw [q]; decide
      have r0 : rn (isDg false a) (m + 1) j = 0 := by unfold rn; rw [if_neg c']
      refine ⟨s, ?_⟩
      rw [r0, if_pos rfl, mw_stop hn hB c hs (by rw [hx c, q]; rfl)]
      rfl
    | some d =>
      have c' : isDg false a j = true := by unfold isDg; rw [q]; rfl
      have hdt : dgt a j = d := by unfold dgt; rw [q]; rfl
      have hd10 := (dv_lt _ hb false d q).2 rfl
      have r1 : rn (isDg false a) (m + 1) j = rn (isDg false a) m (j + 1) + 1 := by
        show (if isDg false a j = true then rn (isDg false a) m (j + 1) + 1 else 0) = _
        rw [if_pos c']
      have hs8 : nI (if sx = true then 18 else 8) = 8 ∨ nI (if sx = true then 18 else 8) = 18 := by cases sx <;> decide
      have hp0 : pwn 0 d = d := by unfold pwn; rw [if_pos (by decide)]; omega
      obtain ⟨s', h'⟩ := mw_power hn hB (D := D) (Bh := Bh) (pl := pl) (ls := ls) (pd := pd) (sx := sx) (da := da) m f (j + 1) (pwn 0 d) (by omega) (by omega) (by omega)
      refine ⟨s', ?_⟩
      rw [mw_step hn hB c hs (by rw [hx c, q]; rfl) (note_power _ hs8 _ _ (P := 0) (by decide) pl ls pd sx da hb q), h', r1, if_neg (show ¬ rn (isDg false a) m (j + 1) + 1 = 0 from by omega)]
      unfold wcode endp
      rw [show j + (rn (isDg false a) m (j + 1) + 1) = j + 1 + rn (isDg false a) m (j + 1) from by omega]
      rw [show pmf a (rn (isDg false a) m (j + 1) + 1) j 0 = pmf a (rn (isDg false a) m (j + 1)) (j + 1) (pwn 0 d) from by rw [← hdt]; rfl]
  · have hj' : j = n := by omega
    subst hj'
    refine ⟨s, ?_⟩
    rw [mw_end hn hs, hacc, Nat.sub_self]
    rfl
/-- from the end of the digits on -/
theorem mw_rest {n : Nat} (hn : n ≤ 1200) {am a : Nat → Int32} (hB : ∀ i, i < n → bt8 am i = bt8 a i) {s D Bh : Nat} {ls pd sx : Bool} {da : Nat → Int32} (hs : s < 19) (hfin : fin sx s = true) {f q : Nat} (hq : q ≤ n) (hf : n - q < f) (hgo : q < n → goes sx s (bt8 a q) = false) :
    ∃ s', mw f n am q s D Bh 0 false ls pd sx da = some (
      if ltr sx a n q then (if pk a n (sgi a n (q + 1)) = 0 then nI (sgi a n (q + 1)) else wcode a n (sgi a n (q + 1) + pk a n (sgi a n (q + 1))), nI s', nI D, nI Bh, nI (pmf a (pk a n (sgi a n (q + 1))) (sgi a n (q + 1)) 0), bz (mns a n (q + 1)), bz ls, bz false, bz sx, da)
      else (wcode a n q, nI s', nI D, nI Bh, nI 0, bz false, bz ls, bz pd, bz sx, da)) := by
  have hacc : acc s = true := by
    have t : ∀ sx : Bool, ∀ s, s < 19 → fin sx s = true → acc s = true := by decide
    exact t sx s hs hfin
  by_cases hl : ltr sx a n q = true
  · rw [hl]
    have hqn : q < n := by
      unfold ltr at hl
      simp only [Bool.and_eq_true, decide_eq_true_eq] at hl
      exact hl.1
    have hE : isE sx (bt8 a q) = true := by
      unfold ltr at hl
      simp only [Bool.and_eq_true, decide_eq_true_eq] at hl
      unfold isE
      exact hl.2
    obtain ⟨f, rfl⟩ : ∃ k, f = k + 1 := ⟨f - 1, by omega⟩
    have hx1 : nx s (bt8 a q) = some (if sx then 16 else 6) := by rw [nx_fin sx s hs hfin _ (bt8_lt a q) (hgo hqn), if_pos hE]
    have hsp : nI (if sx = true then 16 else 6) = 4 ∨ nI (if sx = true then 16 else 6) = 6 ∨ nI (if sx = true then 16 else 6) = 14 ∨ nI (if sx = true then 16 else 6) = 16 := by cases sx <;> decide
    rw [mw_step hn hB hqn hs hx1 (note_spoil _ hsp _ _ _ false ls pd sx da _)]
    have hsE : (if sx = true then 16 else 6) < 19 := by cases sx <;> decide
    have hsS : (if sx = true then 17 else 7) < 19 := by cases sx <;> decide
    have hs7 : nI (if sx = true then 17 else 7) = 7 ∨ nI (if sx = true then 17 else 7) = 17 := by cases sx <;> decide
    by_cases hsg : sgn a n (q + 1) = true
    · have hj : sgi a n (q + 1) = q + 1 + 1 := by unfold sgi; rw [if_pos hsg]
      have h1n : q + 1 < n := by
        unfold sgn at hsg
        simp only [Bool.and_eq_true, decide_eq_true_eq] at hsg
        exact hsg.1
      have hb45 : bt8 a (q + 1) = 43 ∨ bt8 a (q + 1) = 45 := by
        unfold sgn at hsg
        simpa [h1n] using hsg
      have hmn : mns a n (q + 1) = (bt8 a (q + 1) == 45) := by unfold mns; simp [h1n]
      obtain ⟨f, rfl⟩ : ∃ k, f = k + 1 := ⟨f - 1, by omega⟩
      rw [mw_step hn hB h1n hsE (by rw [nx_e sx _ (bt8_lt a (q + 1)), if_pos hb45]) (note_psign _ hs7 _ _ _ ls false sx da (bt8_lt a (q + 1))), hj, ← hmn]
      obtain ⟨s', h'⟩ := mw_pdig hn hB (s := if sx = true then 17 else 7) (D := D) (Bh := Bh) (pl := mns a n (q + 1)) (ls := ls) (pd := false) (sx := sx) (da := da) hsS (by cases sx <;> decide) (f := f) (j := q + 1 + 1) (by omega) (by omega) (fun _ => nx_es sx _ (bt8_lt a _))
      exact ⟨s', h'⟩
    · have hj : sgi a n (q + 1) = q + 1 := by unfold sgi; rw [if_neg hsg]
      have hmn : mns a n (q + 1) = false := by
        unfold mns
        unfold sgn at hsg
        simp only [Bool.and_eq_true, Bool.or_eq_true, decide_eq_true_eq, not_and, not_or] at hsg
        by_cases h1n : q + 1 < n
        · have := (hsg h1n).2
          simp [h1n]
          simpa using this
        · simp [h1n]
      rw [hj, hmn]
      obtain ⟨s', h'⟩ := mw_pdig hn hB (s := if sx = true then 16 else 6) (D := D) (Bh := Bh) (pl := false) (ls := ls) (pd := false) (sx := sx) (da := da) hsE (by cases sx <;> decide) (f := f) (j := q + 1) (by omega) (by omega) (fun h1n => by
        rw [nx_e sx _ (bt8_lt a _), if_neg (by
          unfold sgn at hsg
          simpa [h1n] using hsg)])
      exact ⟨s', h'⟩
  · have hl' : ltr sx a n q = false := by simpa using hl
    rw [hl']
    obtain ⟨s', h'⟩ := mw_tail hn hB (s := s) (D := D) (Bh := Bh) (Pw := 0) (pl := false) (ls := ls) (pd := pd) (sx := sx) (da := da) hs hacc (f := f) (p := q) hq hf (fun hqn => by
      rw [nx_fin sx s hs hfin _ (bt8_lt a q) (hgo hqn), if_neg (by
        intro hE
        apply hl
        unfold ltr
        unfold isE at hE
        simp only [hqn, decide_true, Bool.true_and]
        exact hE)])
    exact ⟨s', h'⟩
/-- k digits are noted from place p on -/
def dap (da : Nat → Int32) (D k : Nat) (g : Nat → Nat) : Nat → Int32 := fun j => if D ≤ j ∧ j < D + k then nI (g (j - D)) else da j
theorem dap_0 (da : Nat → Int32) (D : Nat) (g : Nat → Nat) : dap da D 0 g = da := by
  funext j
  unfold dap
  rw [if_neg (by omega)]
theorem dap_succ (da : Nat → Int32) (D k : Nat) (g : Nat → Nat) : dap (upd da D (nI (g 0))) (D + 1) k (fun t => g (t + 1)) = dap da D (k + 1) g := by
  funext j
  unfold dap
  by_cases c : D + 1 ≤ j ∧ j < D + 1 + k
  · rw [if_pos c, if_pos (by omega)]
    show nI (g (j - (D + 1) + 1)) = _
    rw [show j - (D + 1) + 1 = j - D from by omega]
  · rw [if_neg c]
    by_cases e : j = D
    · subst e
      rw [pk_us, if_pos (by omega), Nat.sub_self]
    · rw [pk_un e, if_neg (by omega)]
def dgv (sx : Bool) (a : Nat → Int32) (p : Nat) : Nat := (dv sx (bt8 a p)).getD 0
theorem dv_true_of : ∀ b, b < 256 → ∀ sx : Bool, (dv sx b).isSome = true → dv true b = dv sx b := by decide +kernel
/-- a run of digits before the point: states 3 and 13 -/
theorem mw_digits {n : Nat} (hn : n ≤ 1200) {am a : Nat → Int32} (hB : ∀ i, i < n → bt8 am i = bt8 a i) {Bh : Nat} {pl ls pd sx : Bool} : ∀ (k f p D : Nat) (da : Nat → Int32), p + k ≤ n → D + k ≤ 1200 → (∀ j, j < k → isDg sx a (p + j) = true) →
    mw (f + k) n am p (if sx then 13 else 3) D Bh 0 pl ls pd sx da = mw f n am (p + k) (if sx then 13 else 3) (D + k) Bh 0 pl ls pd sx (dap da D k (fun t => dgv sx a (p + t))) := by
  have hsl : (if sx = true then 13 else 3) < 19 := by cases sx <;> decide
  have hsd : nI (if sx = true then 13 else 3) = 2 ∨ nI (if sx = true then 13 else 3) = 3 ∨ nI (if sx = true then 13 else 3) = 13 := by cases sx <;> decide
  intro k
  induction k with
  | zero => intro f p D da _ _ _; rw [dap_0]; rfl
  | succ k ih =>
    intro f p D da h hD hdg
    have hb := bt8_lt a p
    have h0 := hdg 0 (by omega)
    rw [Nat.add_zero] at h0
    unfold isDg at h0
    obtain ⟨d, hd⟩ := Option.isSome_iff_exists.mp h0
    have hdt : dv true (bt8 a p) = some d := by rw [dv_true_of _ hb sx h0]; exact hd
    have hg : dgv sx a (p + 0) = d := by unfold dgv; rw [Nat.add_zero, hd]; rfl
    have hx : nx (if sx then 13 else 3) (bt8 a p) = some (if sx then 13 else 3) := by
      cases sx
      · exact nx_d3 _ hb h0
      · exact nx_h13 _ hb h0
    rw [show f + (k + 1) = (f + k) + 1 from by omega, mw_step hn hB (by omega) hsl hx (note_digit _ hsd (D := D) (by omega) Bh _ pl ls pd sx da hb hdt), ih f (p + 1) (D + 1) _ (by omega) (by omega) (fun j hj => by
      have := hdg (j + 1) (by omega)
      rw [show p + 1 + j = p + (j + 1) from by omega]; exact this)]
    rw [show p + 1 + k = p + (k + 1) from by omega, show D + 1 + k = D + (k + 1) from by omega, ← hg, show (fun t => dgv sx a (p + 1 + t)) = (fun t => (fun u => dgv sx a (p + u)) (t + 1)) from by funext t; show _ = dgv sx a (p + (t + 1)); rw [show p + (t + 1) = p + 1 + t from by omega], dap_succ da D k (fun u => dgv sx a (p + u))]
/-- a run of digits behind the point: states 5 and 15 -/
theorem mw_behind {n : Nat} (hn : n ≤ 1200) {am a : Nat → Int32} (hB : ∀ i, i < n → bt8 am i = bt8 a i) {pl ls sx : Bool} : ∀ (k f p D Bh : Nat) (pd : Bool) (da : Nat → Int32), p + k ≤ n → D + k ≤ 1200 → (∀ j, j < k → isDg sx a (p + j) = true) →
    mw (f + k) n am p (if sx then 15 else 5) D Bh 0 pl ls pd sx da = mw f n am (p + k) (if sx then 15 else 5) (D + k) (Bh + k) 0 pl ls (if k = 0 then pd else false) sx (dap da D k (fun t => dgv sx a (p + t))) := by
  have hsl : (if sx = true then 15 else 5) < 19 := by cases sx <;> decide
  have hsd : nI (if sx = true then 15 else 5) = 5 ∨ nI (if sx = true then 15 else 5) = 15 := by cases sx <;> decide
  have hse : decide (nI (if sx = true then 15 else 5) = 15) = sx := by cases sx <;> decide
  intro k
  induction k with
  | zero => intro f p D Bh pd da _ _ _; rw [dap_0]; rfl
  | succ k ih =>
    intro f p D Bh pd da h hD hdg
    have hb := bt8_lt a p
    have h0 := hdg 0 (by omega)
    rw [Nat.add_zero] at h0
    unfold isDg at h0
    obtain ⟨d, hd⟩ := Option.isSome_iff_exists.mp h0
    have hg : dgv sx a (p + 0) = d := by unfold dgv; rw [Nat.add_zero, hd]; rfl
    have hx : nx (if sx then 15 else 5) (bt8 a p) = some (if sx then 15 else 5) := by
      cases sx
      · exact nx_d5 _ hb h0
      · exact nx_h15 _ hb h0
    rw [show f + (k + 1) = (f + k) + 1 from by omega, mw_step hn hB (by omega) hsl hx (note_behind _ hsd (D := D) (Bh := Bh) (by omega) _ pl ls pd sx da hb (by rw [hse]; exact hd)), ih f (p + 1) (D + 1) (Bh + 1) false _ (by omega) (by omega) (fun j hj => by
      have := hdg (j + 1) (by omega)
      rw [show p + 1 + j = p + (j + 1) from by omega]; exact this)]
    rw [show p + 1 + k = p + (k + 1) from by omega, show D + 1 + k = D + (k + 1) from by omega, show Bh + 1 + k = Bh + (k + 1) from by omega, ← hg, show (fun t => dgv sx a (p + 1 + t)) = (fun t => (fun u => dgv sx a (p + u)) (t + 1)) from by funext t; show _ = dgv sx a (p + (t + 1)); rw [show p + (t + 1) = p + 1 + t from by omega], dap_succ da D k (fun u => dgv sx a (p + u)), ite_self, if_neg (show ¬ k + 1 = 0 from by omega)]

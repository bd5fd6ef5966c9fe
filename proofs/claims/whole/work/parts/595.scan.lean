/-! the whole of the scan, both sides -/
def g0 (a : Nat → Int32) (n : Nat) : Nat := endp a n 0
def g1 (a : Nat → Int32) (n : Nat) : Nat := sgi a n (g0 a n)
def gx (a : Nat → Int32) (n : Nat) : Bool := pfx a n (g1 a n)
def g2 (a : Nat → Int32) (n : Nat) : Nat := if gx a n then g1 a n + 2 else g1 a n
def gneg (a : Nat → Int32) (n : Nat) : Bool := mns a n (g0 a n)
def gq (a : Nat → Int32) (n : Nat) : Nat := mq (gx a n) a n (g2 a n)
def gl (a : Nat → Int32) (n : Nat) : Bool := ltr (gx a n) a n (gq a n)
def gj (a : Nat → Int32) (n : Nat) : Nat := sgi a n (gq a n + 1)
def gW (a : Nat → Int32) (n : Nat) : Int32 := if gl a n then (if pk a n (gj a n) = 0 then nI (gj a n) else wcode a n (gj a n + pk a n (gj a n))) else wcode a n (gq a n)
theorem endp_le {a : Nat → Int32} {n e : Nat} (h : e ≤ n) : e ≤ endp a n e ∧ endp a n e ≤ n := by
  have := rn_le (fun j => isBl (bt8 a j)) (n - e) e
  unfold endp
  omega
theorem g_le (a : Nat → Int32) (n : Nat) : g0 a n ≤ n ∧ g1 a n ≤ n ∧ g2 a n ≤ n ∧ g2 a n ≤ gq a n ∧ gq a n ≤ n := by
  have h0 : g0 a n ≤ n := (endp_le (Nat.zero_le n)).2
  have h1 : g1 a n ≤ n := sgi_le h0
  have h2 : g2 a n ≤ n := by
    unfold g2
    by_cases c : gx a n = true
    · rw [if_pos c]
      unfold gx pfx at c
      simp only [Bool.and_eq_true, decide_eq_true_eq] at c
      omega
    · rw [if_neg c]; exact h1
  have h3 := mq_le (sx := gx a n) (a := a) h2
  exact ⟨h0, h1, h2, h3.1, h3.2.1⟩
theorem scan_class0 {n : Nat} (hn : n ≤ 1200) (a : Nat → Int32) (hz : m1 (gx a n) a n (g2 a n) + m2 (gx a n) a n (g2 a n) = 0) (x1 x2 x3 x4 x5 x6 x7 x8 x9 x10 : Int32) :
    ∃ y1 y2 y3 y4 y5 y6 y7 y8 y9 y10, f_Numeral_scan x1 x2 x3 x4 x5 x6 x7 x8 x9 x10 (nI n) a = some (nI (gq a n), y1, y2, y3, y4, y5, y6, y7, y8, y9, y10) := by
  obtain ⟨h0, h1, h2, h3, h4⟩ := g_le a n
  unfold f_Numeral_scan
  have hb0 : f_Numeral_passBlanks 0 (nI n) a = some (nI (g0 a n)) := passBlanks_eq hn a (Nat.zero_le n)
  rw [hb0, bi1_s, passSign_eq hn a h0, bi2_s, ck_s (bz_ck _), show (if sgn a n (g0 a n) = true then g0 a n + 1 else g0 a n) = g1 a n from rfl, passPrefix_eq hn a h1, bi2_s, show (if pfx a n (g1 a n) = true then g1 a n + 2 else g1 a n) = g2 a n from rfl, show pfx a n (g1 a n) = gx a n from rfl, passDigits_eq hn a (gx a n) h2, bi6_s, hz, if_pos (show nI 0 = 0 from rfl)]
  exact ⟨_, _, _, _, _, _, _, _, _, _, rfl⟩
theorem scan_class1 {n : Nat} (hn : n ≤ 1200) (a : Nat → Int32) (hz : m1 (gx a n) a n (g2 a n) + m2 (gx a n) a n (g2 a n) ≠ 0) (x1 x2 x3 x4 x5 x6 x7 x8 x9 x10 : Int32) :
    ∃ y1, f_Numeral_scan x1 x2 x3 x4 x5 x6 x7 x8 x9 x10 (nI n) a = some (gW a n, y1, bz (gneg a n), bz (gx a n), bz (mp (gx a n) a n (g2 a n)), bz (gl a n), nI (g2 a n), nI (gq a n), nI (m1 (gx a n) a n (g2 a n)), nI (m1 (gx a n) a n (g2 a n) + m2 (gx a n) a n (g2 a n)), if gl a n then iI (if mns a n (gq a n + 1) then -((pcf a (pk a n (gj a n)) (gj a n) 0 : Nat) : Int) else ((pcf a (pk a n (gj a n)) (gj a n) 0 : Nat) : Int)) else 0) := by
  obtain ⟨h0, h1, h2, h3, h4⟩ := g_le a n
  have hm := (mq_le (sx := gx a n) (a := a) h2).2.2
  unfold f_Numeral_scan
  have hb0 : f_Numeral_passBlanks 0 (nI n) a = some (nI (g0 a n)) := passBlanks_eq hn a (Nat.zero_le n)
  rw [hb0, bi1_s, passSign_eq hn a h0, bi2_s, ck_s (bz_ck _), show (if sgn a n (g0 a n) = true then g0 a n + 1 else g0 a n) = g1 a n from rfl, passPrefix_eq hn a h1, bi2_s, show (if pfx a n (g1 a n) = true then g1 a n + 2 else g1 a n) = g2 a n from rfl, show pfx a n (g1 a n) = gx a n from rfl, passDigits_eq hn a (gx a n) h2, bi6_s, if_neg (show ¬ nI (m1 (gx a n) a n (g2 a n) + m2 (gx a n) a n (g2 a n)) = 0 from fun q => hz ((nI_eq (b := 0) (by omega) (by decide)).mp q)), show mq (gx a n) a n (g2 a n) = gq a n from rfl, passPower_eq hn a h4]
  have hW : ∀ e, e ≤ n → ∀ (T : Int32 → Int32 → Int32 × Int32 × Int32 × Int32 × Int32 × Int32 × Int32 × Int32 × Int32 × Int32 × Int32), (bi1 (f_Numeral_passBlanks (nI e) (nI n) a) fun v19 => bi1 (f_Tape_length (nI n)) fun r20 => if r20 ≤ v19 then some (T (-1) v19) else some (T v19 v19)) = some (T (wcode a n e) (nI (endp a n e))) := by
    intro e he T
    have hle := endp_le (a := a) he
    unfold f_Tape_length
    rw [passBlanks_eq hn a he, bi1_s, bi1_s, show e + rn (fun j => isBl (bt8 a j)) (n - e) e = endp a n e from rfl]
    unfold wcode
    by_cases c : n ≤ endp a n e
    · rw [if_pos (nI_le c (by omega)), if_pos c]
    · rw [if_neg (nI_ge (by omega) (by omega)), if_neg c]
  unfold gW
  rw [show ltr (gx a n) a n (gq a n) = gl a n from rfl]
  by_cases c : gl a n = true
  · rw [if_pos c, if_pos c, if_pos c, c]
    have hqn : gq a n < n := by
      unfold gl ltr at c
      simp only [Bool.and_eq_true, decide_eq_true_eq] at c
      exact c.1
    rw [passPower_62 hn a hqn, bi4_s]
    rw [show sgi a n (gq a n + 1) = gj a n from rfl, show rn (isDg false a) (n - gj a n) (gj a n) = pk a n (gj a n) from rfl]
    have hj : gj a n ≤ n := sgi_le (by omega)
    have hk : pk a n (gj a n) ≤ n - gj a n := rn_le _ _ _
    by_cases z : pk a n (gj a n) = 0
    · rw [z, if_pos rfl, show bz (decide (0 < 0)) = 0 from rfl, if_pos rfl, Nat.add_zero]
      exact ⟨_, rfl⟩
    · rw [if_neg z, show decide (0 < pk a n (gj a n)) = true from by simp; omega, if_neg (show ¬ bz true = 0 from by decide)]
      refine ⟨nI (endp a n (gj a n + pk a n (gj a n))), ?_⟩
      exact hW (gj a n + pk a n (gj a n)) (by omega) (fun w v => (w, v, bz (gneg a n), bz (gx a n), bz (mp (gx a n) a n (g2 a n)), 1, nI (g2 a n), nI (gq a n), nI (m1 (gx a n) a n (g2 a n)), nI (m1 (gx a n) a n (g2 a n) + m2 (gx a n) a n (g2 a n)), iI (if mns a n (gq a n + 1) then -((pcf a (pk a n (gj a n)) (gj a n) 0 : Nat) : Int) else ((pcf a (pk a n (gj a n)) (gj a n) 0 : Nat) : Int))))
  · have cf : gl a n = false := by simpa using c
    rw [cf]
    refine ⟨nI (endp a n (gq a n)), ?_⟩
    rw [if_neg (by decide), bi4_s, if_neg (show ¬ (1 : Int32) = 0 from by decide)]
    exact hW (gq a n) h4 (fun w v => (w, v, bz (gneg a n), bz (gx a n), bz (mp (gx a n) a n (g2 a n)), 0, nI (g2 a n), nI (gq a n), nI (m1 (gx a n) a n (g2 a n)), nI (m1 (gx a n) a n (g2 a n) + m2 (gx a n) a n (g2 a n)), 0))
/-- the reference's scan: as far as the digits -/
theorem mw_front {n : Nat} (hn : n ≤ 1200) {am a : Nat → Int32} (hB : ∀ i, i < n → bt8 am i = bt8 a i) (da : Nat → Int32) :
    ∃ s0 da', Stt (gx a n) s0 ∧ (∀ f, mw (f + g2 a n) n am 0 0 0 0 0 false false true false da = mw f n am (g2 a n) s0 0 0 0 false (gneg a n) true (gx a n) da') ∧
      (g2 a n < n → (dv (gx a n) (bt8 a (g2 a n))).isSome = false → bt8 a (g2 a n) ≠ 46 → nx s0 (bt8 a (g2 a n)) = none) ∧
      (gx a n = false → g2 a n + 1 < n → bt8 a (g2 a n) = 48 → ¬ (bt8 a (g2 a n + 1) = 120 ∨ bt8 a (g2 a n + 1) = 88)) := by
  obtain ⟨h0, h1, h2, h3, h4⟩ := g_le a n
  have hbl : ∀ j, j < g0 a n → isBl (bt8 a (0 + j)) = true := by
    intro j hj
    have := rn_all (fun j => isBl (bt8 a j)) (n - 0) 0 j (by unfold g0 endp at hj; omega)
    exact this
  have hst : g0 a n < n → isBl (bt8 a (g0 a n)) = false := by
    intro h
    have e : g0 a n = 0 + rn (fun j => isBl (bt8 a j)) (n - 0) 0 := rfl
    have := rn_stop (fun j => isBl (bt8 a j)) (n - 0) 0 (by omega)
    rw [← e] at this
    exact this
  -- behind the sign: state 0 or 1 at g1
  obtain ⟨s1, hs1, hrun1, hno1⟩ : ∃ s1, (s1 = 0 ∨ s1 = 1) ∧ (∀ f, mw (f + g1 a n) n am 0 0 0 0 0 false false true false da = mw f n am (g1 a n) s1 0 0 0 false (gneg a n) true false da) ∧ (g1 a n < n → (dv false (bt8 a (g1 a n))).isSome = false → bt8 a (g1 a n) ≠ 46 → nx s1 (bt8 a (g1 a n)) = none) := by
    by_cases c : sgn a n (g0 a n) = true
    · have e1 : g1 a n = g0 a n + 1 := by unfold g1 sgi; rw [if_pos c]
      have c' := c
      unfold sgn at c'
      simp only [Bool.and_eq_true, decide_eq_true_eq] at c'
      have hb : bt8 a (g0 a n) = 43 ∨ bt8 a (g0 a n) = 45 := by simpa using c'.2
      have hg : gneg a n = (bt8 a (g0 a n) == 45) := by unfold gneg mns; simp [c'.1]
      refine ⟨1, Or.inr rfl, ?_, ?_⟩
      · intro f
        have b0 := mw_blanks0 hn hB (D := 0) (Bh := 0) (Pw := 0) (pl := false) (ls := false) (pd := true) (sx := false) (da := da) (g0 a n) (f + 1) 0 (by omega) hbl
        rw [e1, show f + (g0 a n + 1) = f + 1 + g0 a n from by omega, b0, Nat.zero_add, hg]
        exact mw_step hn hB c'.1 (by decide) (nx_sg _ (bt8_lt a _) hb) (note_sign _ _ _ false true false da (bt8_lt a _))
      · intro _ hd h46
        exact nx_n1 _ (bt8_lt a _) hd h46
    · have e1 : g1 a n = g0 a n := by unfold g1 sgi; rw [if_neg c]
      have hg : gneg a n = false := by
        unfold gneg mns
        unfold sgn at c
        simp only [Bool.and_eq_true, Bool.or_eq_true, decide_eq_true_eq, not_and, not_or] at c
        by_cases h : g0 a n < n
        · have := (c h).2
          simp [h]
          simpa using this
        · simp [h]
      refine ⟨0, Or.inl rfl, ?_, ?_⟩
      · intro f
        have b0 := mw_blanks0 hn hB (D := 0) (Bh := 0) (Pw := 0) (pl := false) (ls := false) (pd := true) (sx := false) (da := da) (g0 a n) f 0 (by omega) hbl
        rw [e1, b0, Nat.zero_add, hg]
      · intro h hd h46
        rw [e1] at h hd h46 ⊢
        refine nx_n0 _ (bt8_lt a _) (hst h) ?_ hd h46
        unfold sgn at c
        simpa [h] using c
  have hs19 : s1 < 19 := by rcases hs1 with rfl | rfl <;> decide
  by_cases cx : gx a n = true
  · -- 0x
    have c' := cx
    unfold gx pfx at c'
    simp only [Bool.and_eq_true, decide_eq_true_eq, Bool.or_eq_true, beq_iff_eq] at c'
    obtain ⟨⟨hlt, h48⟩, hxx⟩ := c'
    have e2 : g2 a n = g1 a n + 2 := by unfold g2; rw [if_pos cx]
    have hx1 : nx s1 (bt8 a (g1 a n)) = some 2 := by
      rw [h48]
      rcases hs1 with rfl | rfl <;> decide +kernel
    have hd48 : dv true (bt8 a (g1 a n)) = some 0 := by rw [h48]; rfl
    have hx2 : nx 2 (bt8 a (g1 a n + 1)) = some 12 := by
      rcases hxx with h | h
      · rw [h]; exact nx_2x.1
      · rw [h]; exact nx_2x.2
    refine ⟨12, upd da 0 (nI 0), by rw [cx]; exact stt_12, ?_, ?_, fun q => by rw [cx] at q; cases q⟩
    · intro f
      have st1 : mw (f + 1 + 1) n am (g1 a n) s1 0 0 0 false (gneg a n) true false da = mw (f + 1) n am (g1 a n + 1) 2 1 0 0 false (gneg a n) true false (upd da 0 (nI 0)) := mw_step hn hB (by omega) hs19 hx1 (note_digit (nI 2) (Or.inl rfl) (D := 0) (by decide) 0 _ false (gneg a n) true false da (bt8_lt a _) hd48)
      have st2 : mw (f + 1) n am (g1 a n + 1) 2 1 0 0 false (gneg a n) true false (upd da 0 (nI 0)) = mw f n am (g1 a n + 1 + 1) 12 0 0 0 false (gneg a n) true true (upd da 0 (nI 0)) := mw_step hn hB hlt (by decide) hx2 (note_12 _ _ _ false (gneg a n) true false _ _)
      rw [e2, show f + (g1 a n + 2) = f + 1 + 1 + g1 a n from by omega, hrun1, st1, st2, cx]
    · intro _ hd h46
      rw [cx] at hd
      exact nx_n12 _ (bt8_lt a _) hd h46
  · have cf : gx a n = false := by simpa using cx
    have e2 : g2 a n = g1 a n := by unfold g2; rw [if_neg cx]
    refine ⟨s1, da, by rw [cf]; rcases hs1 with rfl | rfl; exact stt_0; exact stt_1, ?_, ?_, ?_⟩
    · intro f
      rw [e2, cf]
      exact hrun1 f
    · rw [e2, cf]
      exact hno1
    · intro _ hlt h48
      rw [e2] at hlt h48 ⊢
      intro q
      apply cx
      unfold gx pfx
      simp only [Bool.and_eq_true, decide_eq_true_eq, Bool.or_eq_true, beq_iff_eq]
      exact ⟨⟨hlt, h48⟩, q⟩

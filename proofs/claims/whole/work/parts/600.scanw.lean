/-! both scans, side by side -/
def gm1 (a : Nat → Int32) (n : Nat) : Nat := m1 (gx a n) a n (g2 a n)
def gm2 (a : Nat → Int32) (n : Nat) : Nat := m2 (gx a n) a n (g2 a n)
def gp (a : Nat → Int32) (n : Nat) : Bool := mp (gx a n) a n (g2 a n)
/-- digit j of the numeral -/
def gd (a : Nat → Int32) (n j : Nat) : Nat := if j < gm1 a n then dgv (gx a n) a (g2 a n + j) else dgv (gx a n) a (g2 a n + gm1 a n + 1 + (j - gm1 a n))
theorem scan_model0 {n : Nat} (hn : n ≤ 1200) {am a : Nat → Int32} (hB : ∀ i, i < n → bt8 am i = bt8 a i) (hz : gm1 a n + gm2 a n = 0) (x1 x2 x3 x4 x5 x6 x7 x8 : Int32) (da : Nat → Int32) :
    ∃ y1 y2 y3 y4 y5 y6 y7 y8 da', f_M_wrong (nI n) x1 x2 x3 x4 x5 x6 x7 x8 da am = some (nI (gq a n), y1, y2, y3, y4, y5, y6, y7, y8, da') := by
  obtain ⟨h0, h1, h2, h3, h4⟩ := g_le a n
  obtain ⟨s0, da', hst, hrun, hno, -⟩ := mw_front hn hB da
  have hstart : f_M_wrong (nI n) x1 x2 x3 x4 x5 x6 x7 x8 da am = mw (fu - g2 a n + g2 a n) n am 0 0 0 0 0 false false true false da := by
    rw [show fu - g2 a n + g2 a n = fu from by unfold fu; omega]
    rfl
  obtain ⟨s', pd, hend⟩ := mw_none hn hB (ls := gneg a n) hst da' (f := fu - g2 a n) h2 (by unfold fu; omega) hz hno
  rw [hstart, hrun, hend]
  exact ⟨_, _, _, _, _, _, _, _, _, rfl⟩
theorem scan_model1 {n : Nat} (hn : n ≤ 1200) {am a : Nat → Int32} (hB : ∀ i, i < n → bt8 am i = bt8 a i) (hz : gm1 a n + gm2 a n ≠ 0) (x1 x2 x3 x4 x5 x6 x7 x8 : Int32) (da : Nat → Int32) :
    ∃ y1 da', f_M_wrong (nI n) x1 x2 x3 x4 x5 x6 x7 x8 da am = some (gW a n, y1, nI (gm1 a n + gm2 a n), nI (gm2 a n), nI (if gl a n then pmf a (pk a n (gj a n)) (gj a n) 0 else 0), bz (gl a n && mns a n (gq a n + 1)), bz (gneg a n), bz (!gp a n && !gl a n), bz (gx a n), da') ∧ ∀ j, j < gm1 a n + gm2 a n → da' j = nI (gd a n j) := by
  obtain ⟨h0, h1, h2, h3, h4⟩ := g_le a n
  obtain ⟨s0, da0, hst, hrun, -, hpx⟩ := mw_front hn hB da
  obtain ⟨s', hs', hfin, hgo, hrun2⟩ := mw_some hn hB (ls := gneg a n) hst da0 h2 hz hpx
  have hq9 : mq (gx a n) a n (g2 a n) = gq a n := rfl
  rw [hq9] at hgo hrun2
  have hstart : f_M_wrong (nI n) x1 x2 x3 x4 x5 x6 x7 x8 da am = mw (fu - gq a n + (gq a n - g2 a n) + g2 a n) n am 0 0 0 0 0 false false true false da := by
    rw [show fu - gq a n + (gq a n - g2 a n) + g2 a n = fu from by unfold fu; omega]
    rfl
  obtain ⟨s9, hend⟩ := mw_rest hn hB (D := gm1 a n + gm2 a n) (Bh := gm2 a n) (ls := gneg a n) (pd := !gp a n) (sx := gx a n) (da := dap (dap da0 0 (gm1 a n) (fun t => dgv (gx a n) a (g2 a n + t))) (gm1 a n) (gm2 a n) (fun t => dgv (gx a n) a (g2 a n + gm1 a n + 1 + t))) hs' hfin (f := fu - gq a n) h4 (by unfold fu; omega) hgo
  rw [hstart, hrun, hrun2]
  refine ⟨nI s9, dap (dap da0 0 (gm1 a n) (fun t => dgv (gx a n) a (g2 a n + t))) (gm1 a n) (gm2 a n) (fun t => dgv (gx a n) a (g2 a n + gm1 a n + 1 + t)), ?_, ?_⟩
  · refine hend.trans ?_
    rw [show ltr (gx a n) a n (gq a n) = gl a n from rfl, show sgi a n (gq a n + 1) = gj a n from rfl]
    unfold gW
    cases gl a n
    · rw [if_neg (by decide), if_neg (by decide), if_neg (by decide), Bool.false_and, Bool.not_false, Bool.and_true]
    · rw [if_pos rfl, if_pos rfl, if_pos rfl, Bool.true_and, Bool.not_true, Bool.and_false]
  · intro j hj
    unfold dap gd
    by_cases c : j < gm1 a n
    · rw [if_neg (by omega), if_pos (by omega), if_pos c, Nat.sub_zero]
    · rw [if_pos (by omega), if_neg c]

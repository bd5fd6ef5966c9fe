/-! the reference's reader: steps and runs -/
def acc (s : Nat) : Bool := s == 2 || s == 3 || s == 5 || s == 8 || s == 9 || s == 13 || s == 15 || s == 18
theorem isWhole_eq : ∀ s, s < 19 → f_M_isWhole (nI s) = some (bz (acc s)) := by decide +kernel
/-- the reference's loop at place p in state s -/
def mw (f n : Nat) (am : Nat → Int32) (p s D Bh Pw : Nat) (pl ls pd sx : Bool) (da : Nat → Int32) := f_M_wrong_42 f (nI n) (nI s) (nI D) (nI Bh) (nI Pw) (bz pl) (bz ls) (bz pd) (bz sx) da am (nI p)
theorem mw_step {f n p s s' D Bh Pw D' Bh' Pw' : Nat} {am a : Nat → Int32} {pl ls pd sx pl' ls' pd' sx' : Bool} {da da' : Nat → Int32} (hn : n ≤ 1200) (hB : ∀ i, i < n → bt8 am i = bt8 a i) (hp : p < n) (hs : s < 19) (hx : nx s (bt8 a p) = some s')
    (hnote : f_M_note (nI D) (nI Bh) (nI Pw) (bz pl) (bz ls) (bz pd) (bz sx) da (nI s') (nI (bt8 a p)) = some (nI D', nI Bh', nI Pw', bz pl', bz ls', bz pd', bz sx', da')) :
    mw (f + 1) n am p s D Bh Pw pl ls pd sx da = mw f n am (p + 1) s' D' Bh' Pw' pl' ls' pd' sx' da' := by
  show f_M_wrong_42b _ _ _ _ _ _ _ _ _ _ _ _ _ = _
  unfold f_M_wrong_42b
  have hs' := nx_lt hs (bt8_lt a p) hx
  have hbyte : am (nI p).toNatClampNeg &&& (255 : Int32) = nI (bt8 a p) := by rw [nI_clamp (by omega), bt8_and, hB p hp]
  rw [if_neg (nI_ge hp (by omega)), ck_s (gin_nI (by omega) (by decide)), hbyte, next_eq s hs _ (bt8_lt a p), bi1_s, hx, show dvI (some s') = nI s' from rfl, if_pos (nI_pos' (by omega)), ck_s (gin_nI (by omega) (by decide)), hnote, bi8_s, bd_s, nI_1]
  rfl
theorem mw_stop {f n p s D Bh Pw : Nat} {am a : Nat → Int32} {pl ls pd sx : Bool} {da : Nat → Int32} (hn : n ≤ 1200) (hB : ∀ i, i < n → bt8 am i = bt8 a i) (hp : p < n) (hs : s < 19) (hx : nx s (bt8 a p) = none) :
    mw (f + 1) n am p s D Bh Pw pl ls pd sx da = some (nI p, nI s, nI D, nI Bh, nI Pw, bz pl, bz ls, bz pd, bz sx, da) := by
  show f_M_wrong_42b _ _ _ _ _ _ _ _ _ _ _ _ _ = _
  unfold f_M_wrong_42b
  have hbyte : am (nI p).toNatClampNeg &&& (255 : Int32) = nI (bt8 a p) := by rw [nI_clamp (by omega), bt8_and, hB p hp]
  rw [if_neg (nI_ge hp (by omega)), ck_s (gin_nI (by omega) (by decide)), hbyte, next_eq s hs _ (bt8_lt a p), bi1_s, hx, if_neg (show ¬ (0 : Int32) ≤ dvI none from by decide)]
theorem mw_end {f n s D Bh Pw : Nat} {am : Nat → Int32} {pl ls pd sx : Bool} {da : Nat → Int32} (hn : n ≤ 1200) (hs : s < 19) :
    mw (f + 1) n am n s D Bh Pw pl ls pd sx da = some (if acc s then -1 else nI n, nI s, nI D, nI Bh, nI Pw, bz pl, bz ls, bz pd, bz sx, da) := by
  show f_M_wrong_42b _ _ _ _ _ _ _ _ _ _ _ _ _ = _
  unfold f_M_wrong_42b f_M_wrong_100
  rw [if_pos (nI_le (by omega) (by omega)), isWhole_eq s hs, bi1_s]
  cases acc s
  · rw [if_pos (show bz false = 0 from rfl)]; rfl
  · rw [if_neg (show ¬ bz true = 0 from by decide)]; rfl
/-- the table, row by row -/
theorem nx_bl0 : ∀ b, b < 256 → isBl b = true → nx 0 b = some 0 := by decide +kernel
theorem nx_sg : ∀ b, b < 256 → (b = 43 ∨ b = 45) → nx 0 b = some 1 := by decide +kernel
theorem nx_d0 : ∀ b, b < 256 → (dv false b).isSome = true → nx 0 b = some (if b = 48 then 2 else 3) := by decide +kernel
theorem nx_d1 : ∀ b, b < 256 → (dv false b).isSome = true → nx 1 b = some (if b = 48 then 2 else 3) := by decide +kernel
theorem nx_p0 : nx 0 46 = some 4 := by decide +kernel
theorem nx_p1 : nx 1 46 = some 4 := by decide +kernel
theorem nx_n0 : ∀ b, b < 256 → isBl b = false → ¬ (b = 43 ∨ b = 45) → (dv false b).isSome = false → b ≠ 46 → nx 0 b = none := by decide +kernel
theorem nx_n1 : ∀ b, b < 256 → (dv false b).isSome = false → b ≠ 46 → nx 1 b = none := by decide +kernel
theorem nx_2x : nx 2 120 = some 12 ∧ nx 2 88 = some 12 := by decide +kernel
theorem nx_d2 : ∀ b, b < 256 → (dv false b).isSome = true → nx 2 b = some 3 := by decide +kernel
theorem nx_d3 : ∀ b, b < 256 → (dv false b).isSome = true → nx 3 b = some 3 := by decide +kernel
theorem nx_d5 : ∀ b, b < 256 → (dv false b).isSome = true → nx 5 b = some 5 := by decide +kernel
theorem nx_d4 : ∀ b, b < 256 → (dv false b).isSome = true → nx 4 b = some 5 := by decide +kernel
theorem nx_n4 : ∀ b, b < 256 → (dv false b).isSome = false → nx 4 b = none := by decide +kernel
theorem nx_pt : nx 2 46 = some 5 ∧ nx 3 46 = some 5 ∧ nx 13 46 = some 15 := by decide +kernel
theorem nx_h12 : ∀ b, b < 256 → (dv true b).isSome = true → nx 12 b = some 13 := by decide +kernel
theorem nx_h13 : ∀ b, b < 256 → (dv true b).isSome = true → nx 13 b = some 13 := by decide +kernel
theorem nx_h14 : ∀ b, b < 256 → (dv true b).isSome = true → nx 14 b = some 15 := by decide +kernel
theorem nx_h15 : ∀ b, b < 256 → (dv true b).isSome = true → nx 15 b = some 15 := by decide +kernel
theorem nx_p12 : nx 12 46 = some 14 := by decide +kernel
theorem nx_n12 : ∀ b, b < 256 → (dv true b).isSome = false → b ≠ 46 → nx 12 b = none := by decide +kernel
theorem nx_n14 : ∀ b, b < 256 → (dv true b).isSome = false → nx 14 b = none := by decide +kernel
/-- a state in which the digits may end: 2, 3, 5 or 13, 15 -/
def fin (sx : Bool) (s : Nat) : Bool := if sx then s == 13 || s == 15 else s == 2 || s == 3 || s == 5
def isE (sx : Bool) (b : Nat) : Bool := if sx then b == 112 || b == 80 else b == 101 || b == 69
/-- the byte that may not stand behind the digits in that state: a digit more, a point (before one), an x -/
def goes (sx : Bool) (s b : Nat) : Bool := (dv sx b).isSome || (b == 46 && (s == 2 || s == 3 || s == 13)) || (s == 2 && (b == 120 || b == 88))
theorem nx_fin : ∀ sx : Bool, ∀ s, s < 19 → fin sx s = true → ∀ b, b < 256 → goes sx s b = false → nx s b = (if isE sx b then some (if sx then 16 else 6) else if isBl b then some 9 else none) := by decide +kernel
theorem nx_e : ∀ sx : Bool, ∀ b, b < 256 → nx (if sx then 16 else 6) b = (if b = 43 ∨ b = 45 then some (if sx then 17 else 7) else if (dv false b).isSome then some (if sx then 18 else 8) else none) := by decide +kernel
theorem nx_es : ∀ sx : Bool, ∀ b, b < 256 → nx (if sx then 17 else 7) b = (if (dv false b).isSome then some (if sx then 18 else 8) else none) := by decide +kernel
theorem nx_ed : ∀ sx : Bool, ∀ b, b < 256 → nx (if sx then 18 else 8) b = (if (dv false b).isSome then some (if sx then 18 else 8) else if isBl b then some 9 else none) := by decide +kernel
theorem nx_9 : ∀ b, b < 256 → nx 9 b = (if isBl b then some 9 else none) := by decide +kernel
theorem bl_dg : ∀ b, b < 256 → isBl b = true → (dv false b).isSome = false ∧ (dv true b).isSome = false ∧ ¬ (b = 43 ∨ b = 45) := by decide +kernel
/-- blanks at the front -/
theorem mw_blanks0 {n : Nat} (hn : n ≤ 1200) {am a : Nat → Int32} (hB : ∀ i, i < n → bt8 am i = bt8 a i) {D Bh Pw : Nat} {pl ls pd sx : Bool} {da : Nat → Int32} : ∀ (k f p : Nat), p + k ≤ n → (∀ j, j < k → isBl (bt8 a (p + j)) = true) →
    mw (f + k) n am p 0 D Bh Pw pl ls pd sx da = mw f n am (p + k) 0 D Bh Pw pl ls pd sx da := by
  intro k
  induction k with
  | zero => intro f p _ _; rfl
  | succ k ih =>
    intro f p h hb
    have h0 := hb 0 (by omega)
    rw [Nat.add_zero] at h0
    rw [show f + (k + 1) = (f + k) + 1 from by omega, mw_step hn hB (by omega) (by decide) (nx_bl0 _ (bt8_lt a p) h0) (note_0 (nI 0) (Or.inl rfl) _ _ _ pl ls pd sx da _), ih f (p + 1) (by omega) (fun j hj => by
      have := hb (j + 1) (by omega)
      rw [show p + 1 + j = p + (j + 1) from by omega]; exact this), show p + 1 + k = p + (k + 1) from by omega]
/-- blanks at the end, to the end of the reading -/
theorem mw_tail9 {n : Nat} (hn : n ≤ 1200) {am a : Nat → Int32} (hB : ∀ i, i < n → bt8 am i = bt8 a i) {D Bh Pw : Nat} {pl ls pd sx : Bool} {da : Nat → Int32} : ∀ (m f p : Nat), p + m = n → m < f →
    mw f n am p 9 D Bh Pw pl ls pd sx da = some (if n ≤ p + rn (fun j => isBl (bt8 a j)) m p then -1 else nI (p + rn (fun j => isBl (bt8 a j)) m p), nI 9, nI D, nI Bh, nI Pw, bz pl, bz ls, bz pd, bz sx, da) := by
  intro m
  induction m with
  | zero =>
    intro f p h hf
    obtain ⟨f, rfl⟩ : ∃ k, f = k + 1 := ⟨f - 1, by omega⟩
    have hp : p = n := by omega
    subst hp
    rw [mw_end hn (by decide), if_pos (show acc 9 = true from rfl), if_pos (by omega)]
  | succ m ih =>
    intro f p h hf
    obtain ⟨f, rfl⟩ : ∃ k, f = k + 1 := ⟨f - 1, by omega⟩
    unfold rn
    by_cases c : isBl (bt8 a p) = true
    · rw [mw_step hn hB (by omega) (by decide) (by rw [nx_9 _ (bt8_lt a p), if_pos c]) (note_0 (nI 9) (Or.inr rfl) _ _ _ pl ls pd sx da _), ih f (p + 1) (by omega) (by omega), if_pos c, show p + (rn (fun j => isBl (bt8 a j)) m (p + 1) + 1) = p + 1 + rn (fun j => isBl (bt8 a j)) m (p + 1) from by omega]
    · rw [mw_stop hn hB (by omega) (by decide) (by rw [nx_9 _ (bt8_lt a p), if_neg c]), if_neg c, if_neg (by omega)]
      rfl
/-- from a state that accepts and lets blanks follow, at a byte that neither goes on -/
theorem mw_tail {n : Nat} (hn : n ≤ 1200) {am a : Nat → Int32} (hB : ∀ i, i < n → bt8 am i = bt8 a i) {s D Bh Pw : Nat} {pl ls pd sx : Bool} {da : Nat → Int32} (hs : s < 19) (ha : acc s = true) {f p : Nat} (hp : p ≤ n) (hf : n - p < f)
    (hx : p < n → nx s (bt8 a p) = (if isBl (bt8 a p) then some 9 else none)) :
    ∃ s', mw f n am p s D Bh Pw pl ls pd sx da = some (if n ≤ p + rn (fun j => isBl (bt8 a j)) (n - p) p then -1 else nI (p + rn (fun j => isBl (bt8 a j)) (n - p) p), nI s', nI D, nI Bh, nI Pw, bz pl, bz ls, bz pd, bz sx, da) := by
  obtain ⟨f, rfl⟩ : ∃ k, f = k + 1 := ⟨f - 1, by omega⟩
  by_cases c : p < n
  · obtain ⟨m, hm⟩ : ∃ m, n - p = m + 1 := ⟨n - p - 1, by omega⟩
    rw [hm]
    unfold rn
    by_cases b : isBl (bt8 a p) = true
    · refine ⟨9, ?_⟩
      rw [mw_step hn hB c hs (by rw [hx c, if_pos b]) (note_0 (nI 9) (Or.inr rfl) _ _ _ pl ls pd sx da _), mw_tail9 hn hB m f (p + 1) (by omega) (by omega), if_pos b, show p + (rn (fun j => isBl (bt8 a j)) m (p + 1) + 1) = p + 1 + rn (fun j => isBl (bt8 a j)) m (p + 1) from by omega]
    · refine ⟨s, ?_⟩
      rw [mw_stop hn hB c hs (by rw [hx c, if_neg b]), if_neg b, if_neg (by omega)]
      rfl
  · have hp' : p = n := by omega
    subst hp'
    refine ⟨s, ?_⟩
    rw [mw_end hn hs, if_pos ha, Nat.sub_self]
    unfold rn
    rw [if_pos (by omega)]
/-- the digits of the power, then the end -/
theorem mw_power {n : Nat} (hn : n ≤ 1200) {am a : Nat → Int32} (hB : ∀ i, i < n → bt8 am i = bt8 a i) {D Bh : Nat} {pl ls pd sx : Bool} {da : Nat → Int32} : ∀ (m f p Pw : Nat), p + m = n → m < f → Pw < 1000000 →
    ∃ s', mw f n am p (if sx then 18 else 8) D Bh Pw pl ls pd sx da = some (if n ≤ p + rn (isDg false a) m p + rn (fun j => isBl (bt8 a j)) (n - (p + rn (isDg false a) m p)) (p + rn (isDg false a) m p) then -1 else nI (p + rn (isDg false a) m p + rn (fun j => isBl (bt8 a j)) (n - (p + rn (isDg false a) m p)) (p + rn (isDg false a) m p)), nI s', nI D, nI Bh, nI (pmf a (rn (isDg false a) m p) p Pw), bz pl, bz ls, bz pd, bz sx, da) := by
  have hsl : (if sx = true then 18 else 8) < 19 := by cases sx <;> decide
  have hsa : acc (if sx = true then 18 else 8) = true := by cases sx <;> decide
  have hs8 : nI (if sx = true then 18 else 8) = 8 ∨ nI (if sx = true then 18 else 8) = 18 := by cases sx <;> decide
  intro m
  induction m with
  | zero =>
    intro f p Pw h hf hP
    obtain ⟨s', h'⟩ := mw_tail hn hB (D := D) (Bh := Bh) (Pw := Pw) (pl := pl) (ls := ls) (pd := pd) (sx := sx) (da := da) hsl hsa (f := f) (p := p) (by omega) (by omega) (fun q => by omega)
    exact ⟨s', h'⟩
  | succ m ih =>
    intro f p Pw h hf hP
    have hb := bt8_lt a p
    cases q : dv false (bt8 a p) with
    | none =>
      have c' : ¬ isDg false a p = true := by unfold isDg; rw [q]; decide
      have r0 : rn (isDg false a) (m + 1) p = 0 := by unfold rn; rw [if_neg c']
      obtain ⟨s', h'⟩ := mw_tail hn hB (D := D) (Bh := Bh) (Pw := Pw) (pl := pl) (ls := ls) (pd := pd) (sx := sx) (da := da) hsl hsa (f := f) (p := p) (by omega) (by omega) (fun _ => by rw [nx_ed sx _ hb, q]; rfl)
      rw [r0]
      exact ⟨s', h'⟩
    | some d =>
      obtain ⟨f, rfl⟩ : ∃ k, f = k + 1 := ⟨f - 1, by omega⟩
      have c' : isDg false a p = true := by unfold isDg; rw [q]; rfl
      have hdt : dgt a p = d := by unfold dgt; rw [q]; rfl
      have r1 : rn (isDg false a) (m + 1) p = rn (isDg false a) m (p + 1) + 1 := by
        show (if isDg false a p = true then rn (isDg false a) m (p + 1) + 1 else 0) = _
        rw [if_pos c']
      have hlt : pwn Pw d < 1000000 := by
        have := pmf_lt a 1 p Pw hP
        have e : pmf a 1 p Pw = pwn Pw d := by rw [← hdt]; rfl
        omega
      obtain ⟨s', h'⟩ := ih f (p + 1) (pwn Pw d) (by omega) (by omega) hlt
      refine ⟨s', ?_⟩
      rw [mw_step hn hB (by omega) hsl (by rw [nx_ed sx _ hb, q]; rfl) (note_power _ hs8 _ _ hP pl ls pd sx da hb q), h', r1, show p + (rn (isDg false a) m (p + 1) + 1) = p + 1 + rn (isDg false a) m (p + 1) from by omega]
      rw [show pmf a (rn (isDg false a) m (p + 1) + 1) p Pw = pmf a (rn (isDg false a) m (p + 1)) (p + 1) (pwn Pw d) from by rw [← hdt]; rfl]

/-! bytes of the tape; what the two readers say of one byte -/
def bt8 (a : Nat → Int32) (i : Nat) : Nat := (a i).toBitVec.toNat % 256
theorem bt8_lt (a : Nat → Int32) (i : Nat) : bt8 a i < 256 := Nat.mod_lt _ (by decide)
theorem bt8_and (a : Nat → Int32) (i : Nat) : a i &&& (255 : Int32) = nI (bt8 a i) := pk_and (a i) 8 (by decide)
theorem tape_at {n : Nat} (hn : n ≤ 1200) (a : Nat → Int32) {i : Nat} (hi : i < 2147483648) : f_Tape_at (nI n) a (nI i) = some (if i < n then nI (bt8 a i) else -1) := by
  unfold f_Tape_at f_Tape_at_21
  rw [if_neg (nI_pos hi)]
  by_cases c : i < n
  · rw [if_neg (nI_ge c (by omega)), if_pos (show nI i < (1200 : Int32) from nI_lt (b := 1200) (by omega) (by decide)), ck_s (gin_nI (by omega) (by decide)), nI_clamp hi, bt8_and, if_pos c]
  · rw [if_pos (nI_le (by omega) hi), if_neg c]
def isBl (b : Nat) : Bool := b == 32 || (9 ≤ b && b ≤ 13)
/-- the digit that a byte is, or none -/
def dv (sx : Bool) (b : Nat) : Option Nat :=
  if 48 ≤ b ∧ b ≤ 57 then some (b - 48) else if sx = true ∧ 97 ≤ b ∧ b ≤ 102 then some (b - 87) else if sx = true ∧ 65 ≤ b ∧ b ≤ 70 then some (b - 55) else none
def dvI (o : Option Nat) : Int32 := match o with
  | some d => nI d
  | none => -1
theorem isBlank_eq : ∀ b, b < 256 → f_Numeral_isBlank (nI b) = some (if isBl b then 1 else 0) := by decide +kernel
theorem isBlank_end : f_Numeral_isBlank (-1) = some 0 := by decide +kernel
theorem digitOf_eq : ∀ b, b < 256 → ∀ sx : Bool, f_Numeral_digitOf (nI b) (if sx then 1 else 0) = some (dvI (dv sx b)) := by decide +kernel
theorem digitOf_end : ∀ sx : Bool, f_Numeral_digitOf (-1) (if sx then 1 else 0) = some (-1) := by decide +kernel
theorem dv_lt : ∀ b, b < 256 → ∀ sx : Bool, ∀ d, dv sx b = some d → d < 16 ∧ (sx = false → d < 10) := by
  intro b _ sx d h
  unfold dv at h
  split at h
  · cases h; omega
  · split at h
    · rename_i c; cases h; exact ⟨by omega, fun q => by rw [q] at c; exact absurd c.1 (by decide)⟩
    · split at h
      · rename_i c; cases h; exact ⟨by omega, fun q => by rw [q] at c; exact absurd c.1 (by decide)⟩
      · cases h
/-- the reference's step, as a table -/
def nx (s b : Nat) : Option Nat := match f_M_next (nI s) (nI b) with
  | some r => if r < 0 then none else some r.toNatClampNeg
  | none => none
theorem next_eq : ∀ s, s < 19 → ∀ b, b < 256 → f_M_next (nI s) (nI b) = some (dvI (nx s b)) := by decide +kernel
theorem nx_lt0 : ∀ s, s < 19 → ∀ b, b < 256 → (nx s b).getD 0 < 19 := by decide +kernel
theorem nx_lt {s b r : Nat} (hs : s < 19) (hb : b < 256) (h : nx s b = some r) : r < 19 := by
  have := nx_lt0 s hs b hb
  rw [h] at this
  exact this
/-- booleans as the machine keeps them -/
def bz (x : Bool) : Int32 := if x then 1 else 0
theorem bz_ck (x : Bool) : ckZ (bz x) := by cases x <;> decide
theorem bz_0 (x : Bool) : (bz x = 0) = (x = false) := by cases x <;> simp [bz]
theorem hex_eq : ∀ b, b < 256 → f_M_hex (nI b) = some (dvI (dv true b)) := by decide +kernel
theorem isDigit_eq : ∀ b, b < 256 → f_M_isDigit (nI b) = some (bz (dv false b).isSome) := by decide +kernel
theorem byte_d : ∀ d, d < 16 → ((nI d).toInt8.toInt32).toInt8.toInt32 = nI d := by decide +kernel
/-- the reference's note, link by link (s: the state that is come to) -/
theorem nt_24 {s : Int32} (h12 : ¬ s = 12) (dg bh pw pl : Int32) (ls l0 : Bool) (pd : Int32) (sx : Bool) (da : Nat → Int32) (c : Int32) : f_M_note_24 dg bh pw pl (bz l0) pd (bz sx) da s c (bz ls) = f_M_note_46 dg bh pw pl (bz ls) pd (bz sx) da s c (bz sx) := by
  unfold f_M_note_24 f_M_note_41
  rw [ck_s (bz_ck ls)]
  cases sx
  · rw [if_pos (show bz false = 0 from rfl), if_neg h12]; rfl
  · rw [if_neg (show ¬ bz true = 0 from by decide)]; rfl
theorem nt_1 {s : Int32} (h1 : ¬ s = 1) (dg bh pw pl : Int32) (ls : Bool) (pd sx : Int32) (da : Nat → Int32) (c : Int32) : f_M_note dg bh pw pl (bz ls) pd sx da s c = f_M_note_24 dg bh pw pl (bz ls) pd sx da s c (bz ls) := by
  unfold f_M_note f_M_note_19 f_M_note_23
  cases ls
  · rw [if_pos (show bz false = 0 from rfl), if_neg h1]; rfl
  · rw [if_neg (show ¬ bz true = 0 from by decide)]; rfl
def spo (s : Int32) : Bool := decide (s = 4) || decide (s = 5) || decide (s = 6) || decide (s = 14) || decide (s = 15) || decide (s = 16)
theorem nt_46 (s : Int32) (dg bh pw pl ls : Int32) (pd sx s0 : Bool) (da : Nat → Int32) (c : Int32) : f_M_note_46 dg bh pw pl ls (bz pd) (bz s0) da s c (bz sx) = f_M_note_96 dg bh pw pl ls (bz pd) (bz sx) da s c (bz (pd && !spo s)) := by
  unfold f_M_note_46 f_M_note_95
  rw [ck_s (bz_ck sx)]
  cases pd
  · rw [if_pos (show bz false = 0 from rfl)]; rfl
  · rw [if_neg (show ¬ bz true = 0 from by decide)]
    unfold spo
    by_cases h4 : s = 4
    · rw [if_pos h4]; simp [h4, bz]
    rw [if_neg h4]
    by_cases h5 : s = 5
    · rw [if_pos h5]; simp [h5, bz]
    rw [if_neg h5]
    by_cases h6 : s = 6
    · rw [if_pos h6]; simp [h6, bz]
    rw [if_neg h6]
    by_cases h14 : s = 14
    · rw [if_pos h14]; simp [h14, bz]
    rw [if_neg h14]
    by_cases h15 : s = 15
    · rw [if_pos h15]; simp [h15, bz]
    rw [if_neg h15]
    by_cases h16 : s = 16
    · rw [if_pos h16]; simp [h16, bz]
    rw [if_neg h16]
    simp [h4, h5, h6, h14, h15, h16, bz]
theorem nt_96 {s : Int32} (h7 : ¬ s = 7) (h17 : ¬ s = 17) (dg bh pw : Int32) (pl : Bool) (ls p0 : Int32) (pd : Bool) (sx : Int32) (da : Nat → Int32) (c : Int32) : f_M_note_96 dg bh pw (bz pl) ls p0 sx da s c (bz pd) = f_M_note_130 dg bh pw (bz pl) ls (bz pd) sx da s c (bz pl) := by
  unfold f_M_note_96 f_M_note_129 f_M_note_125
  rw [ck_s (bz_ck pd)]
  cases pl
  · rw [if_pos (show bz false = 0 from rfl), if_neg h7, if_neg h17]; rfl
  · rw [if_neg (show ¬ bz true = 0 from by decide)]; rfl
/-- all states but 1, 7, 12, 17 -/
theorem nt_all {s : Int32} (h1 : ¬ s = 1) (h7 : ¬ s = 7) (h12 : ¬ s = 12) (h17 : ¬ s = 17) (dg bh pw : Int32) (pl ls pd sx : Bool) (da : Nat → Int32) (c : Int32) : f_M_note dg bh pw (bz pl) (bz ls) (bz pd) (bz sx) da s c = f_M_note_130 dg bh pw (bz pl) (bz ls) (bz (pd && !spo s)) (bz sx) da s c (bz pl) := by
  rw [nt_1 h1, nt_24 h12, nt_46, nt_96 h7 h17]
theorem nt_244 {s : Int32} (h8 : ¬ s = 8) (h18 : ¬ s = 18) (dg bh pw pl ls pd sx : Int32) (da : Nat → Int32) (c : Int32) : f_M_note_244 dg bh pw pl ls pd sx da s c = some (dg, bh, pw, pl, ls, pd, sx, da) := by
  unfold f_M_note_244
  rw [if_neg h8, if_neg h18]
theorem nt_178 {s : Int32} (h12 : ¬ s = 12) (dg bh pw pl ls pd sx : Int32) (da : Nat → Int32) (c : Int32) : f_M_note_178 dg bh pw pl ls pd sx da s c = f_M_note_244 dg bh pw pl ls pd sx da s c := by
  unfold f_M_note_178 f_M_note_179
  rw [if_neg h12]
  unfold f_M_note_191
  rw [if_pos rfl]
/-- states that note no digit: not 2, 3, 5, 13, 15 -/
theorem nt_130n {s : Int32} (h2 : ¬ s = 2) (h3 : ¬ s = 3) (h5 : ¬ s = 5) (h13 : ¬ s = 13) (h15 : ¬ s = 15) (h12 : ¬ s = 12) (dg bh pw pl ls pd sx : Int32) (da : Nat → Int32) (c : Int32) (z : Bool) : f_M_note_130 dg bh pw pl ls pd sx da s c (bz z) = f_M_note_244 dg bh pw (bz z) ls pd sx da s c := by
  unfold f_M_note_130
  rw [ck_s (bz_ck z), if_neg h2, if_neg h3, if_neg h5]
  unfold f_M_note_155
  rw [if_neg h13, if_neg h15, nt_178 h12]
theorem note_0 (s : Int32) (hs : s = 0 ∨ s = 9) (dg bh pw : Int32) (pl ls pd sx : Bool) (da : Nat → Int32) (c : Int32) : f_M_note dg bh pw (bz pl) (bz ls) (bz pd) (bz sx) da s c = some (dg, bh, pw, bz pl, bz ls, bz pd, bz sx, da) := by
  rcases hs with rfl | rfl
  · rw [nt_all (by decide) (by decide) (by decide) (by decide), nt_130n (by decide) (by decide) (by decide) (by decide) (by decide) (by decide), nt_244 (by decide) (by decide), show spo 0 = false from by decide, Bool.not_false, Bool.and_true]
  · rw [nt_all (by decide) (by decide) (by decide) (by decide), nt_130n (by decide) (by decide) (by decide) (by decide) (by decide) (by decide), nt_244 (by decide) (by decide), show spo 9 = false from by decide, Bool.not_false, Bool.and_true]
theorem note_spoil (s : Int32) (hs : s = 4 ∨ s = 6 ∨ s = 14 ∨ s = 16) (dg bh pw : Int32) (pl ls pd sx : Bool) (da : Nat → Int32) (c : Int32) : f_M_note dg bh pw (bz pl) (bz ls) (bz pd) (bz sx) da s c = some (dg, bh, pw, bz pl, bz ls, bz false, bz sx, da) := by
  rcases hs with rfl | rfl | rfl | rfl
  · rw [nt_all (by decide) (by decide) (by decide) (by decide), nt_130n (by decide) (by decide) (by decide) (by decide) (by decide) (by decide), nt_244 (by decide) (by decide), show spo 4 = true from by decide, Bool.not_true, Bool.and_false]
  · rw [nt_all (by decide) (by decide) (by decide) (by decide), nt_130n (by decide) (by decide) (by decide) (by decide) (by decide) (by decide), nt_244 (by decide) (by decide), show spo 6 = true from by decide, Bool.not_true, Bool.and_false]
  · rw [nt_all (by decide) (by decide) (by decide) (by decide), nt_130n (by decide) (by decide) (by decide) (by decide) (by decide) (by decide), nt_244 (by decide) (by decide), show spo 14 = true from by decide, Bool.not_true, Bool.and_false]
  · rw [nt_all (by decide) (by decide) (by decide) (by decide), nt_130n (by decide) (by decide) (by decide) (by decide) (by decide) (by decide), nt_244 (by decide) (by decide), show spo 16 = true from by decide, Bool.not_true, Bool.and_false]
theorem nI_b45 {b : Nat} (hb : b < 256) : (nI b = (45 : Int32)) = ((b == 45) = true) := by
  rw [show (45 : Int32) = nI 45 from rfl, propext (nI_eq (a := b) (b := 45) (by omega) (by decide))]
  simp
theorem note_sign (dg bh pw : Int32) (pl pd sx : Bool) (da : Nat → Int32) {b : Nat} (hb : b < 256) : f_M_note dg bh pw (bz pl) (bz false) (bz pd) (bz sx) da 1 (nI b) = some (dg, bh, pw, bz pl, bz (b == 45), bz pd, bz sx, da) := by
  have e : ∀ l : Bool, f_M_note_24 dg bh pw (bz pl) (bz false) (bz pd) (bz sx) da 1 (nI b) (bz l) = some (dg, bh, pw, bz pl, bz l, bz pd, bz sx, da) := by
    intro l
    rw [nt_24 (by decide), nt_46, nt_96 (by decide) (by decide), nt_130n (by decide) (by decide) (by decide) (by decide) (by decide) (by decide), nt_244 (by decide) (by decide), show spo 1 = false from by decide, Bool.not_false, Bool.and_true]
  unfold f_M_note f_M_note_19 f_M_note_23
  rw [if_pos (show bz false = 0 from rfl), if_pos rfl, ite_c (nI_b45 hb)]
  cases hq : (b == 45)
  · rw [if_neg (by decide)]; exact e false
  · rw [if_pos rfl]; exact e true
theorem note_psign (s : Int32) (hs : s = 7 ∨ s = 17) (dg bh pw : Int32) (ls pd sx : Bool) (da : Nat → Int32) {b : Nat} (hb : b < 256) : f_M_note dg bh pw (bz false) (bz ls) (bz pd) (bz sx) da s (nI b) = some (dg, bh, pw, bz (b == 45), bz ls, bz pd, bz sx, da) := by
  have hsp : spo s = false := by rcases hs with rfl | rfl <;> decide
  have n1 : ¬ s = 1 := by rcases hs with rfl | rfl <;> decide
  have n12 : ¬ s = 12 := by rcases hs with rfl | rfl <;> decide
  have e : ∀ z : Bool, f_M_note_130 dg bh pw (bz false) (bz ls) (bz pd) (bz sx) da s (nI b) (bz z) = some (dg, bh, pw, bz z, bz ls, bz pd, bz sx, da) := by
    intro z
    rcases hs with rfl | rfl
    · rw [nt_130n (by decide) (by decide) (by decide) (by decide) (by decide) (by decide), nt_244 (by decide) (by decide)]
    · rw [nt_130n (by decide) (by decide) (by decide) (by decide) (by decide) (by decide), nt_244 (by decide) (by decide)]
  rw [nt_1 n1, nt_24 n12, nt_46, hsp, Bool.not_false, Bool.and_true]
  have e119 : f_M_note_119 dg bh pw (bz false) (bz ls) (bz pd) (bz sx) da s (nI b) = some (dg, bh, pw, bz (b == 45), bz ls, bz pd, bz sx, da) := by
    unfold f_M_note_119 f_M_note_125 f_M_note_129
    rw [ite_c (nI_b45 hb)]
    cases hq : (b == 45)
    · rw [if_neg (by decide)]; exact e false
    · rw [if_pos rfl]; exact e true
  unfold f_M_note_96
  rw [ck_s (bz_ck pd), if_pos (show bz false = 0 from rfl), e119]
  rcases hs with rfl | rfl
  · rw [if_pos rfl]
  · rw [if_neg (by decide), if_pos rfl]
theorem note_12 (dg bh pw : Int32) (pl ls pd sx : Bool) (da : Nat → Int32) (c : Int32) : f_M_note dg bh pw (bz pl) (bz ls) (bz pd) (bz sx) da 12 c = some (0, bh, pw, bz pl, bz ls, bz pd, bz true, da) := by
  have e : f_M_note_46 dg bh pw (bz pl) (bz ls) (bz pd) (bz sx) da 12 c (bz true) = some (0, bh, pw, bz pl, bz ls, bz pd, bz true, da) := by
    rw [nt_46, nt_96 (by decide) (by decide), show spo 12 = false from by decide, Bool.not_false, Bool.and_true]
    unfold f_M_note_130
    rw [ck_s (bz_ck pl), if_neg (by decide), if_neg (by decide), if_neg (by decide)]
    unfold f_M_note_155
    rw [if_neg (by decide), if_neg (by decide)]
    unfold f_M_note_178 f_M_note_179
    rw [if_pos rfl]
    unfold f_M_note_191
    rw [if_pos rfl, nt_244 (by decide) (by decide)]
  rw [nt_1 (by decide)]
  unfold f_M_note_24 f_M_note_41
  rw [ck_s (bz_ck ls), if_pos rfl]
  have e' : f_M_note_46 dg bh pw (bz pl) (bz ls) (bz pd) (bz sx) da 12 c 1 = some (0, bh, pw, bz pl, bz ls, bz pd, bz true, da) := e
  rw [e']
  cases sx
  · rw [if_pos (show bz false = 0 from rfl)]
  · rw [if_neg (show ¬ bz true = 0 from by decide)]
/-- a digit is noted -/
theorem nt_191 {D : Nat} (hD : D < 1200) {s : Int32} (h8 : ¬ s = 8) (h18 : ¬ s = 18) {Bh : Nat} (pw pl ls pd sx : Int32) (da : Nat → Int32) {b d : Nat} (hb : b < 256) (hd : dv true b = some d) : f_M_note_191 (nI D) (nI Bh) pw pl ls pd sx da s (nI b) 1 = some (nI (D + 1), nI (Bh + (if s = 5 ∨ s = 15 then 1 else 0)), pw, pl, ls, pd, sx, upd da D (nI d)) := by
  have hd16 := (dv_lt b hb true d hd).1
  unfold f_M_note_191
  rw [if_neg (by decide), hex_eq b hb, bi1_s, hd, ck_s (gin_nI hD (by decide)), bd_s, bd_s, nI_clamp (by omega), nI_1, show dvI (some d) = nI d from rfl, byte_d d hd16]
  unfold f_M_note_235 f_M_note_240
  by_cases h5 : s = 5
  · rw [if_pos h5, if_pos (Or.inl h5), bd_s, nI_1, nt_244 h8 h18]
  · rw [if_neg h5]
    by_cases h15 : s = 15
    · rw [if_pos h15, if_pos (Or.inr h15), bd_s, nI_1, nt_244 h8 h18]
    · rw [if_neg h15, if_neg (by intro q; rcases q with q | q; exact h5 q; exact h15 q), bd_s, Int32.add_zero, nt_244 h8 h18]
      rfl
theorem nt_174 {D : Nat} (hD : D < 1200) {s : Int32} (h8 : ¬ s = 8) (h18 : ¬ s = 18) (h12 : ¬ s = 12) {Bh : Nat} (pw pl ls pd sx : Int32) (da : Nat → Int32) {b d : Nat} (hb : b < 256) (hd : dv true b = some d) : f_M_note_174 (nI D) (nI Bh) pw pl ls pd sx da s (nI b) = some (nI (D + 1), nI (Bh + (if s = 5 ∨ s = 15 then 1 else 0)), pw, pl, ls, pd, sx, upd da D (nI d)) := by
  unfold f_M_note_174 f_M_note_179
  rw [if_neg h12]
  exact nt_191 hD h8 h18 pw pl ls pd sx da hb hd
theorem note_digit (s : Int32) (hs : s = 2 ∨ s = 3 ∨ s = 13) {D : Nat} (hD : D < 1200) (Bh : Nat) (pw : Int32) (pl ls pd sx : Bool) (da : Nat → Int32) {b d : Nat} (hb : b < 256) (hd : dv true b = some d) : f_M_note (nI D) (nI Bh) pw (bz pl) (bz ls) (bz pd) (bz sx) da s (nI b) = some (nI (D + 1), nI Bh, pw, bz pl, bz ls, bz pd, bz sx, upd da D (nI d)) := by
  have hsp : spo s = false := by rcases hs with rfl | rfl | rfl <;> decide
  have n1 : ¬ s = 1 := by rcases hs with rfl | rfl | rfl <;> decide
  have n7 : ¬ s = 7 := by rcases hs with rfl | rfl | rfl <;> decide
  have n12 : ¬ s = 12 := by rcases hs with rfl | rfl | rfl <;> decide
  have n17 : ¬ s = 17 := by rcases hs with rfl | rfl | rfl <;> decide
  have n8 : ¬ s = 8 := by rcases hs with rfl | rfl | rfl <;> decide
  have n18 : ¬ s = 18 := by rcases hs with rfl | rfl | rfl <;> decide
  have n5 : ¬ (s = 5 ∨ s = 15) := by rcases hs with rfl | rfl | rfl <;> decide
  have e : f_M_note_174 (nI D) (nI Bh) pw (bz pl) (bz ls) (bz pd) (bz sx) da s (nI b) = some (nI (D + 1), nI Bh, pw, bz pl, bz ls, bz pd, bz sx, upd da D (nI d)) := by
    have e0 := nt_174 hD n8 n18 n12 (Bh := Bh) pw (bz pl) (bz ls) (bz pd) (bz sx) da hb hd
    rw [if_neg n5] at e0
    exact e0
  rw [nt_all n1 n7 n12 n17, hsp, Bool.not_false, Bool.and_true]
  unfold f_M_note_130
  rw [ck_s (bz_ck pl), e]
  rcases hs with rfl | rfl | rfl
  · rw [if_pos rfl]
  · rw [if_neg (by decide), if_pos rfl]
  · rw [if_neg (by decide), if_neg (by decide), if_neg (by decide)]
    unfold f_M_note_155
    rw [if_pos rfl]
    exact e
theorem note_point (s : Int32) (hs : s = 5 ∨ s = 15) (dg bh pw : Int32) (pl ls pd sx : Bool) (da : Nat → Int32) : f_M_note dg bh pw (bz pl) (bz ls) (bz pd) (bz sx) da s (nI 46) = some (dg, bh, pw, bz pl, bz ls, bz false, bz sx, da) := by
  have hsp : spo s = true := by rcases hs with rfl | rfl <;> decide
  have n1 : ¬ s = 1 := by rcases hs with rfl | rfl <;> decide
  have n7 : ¬ s = 7 := by rcases hs with rfl | rfl <;> decide
  have n12 : ¬ s = 12 := by rcases hs with rfl | rfl <;> decide
  have n17 : ¬ s = 17 := by rcases hs with rfl | rfl <;> decide
  have n8 : ¬ s = 8 := by rcases hs with rfl | rfl <;> decide
  have n18 : ¬ s = 18 := by rcases hs with rfl | rfl <;> decide
  rw [nt_all n1 n7 n12 n17, hsp, Bool.not_true, Bool.and_false]
  unfold f_M_note_130 f_M_note_155
  rw [ck_s (bz_ck pl), isDigit_eq 46 (by decide), hex_eq 46 (by decide), show bz (dv false 46).isSome = 0 from by decide, show dvI (dv true 46) = -1 from by decide, bi1_s, bi1_s, if_pos (show (0 : Int32) = 0 from rfl), if_pos (show (-1 : Int32) < 0 from by decide), nt_178 n12, nt_244 n8 n18]
  rcases hs with rfl | rfl
  · rw [if_neg (by decide), if_neg (by decide), if_pos rfl, if_neg (by decide), if_neg (by decide)]
  · rw [if_neg (by decide), if_neg (by decide), if_neg (by decide), if_neg (by decide), if_pos rfl]
theorem dv_sub : ∀ b, b < 256 → (dv false b).isSome = true → dv true b = dv false b := by decide +kernel
theorem note_behind (s : Int32) (hs : s = 5 ∨ s = 15) {D Bh : Nat} (hD : D < 1200) (pw : Int32) (pl ls pd sx : Bool) (da : Nat → Int32) {b d : Nat} (hb : b < 256) (hd : dv (decide (s = 15)) b = some d) : f_M_note (nI D) (nI Bh) pw (bz pl) (bz ls) (bz pd) (bz sx) da s (nI b) = some (nI (D + 1), nI (Bh + 1), pw, bz pl, bz ls, bz false, bz sx, upd da D (nI d)) := by
  have hsp : spo s = true := by rcases hs with rfl | rfl <;> decide
  have n1 : ¬ s = 1 := by rcases hs with rfl | rfl <;> decide
  have n7 : ¬ s = 7 := by rcases hs with rfl | rfl <;> decide
  have n12 : ¬ s = 12 := by rcases hs with rfl | rfl <;> decide
  have n17 : ¬ s = 17 := by rcases hs with rfl | rfl <;> decide
  have n8 : ¬ s = 8 := by rcases hs with rfl | rfl <;> decide
  have n18 : ¬ s = 18 := by rcases hs with rfl | rfl <;> decide
  have hdt : dv true b = some d := by
    rcases hs with rfl | rfl
    · rw [show decide ((5 : Int32) = 15) = false from by decide] at hd
      rw [dv_sub b hb (by rw [hd]; rfl)]; exact hd
    · rw [show decide ((15 : Int32) = 15) = true from by decide] at hd
      exact hd
  have e := nt_174 hD n8 n18 n12 (Bh := Bh) pw (bz pl) (bz ls) (bz false) (bz sx) da hb hdt
  rw [if_pos hs] at e
  rw [nt_all n1 n7 n12 n17, hsp, Bool.not_true, Bool.and_false]
  unfold f_M_note_130
  rw [ck_s (bz_ck pl)]
  rcases hs with rfl | rfl
  · rw [show decide ((5 : Int32) = 15) = false from by decide] at hd
    rw [if_neg (by decide), if_neg (by decide), if_pos rfl, isDigit_eq b hb, bi1_s, hd, if_neg (show ¬ bz (some d).isSome = 0 from (by decide : ¬ bz true = 0))]
    exact e
  · rw [if_neg (by decide), if_neg (by decide), if_neg (by decide)]
    unfold f_M_note_155
    rw [if_neg (by decide), if_pos rfl, hex_eq b hb, bi1_s, hdt, if_neg (show ¬ dvI (some d) < 0 from nI_pos (by have := (dv_lt b hb true d hdt).1; omega))]
    exact e
def pwn (p d : Nat) : Nat := if p ≤ 99999 then 10 * p + d else p
theorem dv_48 : ∀ b, b < 256 → ∀ d, d < 10 → dv false b = some d → b = d + 48 := by decide +kernel
theorem note_power (s : Int32) (hs : s = 8 ∨ s = 18) (dg bh : Int32) {P : Nat} (hP : P < 1000000) (pl ls pd sx : Bool) (da : Nat → Int32) {b d : Nat} (hb : b < 256) (hd : dv false b = some d) : f_M_note dg bh (nI P) (bz pl) (bz ls) (bz pd) (bz sx) da s (nI b) = some (dg, bh, nI (pwn P d), bz pl, bz ls, bz pd, bz sx, da) := by
  have hd10 := (dv_lt b hb false d hd).2 rfl
  have hb48 := dv_48 b hb d hd10 hd
  have hsp : spo s = false := by rcases hs with rfl | rfl <;> decide
  have n1 : ¬ s = 1 := by rcases hs with rfl | rfl <;> decide
  have n7 : ¬ s = 7 := by rcases hs with rfl | rfl <;> decide
  have n12 : ¬ s = 12 := by rcases hs with rfl | rfl <;> decide
  have n17 : ¬ s = 17 := by rcases hs with rfl | rfl <;> decide
  have n2 : ¬ s = 2 := by rcases hs with rfl | rfl <;> decide
  have n3 : ¬ s = 3 := by rcases hs with rfl | rfl <;> decide
  have n5 : ¬ s = 5 := by rcases hs with rfl | rfl <;> decide
  have n13 : ¬ s = 13 := by rcases hs with rfl | rfl <;> decide
  have n15 : ¬ s = 15 := by rcases hs with rfl | rfl <;> decide
  have e : f_M_note_256 dg bh (nI P) (bz pl) (bz ls) (bz pd) (bz sx) da (nI b) = some (dg, bh, nI (pwn P d), bz pl, bz ls, bz pd, bz sx, da) := by
    unfold f_M_note_256 f_M_note_285 pwn
    by_cases c : P ≤ 99999
    · rw [if_pos (show nI P ≤ (99999 : Int32) from nI_le (b := 99999) c (by decide)), if_pos c, show (10 : Int32) = nI 10 from rfl, pk_mul, nI_add, show (48 : Int32) = nI 48 from rfl, pk_sub (by omega), show 10 * P + b - 48 = 10 * P + d from by omega]
    · rw [if_neg (show ¬ nI P ≤ (99999 : Int32) from nI_ge (a := 99999) (by omega) (by omega)), if_neg c]
  rw [nt_all n1 n7 n12 n17, hsp, Bool.not_false, Bool.and_true, nt_130n n2 n3 n5 n13 n15 n12]
  unfold f_M_note_244
  rw [e]
  rcases hs with rfl | rfl
  · rw [if_pos rfl]
  · rw [if_neg (by decide), if_pos rfl]

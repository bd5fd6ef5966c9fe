/-! bytes of the tape; what the two readers say of one byte -/
def bt8 (a : Nat → Int32) (i : Nat) : Nat := (a i).toBitVec.toNat % 256
theorem bt8_lt (a : Nat → Int32) (i : Nat) : bt8 a i < 256 := Nat.mod_lt _ (by decide)
theorem bt8_and (a : Nat → Int32) (i : Nat) : a i &&& (255 : Int32) = nI (bt8 a i) := pk_and (a i) 8 (by decide)
theorem tape_at {n : Nat} (hn : n ≤ 1200) (a : Nat → Int32) {i : Nat} (hi : i < 2147483648) : f_Tape_at (nI n) a (nI i) = some (if i < n then nI (bt8 a i) else -1) := by
  unfold f_Tape_at f_Tape_at_21
  rw [if_neg (nI_pos hi)]
  by_cases c : i < n
  · rw [if_neg (nI_ge c (by omega)), if_pos (show nI i < (1200 : Int32) from nI_lt (b := 1200) (by omega) (by decide)), ck_s (gin_nI (by omega) (by decide)), nI_clamp hi, bt8_and, if_pos c]
  · rw [if_pos (nI_le (by omega) hi), if_neg c]
def isBl (b : Nat) : Bool := b == 32 || (9 ≤ b && b ≤ 13)
/-- the digit that a byte is, or none -/
def dv (sx : Bool) (b : Nat) : Option Nat :=
  if 48 ≤ b ∧ b ≤ 57 then some (b - 48) else if sx = true ∧ 97 ≤ b ∧ b ≤ 102 then some (b - 87) else if sx = true ∧ 65 ≤ b ∧ b ≤ 70 then some (b - 55) else none
def dvI (o : Option Nat) : Int32 := match o with
  | some d => nI d
  | none => -1
theorem isBlank_eq : ∀ b, b < 256 → f_Numeral_isBlank (nI b) = some (if isBl b then 1 else 0) := by decide +kernel
theorem isBlank_end : f_Numeral_isBlank (-1) = some 0 := by decide +kernel
theorem digitOf_eq : ∀ b, b < 256 → ∀ sx : Bool, f_Numeral_digitOf (nI b) (if sx then 1 else 0) = some (dvI (dv sx b)) := by decide +kernel
theorem digitOf_end : ∀ sx : Bool, f_Numeral_digitOf (-1) (if sx then 1 else 0) = some (-1) := by decide +kernel
theorem dv_lt : ∀ b, b < 256 → ∀ sx : Bool, ∀ d, dv sx b = some d → d < 16 ∧ (sx = false → d < 10) := by
  intro b _ sx d h
  unfold dv at h
  split at h
  · cases h; omega
  · split at h
    · rename_i c; cases h; exact ⟨by omega, fun q => by rw [q] at c; exact absurd c.1 (by decide)⟩
    · split at h
      · rename_i c; cases h; exact ⟨by omega, fun q => by rw [q] at c; exact absurd c.1 (by decide)⟩
      · cases h
/-- the reference's step, as a table -/
def nx (s b : Nat) : Option Nat := match f_M_next (nI s) (nI b) with
  | some r => if r < 0 then none else some r.toNatClampNeg
  | none => none
theorem next_eq : ∀ s, s < 19 → ∀ b, b < 256 → f_M_next (nI s) (nI b) = some (dvI (nx s b)) := by decide +kernel
theorem nx_lt0 : ∀ s, s < 19 → ∀ b, b < 256 → (nx s b).getD 0 < 19 := by decide +kernel
theorem nx_lt {s b r : Nat} (hs : s < 19) (hb : b < 256) (h : nx s b = some r) : r < 19 := by
  have := nx_lt0 s hs b hb
  rw [h] at this
  exact this

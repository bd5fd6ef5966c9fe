/-! the nearest of a fraction N / D; decimals: findNearest -/
theorem bi3_r {β α1 α2 α3 : Type} {r : α1 × α2 × α3} {k : α1 → α2 → α3 → Option β} : bi3 (some r) k = k r.1 r.2.1 r.2.2 := rfl
def near (N D : Nat) : Int64 × Int32 × Int32 := rnd (N * 2 ^ 2000 / D) (decide (N * 2 ^ 2000 % D ≠ 0)) (-2000)
theorem near_cut {N D k : Nat} (hD : 0 < D) (h : 54 ≤ bl (N * 2 ^ 2000 / (D * 2 ^ k)) ∨ k ≤ 925) : rnd (N * 2 ^ 2000 / (D * 2 ^ k)) (decide (N * 2 ^ 2000 % (D * 2 ^ k) ≠ 0)) ((k : Int) - 2000) = near N D := by
  unfold near
  generalize N * 2 ^ 2000 = x at h
  rw [← Nat.div_div_eq_div_mul] at h ⊢
  have e := rnd_refine (T := x / D) (k := k) (e := (k : Int) - 2000) (decide (x % D ≠ 0)) (by
    unfold rd
    omega) (by
    rcases h with h | h
    · left
      intro q
      rw [q, bl_0] at h
      omega
    · right
      omega)
  rw [show (k : Int) - 2000 - k = -2000 from by omega] at e
  rw [e]
  congr 1
  have hm : x % (D * 2 ^ k) = x % D + D * (x / D % 2 ^ k) := Nat.mod_mul
  rw [hm]
  by_cases c : x % D = 0
  · by_cases d : x / D % 2 ^ k = 0
    · simp [c, d]
    · have : D * (x / D % 2 ^ k) ≠ 0 := Nat.mul_ne_zero (by omega) d
      rw [decide_eq_true (by omega : x % D + D * (x / D % 2 ^ k) ≠ 0)]
      simp [d]
  · rw [decide_eq_true (by omega : x % D + D * (x / D % 2 ^ k) ≠ 0)]
    simp [c]
set_option maxRecDepth 20000 in
/-- cut above the unit -/
theorem near_up {N D p : Nat} (hD : 0 < D) (h : 54 ≤ bl (N / (D * 2 ^ p))) : rnd (N / (D * 2 ^ p)) (decide (N % (D * 2 ^ p) ≠ 0)) (p : Int) = near N D := by
  have e := near_cut (N := N) (D := D) (k := 2000 + p) hD
  have hp := Nat.two_pow_pos 2000
  rw [show D * 2 ^ (2000 + p) = D * 2 ^ p * 2 ^ 2000 from by rw [Nat.add_comm, Nat.pow_add, Nat.mul_assoc], Nat.mul_div_mul_right _ _ hp, Nat.mul_mod_mul_right, show ((2000 + p : Nat) : Int) - 2000 = p from by omega] at e
  rw [← e (Or.inl h)]
  congr 1
  apply decide_eq_decide.mpr
  constructor
  · intro q
    exact Nat.mul_ne_zero q (by omega)
  · intro q c
    rw [c, Nat.zero_mul] at q
    exact q rfl
/-- cut below the unit -/
theorem near_down {N D k : Nat} (hD : 0 < D) (hk : k ≤ 2000) (h : 54 ≤ bl (N * 2 ^ k / D) ∨ 1075 ≤ k) : rnd (N * 2 ^ k / D) (decide (N * 2 ^ k % D ≠ 0)) (-(k : Int)) = near N D := by
  have e := near_cut (N := N) (D := D) (k := 2000 - k) hD
  have hp := Nat.two_pow_pos (2000 - k)
  rw [show N * 2 ^ 2000 = N * 2 ^ k * 2 ^ (2000 - k) from by rw [Nat.mul_assoc, ← Nat.pow_add, show k + (2000 - k) = 2000 from by omega], Nat.mul_div_mul_right _ _ hp, Nat.mul_mod_mul_right, show ((2000 - k : Nat) : Int) - 2000 = -(k : Int) from by omega] at e
  rw [← e (by omega)]
  congr 1
  apply decide_eq_decide.mpr
  constructor
  · intro q
    exact Nat.mul_ne_zero q (by omega)
  · intro q c
    rw [c, Nat.zero_mul] at q
    exact q rfl
theorem below0 {a : Nat → Int32} {F L V : Nat} (hR : Rw a V) (hT : Tr F L V) : f_Decimal_hasBelow (nI L) a 0 = some (bz (decide (V % PB 172 ≠ 0))) := by
  have h := hasBelow_eq hR hT (E := 1548) (by decide)
  rw [show iI (((1548 : Nat) : Int) - 1548) = 0 from by decide] at h
  rw [h, PB_ten 172]
theorem cut0 {a : Nat → Int32} {F L V : Nat} (hR : Rw a V) (hz : Zo F L V) : ∃ F' L' a', f_Decimal_cutBelow (nI F) (nI L) a 0 = some (nI F', nI L', a') ∧ Rw a' (V - V % PB 172) ∧ Tr F' L' (V - V % PB 172) := by
  have h := cutBelow_eq hR hz (E := 1548) (by decide)
  rw [show iI (((1548 : Nat) : Int) - 1548) = 0 from by decide] at h
  rw [PB_ten 172]
  exact h
theorem fn162 {a : Nat → Int32} {F L V : Nat} (hR : Rw a V) (hT : Tr F L V) (sf : Int64) (sp si : Int32) {p : Int} (hp : -20000 ≤ p) (hp2 : p ≤ 20000) (mo : Bool) :
    f_Decimal_findNearest_162 (nI F) (nI L) a sf sp si (iI p) (bz mo) = some (nI F, nI L, a, rnd (V / PB 172 % 1000000000000000000) (mo || decide (V % PB 172 ≠ 0)) p) := by
  unfold f_Decimal_findNearest_162 f_Decimal_findNearest_179 f_Decimal_findNearest_184
  have hu : V / PB 172 % 1000000000000000000 < 1000000000000000000 := Nat.mod_lt _ (by decide)
  generalize hU : V / PB 172 % 1000000000000000000 = U at hu
  have e : ∀ st : Bool, f_Size_setNearest sf sp si (lN U) (if st then 1 else 0) (iI p) = some (rnd U st p) := fun st => setNearest_eq (by omega) (by omega) (by omega) st (Or.inl (by omega)) sf sp si
  have et := e true
  have ef := e false
  rw [if_pos rfl] at et
  rw [if_neg (by decide)] at ef
  rw [units_eq hR, bi1_s, hU, ite_c (bz_f mo)]
  cases mo with
  | true =>
    rw [if_neg (by decide), et, bi3_r, Bool.true_or]
  | false =>
    rw [if_pos rfl, below0 hR hT, bi1_s, ite_c (bz_f _), Bool.false_or]
    cases decide (V % PB 172 ≠ 0) with
    | true => rw [if_neg (by decide), et, bi3_r]
    | false => rw [if_pos rfl, ef, bi3_r]

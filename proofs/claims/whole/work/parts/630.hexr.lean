/-! reals with 16, to their ends -/
theorem rnd_big {t : Nat} (ht : t ≠ 0) {st : Bool} {e : Int} (he : -1000 ≤ e) (h : 1024 < (bl t : Int) + e) : rnd t st e = (0, 0, 1) := by
  unfold rnd
  by_cases c : rd t e ≤ 0
  · rw [if_pos c]
    unfold red
    rw [if_neg ht, if_pos h]
  · rw [if_neg c]
    have hrd : rd t e = (bl t : Int) - 53 := by unfold rd at c ⊢; omega
    obtain ⟨d, hd⟩ : ∃ d : Nat, rd t e = (d : Int) := ⟨(rd t e).toNat, by omega⟩
    rw [hd, Int.toNat_natCast]
    have hbd : bl t = 53 + d := by omega
    have hle := bl_le ht
    have hge : 2 ^ d ≤ t := by
      have : 2 ^ d ≤ 2 ^ (bl t - 1) := Nat.pow_le_pow_right (by decide) (by omega)
      omega
    have hbq := bl_div hge
    have hq53 : bl (t / 2 ^ d) = 53 := by omega
    have hq0 : t / 2 ^ d ≠ 0 := by
      intro z
      rw [z] at hq53
      exact absurd hq53 (by decide)
    have hlow := bl_le hq0
    rw [hq53] at hlow
    have hrq : 4503599627370496 ≤ rq t d st := by
      unfold rq
      split <;> omega
    have hbr : 53 ≤ bl (rq t d st) := by
      rcases Nat.lt_or_ge (bl (rq t d st)) 53 with z | z
      · have : rq t d st < 2 ^ 52 := bl_le_iff.mp (by omega)
        omega
      · exact z
    unfold red
    rw [if_neg (by omega), if_pos (by omega)]
theorem rnd_small {t : Nat} {st : Bool} {e : Int} (h : (bl t : Int) + e ≤ -1076) : rnd t st e = (0, 0, 0) := by
  have hrd : rd t e = -1074 - e := by unfold rd; omega
  obtain ⟨d, hd⟩ : ∃ d : Nat, -1074 - e = (d : Int) := ⟨(-1074 - e).toNat, by omega⟩
  unfold rnd
  rw [hrd, hd, if_neg (by omega), Int.toNat_natCast]
  have ht := bl_lt t
  have h2 : 2 ^ (bl t + 2) ≤ 2 ^ d := Nat.pow_le_pow_right (by decide) (by omega)
  rw [Nat.pow_add] at h2
  have z : rq t d st = 0 := by
    unfold rq
    rw [Nat.div_eq_of_lt (by omega), Nat.mod_eq_of_lt (by omega), if_neg (by
      intro q
      rcases q with q | ⟨q, -⟩ <;> omega)]
  rw [z]
  rfl
theorem hv_lt (g : Nat → Nat) : ∀ k, (∀ j, j < k → g j < 16) → hv g k < 2 ^ (4 * k) := by
  intro k
  induction k with
  | zero => intro _; show 0 < 2 ^ (4 * 0); decide
  | succ k ih =>
    intro h
    have a := ih (fun j hj => h j (by omega))
    have b := h k (by omega)
    show 16 * hv g k + g k < 2 ^ (4 * (k + 1))
    rw [show 4 * (k + 1) = 4 * k + 4 from by omega, Nat.pow_add]
    omega
/-- the capped power and the other one round alike -/
theorem cap_same {H D b : Nat} (hD : D ≤ 1200) (hb : b ≤ 1200) (hH : bl H ≤ 4 * D) {pm : Nat} (hpm : pm < 1000000) (neg : Bool) :
    rnd H false ((if neg then -((min 100000 pm : Nat) : Int) else ((min 100000 pm : Nat) : Int)) - 4 * (b : Int)) = rnd H false ((if neg then -(pm : Int) else (pm : Int)) - 4 * (b : Int)) := by
  by_cases c : pm ≤ 100000
  · rw [Nat.min_eq_right c]
  · rw [Nat.min_eq_left (by omega)]
    by_cases z : H = 0
    · rw [z, rnd_zero, rnd_zero]
    · have hb1 := bl_pos z
      cases neg
      · simp only [Bool.false_eq_true, if_false]
        rw [rnd_big z (by omega) (by omega), rnd_big z (by omega) (by omega)]
      · simp only [if_true]
        rw [rnd_small (by omega), rnd_small (by omega)]
/-- the class, with 16: digits g 0 .. from s on, k1 before a point, k2 behind it -/
theorem class16 {n : Nat} (hn : n ≤ 1200) (a : Nat → Int32) (g : Nat → Nat) {s k1 k2 : Nat} (hp : Bool) (hT : s + k1 + (if hp then 1 + k2 else 0) ≤ n) (hk2 : hp = false → k2 = 0) (h1 : ∀ t, t < k1 → dv true (bt8 a (s + t)) = some (g t)) (h46 : hp = true → bt8 a (s + k1) = 46) (h2 : ∀ t, t < k2 → dv true (bt8 a (s + k1 + 1 + t)) = some (g (k1 + t))) {P : Int} (hP : -100000 ≤ P) (hP2 : P ≤ 100000) (pf : Int64) (pp pi : Int32) :
    f_Numeral_findSizeOf16 (nI s) (nI (s + k1 + (if hp then 1 + k2 else 0))) (nI k1) (nI (k1 + k2)) (iI P) (nI n) a pf pp pi = some (rnd (hv g (k1 + k2)) false (P - 4 * (k2 : Int))) := by
  have fin : ∀ (T m held left : Nat) (more : Bool) (f : Nat), T ≤ n → IC (hv g (k1 + k2)) m held left more → left ≤ k1 + k2 → f_Numeral_findSizeOf16_17 (f + 1) (nI s) (nI T) (nI k1) (nI (k1 + k2)) (iI P) (nI n) a pf pp pi (lN m) (nI held) (nI left) (bz more) (nI T) = some (rnd (hv g (k1 + k2)) false (P - 4 * (k2 : Int))) := by
    intro T m held left more f hTn hI hl
    have hm := IC_lt hI
    have hk : k1 + k2 ≤ 1200 := by cases hp <;> simp at hT hk2 <;> omega
    show f_Numeral_findSizeOf16_17b _ _ _ _ _ _ _ _ _ _ _ _ _ _ _ _ = _
    unfold f_Numeral_findSizeOf16_17b
    rw [if_pos (nI_le (Nat.le_refl T) (by omega))]
    unfold f_Numeral_findSizeOf16_109
    have hexp : iI P + (4 : Int32) * (nI left - (nI (k1 + k2) - nI k1)) = iI (P - 4 * (k2 : Int) + 4 * (left : Int)) := by
      rw [iI_nI, iI_nI, iI_nI, show (4 : Int32) = iI 4 from by decide, iI_sub, iI_sub, iI_mul, iI_add]
      congr 1
      omega
    rw [hexp, show bz more = (if more then 1 else 0) from rfl, setNearest_eq (m := m) (by omega) (by omega) (by omega) more (Or.inl (by omega)), IC_rnd hI]
    rfl
  unfold f_Numeral_findSizeOf16
  cases hp with
  | false =>
    have hk20 := hk2 rfl
    subst hk20
    simp only [Bool.false_eq_true, if_false, Nat.add_zero] at hT fin ⊢
    obtain ⟨m, held, left, more, hI, hl, hr⟩ := c16_run hn a (nI s) (nI k1) (nI k1) (iI P) pf pp pi g (T := s + k1) hT k1 s 0 0 0 0 false (by omega) (by omega) (fun t ht => by rw [Nat.zero_add]; exact h1 t ht) IC_0
    rw [Nat.zero_add] at hI hl
    obtain ⟨f0, hf0⟩ : ∃ f0, fu = f0 + 1 + k1 := ⟨fu - k1 - 1, by unfold fu; omega⟩
    rw [hf0]
    refine (hr (f0 + 1)).trans ?_
    exact fin (s + k1) m held left more f0 hT hI hl
  | true =>
    simp only [if_true] at hT fin ⊢
    obtain ⟨m, held, left, more, hI, hl, hr⟩ := c16_run hn a (nI s) (nI k1) (nI (k1 + k2)) (iI P) pf pp pi g (T := s + k1 + (1 + k2)) hT k1 s 0 0 0 0 false (by omega) (by omega) (fun t ht => by rw [Nat.zero_add]; exact h1 t ht) IC_0
    rw [Nat.zero_add] at hI hl
    obtain ⟨m9, held9, left9, more9, hI9, hl9, hr9⟩ := c16_run hn a (nI s) (nI k1) (nI (k1 + k2)) (iI P) pf pp pi g (T := s + k1 + (1 + k2)) hT k2 (s + k1 + 1) k1 m held left more (by omega) (by omega) h2 hI
    obtain ⟨f0, hf0⟩ : ∃ f0, fu = f0 + 1 + k2 + 1 + k1 := ⟨fu - k1 - k2 - 2, by unfold fu; omega⟩
    rw [hf0]
    refine (hr (f0 + 1 + k2 + 1)).trans ?_
    rw [c16_point hn a (nI s) (nI k1) (nI (k1 + k2)) (iI P) pf pp pi (T := s + k1 + (1 + k2)) (i := s + k1) (by omega) hT _ _ _ _ (h46 rfl) (f0 + 1 + k2), hr9 (f0 + 1), show s + k1 + 1 + k2 = s + k1 + (1 + k2) from by omega]
    exact fin (s + k1 + (1 + k2)) m9 held9 left9 more9 f0 hT hI9 (by omega)
/-- the reference, with 16 -/
theorem model16 (vk : Int32) (vn : Int64) (ve : Int32) (neg : Bool) (da : Nat → Int32) (g : Nat → Nat) {D : Nat} (hD : D ≤ 1200) (hg : ∀ j, j < D → da j = nI (g j) ∧ g j < 16) {p : Int} (hp : -1100000 ≤ p) (hp2 : p ≤ 1100000) :
    f_M_readSixteen vk vn ve (nI D) (bz neg) da (iI p) = some ((mres neg (rnd (hv g D) false p)).1, mres neg (rnd (hv g D) false p)) := by
  obtain ⟨s, left, hI, hl, hr⟩ := m16_run vk vn ve (bz neg) da g hD hg p D 0 fu 0 0 (by omega) (by unfold fu; omega) IM_0 (Nat.le_refl 0)
  have hs := IM_lt hI
  have hbl : bl (hv g D) ≤ 4 * D := bl_le_iff.mpr (hv_lt g D (fun j hj => (hg j hj).2))
  have near : ∀ e : Int, -14000 ≤ e → e ≤ 14000 → f_M_nearest vk vn ve (lN s) (iI e) (bz neg) = some ((mres neg (rnd s false e)).1, mres neg (rnd s false e)) := by
    intro e h1 h2
    by_cases z : s = 0
    · subst z
      rw [rnd_zero]
      unfold f_M_nearest
      rw [if_pos (show lN 0 = 0 from rfl)]
      cases neg <;> rfl
    · exact nearest_eq vk vn ve neg z (by omega) h1 h2
  unfold f_M_readSixteen
  have h00 : iI (p + 4 * ((0 : Nat) : Int)) = iI p := by congr 1; omega
  rw [h00] at hr
  refine hr.trans ?_
  have hx : -1100000 ≤ p + 4 * (left : Int) ∧ p + 4 * (left : Int) ≤ 1110000 := by omega
  rw [← IM_rnd hI p]
  generalize p + 4 * (left : Int) = x at hx ⊢
  unfold f_M_readSixteen_70 f_M_readSixteen_100
  have hb61 : bl s ≤ 61 := bl_le_iff.mpr (by omega)
  rw [show (3000 : Int32) = iI 3000 from by decide, show (-9000 : Int32) = iI (-9000) from by decide, ite_c (iI_le (by omega) (by omega) (by decide) (by decide)), ite_c (iI_le (by decide) (by decide) (by omega) (by omega)), near 3000 (by decide) (by decide), near (-9000) (by decide) (by decide)]
  by_cases c1 : x ≤ 3000
  · rw [if_pos c1]
    by_cases c2 : -9000 ≤ x
    · rw [if_pos c2, near x (by omega) (by omega)]; rfl
    · rw [if_neg c2]
      have e1 : rnd s false (-9000) = (0, 0, 0) := rnd_small (by omega)
      have e2 : rnd s false x = (0, 0, 0) := rnd_small (by omega)
      rw [e1, e2]; rfl
  · rw [if_neg c1]
    by_cases z : s = 0
    · rw [z, rnd_zero, rnd_zero]; rfl
    · have hb1 := bl_pos z
      have e1 : rnd s false 3000 = (0, 0, 1) := rnd_big z (by decide) (by omega)
      have e2 : rnd s false x = (0, 0, 1) := rnd_big z (by omega) (by omega)
      rw [e1, e2]; rfl

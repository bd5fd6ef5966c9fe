/-! real, and what a value may be -/
theorem red_flag (m : Nat) (e : Int) : (red m e).2.2 = 0 ∨ (red m e).2.2 = 1 := by
  unfold red
  by_cases h : m = 0
  · rw [if_pos h]; exact Or.inl rfl
  · rw [if_neg h]
    by_cases c : 1024 < (bl m : Int) + e
    · rw [if_pos c]; exact Or.inr rfl
    · rw [if_neg c]; exact Or.inl rfl
theorem rnd_flag (t : Nat) (st : Bool) (e : Int) : (rnd t st e).2.2 = 0 ∨ (rnd t st e).2.2 = 1 := by
  unfold rnd
  by_cases c : rd t e ≤ 0
  · rw [if_pos c]; exact red_flag _ _
  · rw [if_neg c]; exact red_flag _ _
theorem takeSize_eq (k : Int32) (n : Int64) (e : Int32) (r : Int64 × Int32 × Int32) (hr : r.2.2 = 0 ∨ r.2.2 = 1) (neg : Bool) : f_N_takeSize k n e r.1 r.2.1 r.2.2 (if neg then 1 else 0) = some (mres neg r) := by
  obtain ⟨f, p, i⟩ := r
  unfold f_N_takeSize f_Size_isInfinite ck
  rw [if_pos hr]
  show (if i = 0 then _ else _) = _
  unfold mres
  dsimp only at hr ⊢
  rcases hr with rfl | rfl
  · rw [if_pos rfl]
    cases neg <;> rfl
  · rw [if_neg (show ¬ (1 : Int32) = 0 from by decide)]
    cases neg <;> rfl
/-- a value that may stand: a whole number; a real; an infinity or the no-number -/
def Rl (m : Nat) (E : Int) : Prop := m < 9007199254740992 ∧ ((m % 2 = 1 ∧ -1074 ≤ E ∧ (bl m : Int) + E ≤ 1024) ∨ (m = 0 ∧ E = 0))
def Vl (k : Int32) (n : Int64) (e : Int32) : Prop :=
  (k = 1 ∧ e = 0) ∨ (∃ (m : Nat) (E : Int) (neg : Bool), Rl m E ∧ k = 2 ∧ n = jJ (if neg then -(m : Int) else m) ∧ e = iI E) ∨ ((k = 3 ∨ k = 4 ∨ k = 5) ∧ n = 0 ∧ e = 0)
theorem rq_le {t d : Nat} (st : Bool) {c : Nat} (h : t < c * 2 ^ d) : rq t d st ≤ c := by
  have hq : t / 2 ^ d < c := (Nat.div_lt_iff_lt_mul (Nat.two_pow_pos d)).mpr h
  unfold rq
  by_cases g : 2 ^ d < 2 * (t % 2 ^ d) ∨ (2 * (t % 2 ^ d) = 2 ^ d ∧ (st = true ∨ t / 2 ^ d % 2 = 1))
  · rw [if_pos g]; omega
  · rw [if_neg g]; omega
/-- what comes of rounding: 0, infinite, or a real in its odd form -/
theorem red_ok {q : Nat} {E : Int} (hq : q ≤ 9007199254740992) (hE : -1074 ≤ E) (hE2 : E ≤ 400000) : (red q E = (0, 0, 1)) ∨ ∃ (m : Nat) (F : Int), Rl m F ∧ red q E = (lN m, iI F, 0) ∧ F ≤ 400100 := by
  unfold red
  by_cases h : q = 0
  · rw [if_pos h]; exact Or.inr ⟨0, 0, ⟨by decide, Or.inr ⟨rfl, rfl⟩⟩, rfl, by decide⟩
  · rw [if_neg h]
    by_cases c : 1024 < (bl q : Int) + E
    · rw [if_pos c]; exact Or.inl rfl
    · rw [if_neg c]
      obtain ⟨r, hr⟩ := tz_spec h
      obtain ⟨b1, b2⟩ := tz_of hr
      have hbl := bl_odd hr
      have hb : bl q ≤ 54 := bl_le_iff.mpr (by omega)
      refine Or.inr ⟨q / 2 ^ tz q, E + tz q, ?_, rfl, by omega⟩
      rw [b2]
      refine ⟨?_, Or.inl ⟨by omega, by omega, by omega⟩⟩
      have h1 : 2 * r + 1 ≤ q := by rw [← b2]; exact Nat.div_le_self _ _
      rcases Nat.lt_or_ge (2 * r + 1) 9007199254740992 with z | z
      · exact z
      · exfalso; omega
theorem rnd_ok {t : Nat} (ht : t < 18446744073709551616) {st : Bool} {e : Int} (he : -200000 ≤ e) (he2 : e ≤ 200000) : (rnd t st e = (0, 0, 1)) ∨ ∃ (m : Nat) (F : Int), Rl m F ∧ rnd t st e = (lN m, iI F, 0) ∧ F ≤ 400100 := by
  have hb : bl t ≤ 64 := bl_le_iff.mpr ht
  have hd1 : (bl t : Int) - 53 ≤ rd t e := Int.le_max_left _ _
  have hd2 : -1074 - e ≤ rd t e := Int.le_max_right _ _
  have hd3 : rd t e ≤ 199000 := Int.max_le.mpr ⟨by omega, by omega⟩
  unfold rnd
  by_cases c : rd t e ≤ 0
  · rw [if_pos c]
    have : t < 2 ^ 53 := bl_le_iff.mp (by omega)
    exact red_ok (by omega) (by omega) (by omega)
  · rw [if_neg c]
    refine red_ok (rq_le st ?_) (by omega) (by omega)
    have h1 : t < 2 ^ (53 + (rd t e).toNat) := bl_le_iff.mp (by omega)
    rw [Nat.pow_add] at h1
    exact h1
theorem mres_ok {r : Int64 × Int32 × Int32} (h : (r = (0, 0, 1)) ∨ ∃ (m : Nat) (F : Int), Rl m F ∧ r = (lN m, iI F, 0) ∧ F ≤ 400100) (neg : Bool) : Vl (mres neg r).1 (mres neg r).2.1 (mres neg r).2.2 := by
  rcases h with rfl | ⟨m, F, hR, rfl, -⟩
  · refine Or.inr (Or.inr ?_)
    cases neg
    · exact ⟨Or.inl rfl, rfl, rfl⟩
    · exact ⟨Or.inr (Or.inl rfl), rfl, rfl⟩
  · refine Or.inr (Or.inl ⟨m, F, neg, hR, rfl, ?_, rfl⟩)
    cases neg
    · show lN m = _
      rw [jJ_lN]; rfl
    · show -lN m = _
      rw [jJ_lN, jJ_neg]; rfl
theorem rnd_zero (st : Bool) (e : Int) : rnd 0 st e = (0, 0, 0) := by
  have z : red 0 = fun _ => (0, 0, 0) := by funext x; rfl
  unfold rnd
  by_cases c : rd 0 e ≤ 0
  · rw [if_pos c, z]
  · rw [if_neg c]
    have : rq 0 (rd 0 e).toNat st = 0 := by
      unfold rq
      rw [Nat.zero_div, Nat.zero_mod, if_neg (by have := Nat.two_pow_pos (rd 0 e).toNat; omega)]
    rw [this, z]
/-- real answers alike and leaves the same value -/
theorem real_same (k : Int32) (n : Int64) (e : Int32) (hv : Vl k n e) (sf : Int64) (sp si : Int32) (p : Int64) (x : Int32) :
    ∃ (r k' : Int32) (n' : Int64) (e' : Int32) (sf' : Int64) (sp' si' : Int32), f_N_real k n e sf sp si p x = some (r, k', n', e', sf', sp', si') ∧ f_M_real k n e p x = some (r, k', n', e') ∧ Vl k' n' e' := by
  unfold f_N_real f_M_real
  by_cases c1 : p < -9007199254740992
  · rw [if_pos c1, if_pos c1]; exact ⟨_, _, _, _, _, _, _, rfl, rfl, hv⟩
  rw [if_neg c1, if_neg c1]
  by_cases c2 : 9007199254740992 < p
  · rw [if_pos c2, if_pos c2]; exact ⟨_, _, _, _, _, _, _, rfl, rfl, hv⟩
  rw [if_neg c2, if_neg c2]
  by_cases c3 : x < -1200
  · rw [if_pos c3, if_pos c3]; exact ⟨_, _, _, _, _, _, _, rfl, rfl, hv⟩
  rw [if_neg c3, if_neg c3]
  by_cases c4 : x ≤ 1200
  · rw [if_pos c4, if_pos c4]
    obtain ⟨P, hP⟩ : ∃ P : Int, P = p.toInt := ⟨_, rfl⟩
    obtain ⟨Y, hY⟩ : ∃ Y : Int, Y = x.toInt := ⟨_, rfl⟩
    have ep : p = jJ P := by rw [hP]; exact jJ_of p
    have ex : x = iI Y := by rw [hY]; exact iI_of x
    have b1 : -9007199254740992 ≤ P := by
      rw [Int64.lt_iff_toInt_lt, ← hP] at c1
      have : (-9007199254740992 : Int64).toInt = -9007199254740992 := by decide
      omega
    have b2 : P ≤ 9007199254740992 := by
      rw [Int64.lt_iff_toInt_lt, ← hP] at c2
      have : (9007199254740992 : Int64).toInt = 9007199254740992 := by decide
      omega
    have b3 : -1200 ≤ Y := by
      rw [Int32.lt_iff_toInt_lt, ← hY] at c3
      have : (-1200 : Int32).toInt = -1200 := by decide
      omega
    have b4 : Y ≤ 1200 := by
      rw [Int32.le_iff_toInt_le, ← hY] at c4
      have : (1200 : Int32).toInt = 1200 := by decide
      omega
    subst ep ex
    obtain ⟨s, neg, hs, hsn⟩ : ∃ (s : Nat) (neg : Bool), P = (if neg then -(s : Int) else s) ∧ (neg = true ↔ P < 0) := by
      by_cases q : P < 0
      · exact ⟨(-P).toNat, true, by simp; omega, by simp [q]⟩
      · exact ⟨P.toNat, false, by simp; omega, by simp [q]⟩
    have hs53 : s ≤ 9007199254740992 := by cases neg <;> simp at hs <;> omega
    have z0 : (0 : Int64) = jJ 0 := by decide
    have cs : ((0 : Int64) ≤ jJ P) = ¬ P < 0 := by
      rw [z0, jJ_le (by decide) (by decide) (by omega) (by omega)]
      exact propext (by omega)
    -- the class
    have hC : (if (0 : Int64) ≤ jJ P then f_N_real_48 k n e sf sp si (jJ P) (iI Y) (jJ P) else f_N_real_48 k n e sf sp si (jJ P) (iI Y) (-jJ P)) = some ((mres neg (rnd s false Y)).1, (mres neg (rnd s false Y)).1, (mres neg (rnd s false Y)).2.1, (mres neg (rnd s false Y)).2.2, (rnd s false Y).1, (rnd s false Y).2.1, (rnd s false Y).2.2) := by
      have arg : (if (0 : Int64) ≤ jJ P then jJ P else -jJ P) = lN s := by
        rw [jJ_lN]
        by_cases q : P < 0
        · rw [if_neg (by rw [cs]; exact fun h => h q), jJ_neg]
          congr 1
          have := hsn.mpr q
          rw [this] at hs
          simp at hs
          omega
        · rw [if_pos (by rw [cs]; exact q)]
          congr 1
          have : neg = false := by
            cases neg
            · rfl
            · exact absurd (hsn.mp rfl) q
          rw [this] at hs
          simpa using hs
      have e1 : (if (0 : Int64) ≤ jJ P then f_N_real_48 k n e sf sp si (jJ P) (iI Y) (jJ P) else f_N_real_48 k n e sf sp si (jJ P) (iI Y) (-jJ P)) = f_N_real_48 k n e sf sp si (jJ P) (iI Y) (if (0 : Int64) ≤ jJ P then jJ P else -jJ P) := by
        by_cases q : (0 : Int64) ≤ jJ P
        · rw [if_pos q, if_pos q]
        · rw [if_neg q, if_neg q]
      rw [e1, arg]
      unfold f_N_real_48
      have sn := setNearest_eq (m := s) (by omega) (e := Y) (by omega) (by omega) false (Or.inl (by omega)) sf sp si
      rw [if_neg (show ¬ (false = true) from by decide)] at sn
      rw [sn]
      show (if (0 : Int64) ≤ jJ P then f_N_real_65 k n e _ _ _ 0 else f_N_real_65 k n e _ _ _ 1) = _
      rw [ite_c cs]
      have tk := takeSize_eq k n e (rnd s false Y) (rnd_flag _ _ _) neg
      cases hneg : neg with
      | true =>
        rw [if_neg (fun h => h (hsn.mp hneg))]
        unfold f_N_real_65
        rw [hneg, if_pos rfl] at tk
        rw [tk]
        rfl
      | false =>
        rw [if_pos (fun h => by have := hsn.mpr h; rw [hneg] at this; cases this)]
        unfold f_N_real_65
        rw [hneg, if_neg (by decide)] at tk
        rw [tk]
        rfl
    -- the reference
    have hM : (bi4 (f_M_nearestWhole k n e (jJ P) (iI Y)) fun r5 v6 v7 v8 => some (r5, v6, v7, v8)) = some ((mres neg (rnd s false Y)).1, mres neg (rnd s false Y)) := by
      have core : f_M_nearestWhole k n e (jJ P) (iI Y) = some ((mres neg (rnd s false Y)).1, mres neg (rnd s false Y)) := by
        unfold f_M_nearestWhole
        rw [show (-9223372036854775808 : Int64) = jJ (-9223372036854775808) from by decide, if_neg (by rw [jJ_eq (by omega) (by omega) (by decide) (by decide)]; omega)]
        have tail : f_M_nearestWhole_31 k n e (jJ P) (iI Y) (lN s) = some ((mres neg (rnd s false Y)).1, mres neg (rnd s false Y)) := by
          unfold f_M_nearestWhole_31
          rw [if_neg (show ¬ (4611686018427387904 : Int64) ≤ lN s from fun h => by
            have := (pk_lLE (a := 4611686018427387904) (b := s) (by decide) (by omega)).mp h
            omega), ite_c cs]
          have near : f_M_nearest k n e (lN s) (iI Y) (if neg then 1 else 0) = some ((mres neg (rnd s false Y)).1, mres neg (rnd s false Y)) := by
            by_cases hs0 : s = 0
            · subst hs0
              rw [rnd_zero]
              have hn : neg = false := by
                cases neg
                · rfl
                · exfalso
                  have := hsn.mp rfl
                  simp at hs
                  omega
              subst hn
              unfold f_M_nearest
              rw [if_pos (show lN 0 = 0 from rfl)]
              rfl
            · exact nearest_eq k n e neg hs0 (by omega) (by omega) (by omega)
          unfold f_M_nearestWhole_57
          cases hneg : neg with
          | true =>
            rw [hneg, if_pos rfl] at near
            rw [if_neg (fun h => h (hsn.mp hneg)), near]
            rfl
          | false =>
            rw [hneg, if_neg (by decide)] at near
            rw [if_pos (fun h => by have := hsn.mpr h; rw [hneg] at this; cases this), near]
            rfl
        rw [ite_c cs]
        by_cases q : P < 0
        · rw [if_neg (fun h => h q), jJ_neg]
          have : neg = true := hsn.mpr q
          have e9 : jJ (-P) = lN s := by
            rw [jJ_lN]
            congr 1
            rw [this] at hs
            simp at hs
            omega
          rw [e9]; exact tail
        · rw [if_pos q]
          have : neg = false := by
            cases neg
            · rfl
            · exact absurd (hsn.mp rfl) q
          have e9 : jJ P = lN s := by
            rw [jJ_lN]
            congr 1
            rw [this] at hs
            simpa using hs
          rw [e9] at tail ⊢
          exact tail
      rw [core]
      rfl
    rw [hC, hM]
    exact ⟨_, _, _, _, _, _, _, rfl, rfl, mres_ok (rnd_ok (by omega) (by omega) (by omega)) neg⟩
  · rw [if_neg c4, if_neg c4]; exact ⟨_, _, _, _, _, _, _, rfl, rfl, hv⟩

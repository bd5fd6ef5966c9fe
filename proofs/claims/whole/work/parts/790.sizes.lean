/-! the size of the value, as a real -/
theorem rnd_id {m : Nat} {E : Int} (h : Rl m E) : rnd m false E = (lN m, iI E, 0) := by
  obtain ⟨hm, hR⟩ := h
  rcases hR with ⟨w1, w2, w3⟩ | ⟨w1, w2⟩
  · have hb : bl m ≤ 53 := bl_le_iff.mpr hm
    unfold rnd
    rw [if_pos (by unfold rd; omega)]
    unfold red
    obtain ⟨t1, t2⟩ := tz_of (n := m) (t := 0) (q := m / 2) (by rw [Nat.pow_zero, Nat.one_mul]; omega)
    rw [if_neg (by omega), if_neg (by omega), t1, Nat.pow_zero, Nat.div_one]
    rw [show E + ((0 : Nat) : Int) = E from by omega]
  · rw [w1, w2, rnd_zero]
    rfl
theorem lN_ne0 {n : Nat} (h0 : n ≠ 0) (h : n < 18446744073709551616) : lN n ≠ 0 := by
  intro q
  have q2 : lN n = lN 0 := q
  rw [jJ_lN, jJ_lN] at q2
  have q3 := congrArg (fun z : Int64 => z.toBitVec.toNat) q2
  simp only [jJ_bits] at q3
  omega
theorem red_fin {q : Nat} {E : Int} (hq0 : q ≠ 0) (hq : q < 18446744073709551616) (hE : E ≤ 900) : (red q E).2.2 = 0 ∧ (red q E).1 ≠ 0 := by
  have hb : bl q ≤ 64 := bl_le_iff.mpr hq
  unfold red
  rw [if_neg hq0, if_neg (by omega)]
  refine ⟨rfl, ?_⟩
  obtain ⟨r, hr⟩ := tz_spec hq0
  obtain ⟨b1, b2⟩ := tz_of hr
  have hle : q / 2 ^ tz q ≤ q := Nat.div_le_self _ _
  exact lN_ne0 (by rw [b2]; omega) (by omega)
theorem rnd_whole {u : Nat} (hu : u ≤ 9223372036854775808) : ∃ (m : Nat) (F : Int), Rl m F ∧ rnd u false 0 = (lN m, iI F, 0) ∧ (u ≠ 0 → m ≠ 0) := by
  by_cases z : u = 0
  · subst z
    exact ⟨0, 0, ⟨by decide, Or.inr ⟨rfl, rfl⟩⟩, rnd_zero _ _, fun h => absurd rfl h⟩
  · have hb : bl u ≤ 64 := bl_le_iff.mpr (by omega)
    have hfin : (rnd u false 0).2.2 = 0 ∧ (rnd u false 0).1 ≠ 0 := by
      unfold rnd
      by_cases c : rd u 0 ≤ 0
      · rw [if_pos c]
        exact red_fin z (by omega) (by omega)
      · rw [if_neg c]
        have hd : rd u 0 = (bl u : Int) - 53 := by unfold rd at c ⊢; omega
        have h1 := bl_le z
        have hq1 : 2 ^ 52 ≤ u / 2 ^ (rd u 0).toNat := by
          rw [Nat.le_div_iff_mul_le (Nat.two_pow_pos _), ← Nat.pow_add]
          exact Nat.le_trans (Nat.pow_le_pow_right (by decide) (by omega)) h1
        have hq2 : u / 2 ^ (rd u 0).toNat ≤ u := Nat.div_le_self _ _
        have hq3 : rq u (rd u 0).toNat false = u / 2 ^ (rd u 0).toNat + 1 ∨ rq u (rd u 0).toNat false = u / 2 ^ (rd u 0).toNat := by
          unfold rq
          split
          · exact Or.inl rfl
          · exact Or.inr rfl
        exact red_fin (by omega) (by omega) (by omega)
    rcases rnd_ok (t := u) (by omega) (st := false) (e := 0) (by decide) (by decide) with h | ⟨m, F, h1, h2, -⟩
    · rw [h] at hfin
      exact absurd hfin.1 (by decide)
    · refine ⟨m, F, h1, h2, ?_⟩
      intro _ q
      rw [h2, q] at hfin
      exact hfin.2 rfl
/-- v with its sign and size -/
theorem v_split (v : Int64) : ∃ (neg : Bool) (s : Nat), v = jJ (sgI neg s) ∧ s ≤ 9223372036854775808 ∧ (neg = false → s < 9223372036854775808) ∧ (neg = true → s ≠ 0) ∧ ((0 : Int64) ≤ v) = (neg = false) := by
  have hr := j_range v
  have hv := jJ_of v
  generalize v.toInt = P at hr hv
  have cs : ((0 : Int64) ≤ jJ P) = ((0 : Int) ≤ P) := by rw [show (0 : Int64) = jJ 0 from by decide, jJ_le (by decide) (by decide) (by omega) (by omega)]
  by_cases c : P < 0
  · refine ⟨true, P.natAbs, ?_, by omega, fun h => absurd h (by decide), fun _ => by omega, ?_⟩
    · rw [hv]
      congr 1
      show P = -(P.natAbs : Int)
      omega
    · rw [hv, cs]
      exact propext ⟨fun h => by omega, fun h => absurd h (by decide)⟩
  · refine ⟨false, P.natAbs, ?_, by omega, fun _ => by omega, fun h => absurd h (by decide), ?_⟩
    · rw [hv]
      congr 1
      show P = (P.natAbs : Int)
      omega
    · rw [hv, cs]
      exact propext ⟨fun _ => rfl, fun _ => by omega⟩
theorem csizeOf {v : Int64} {neg : Bool} {s : Nat} (hv : v = jJ (sgI neg s)) (hs : s ≤ 9223372036854775808) (hneg : ((0 : Int64) ≤ v) = (neg = false)) {E : Int} (hE : -1100 ≤ E) (hE2 : E ≤ 2000) (sf : Int64) (sp si : Int32) : f_N_sizeOfValue v (iI E) sf sp si = some (rnd s false E) := by
  have sn := setNearest_eq (m := s) (by omega) (e := E) (by omega) (by omega) false (Or.inr hE) sf sp si
  rw [if_neg (show ¬ (false = true) from by decide)] at sn
  unfold f_N_sizeOfValue f_N_sizeOfValue_21
  rw [ite_c hneg]
  cases neg
  · rw [if_pos rfl, hv, show sgI false s = (s : Int) from rfl, ← jJ_lN, sn]
    rfl
  · rw [if_neg (by decide), hv, show sgI true s = -(s : Int) from rfl, jJ_neg, Int.neg_neg, ← jJ_lN, sn]
    rfl
theorem mres_sg (neg : Bool) (m : Nat) (F : Int) : mres neg (lN m, iI F, 0) = (2, jJ (if neg then -(m : Int) else m), iI F) := by
  rw [mres_fin]
  cases neg
  · show (2, lN m, iI F) = (2, jJ (m : Int), iI F)
    rw [jJ_lN]
  · show (2, -lN m, iI F) = (2, jJ (-(m : Int)), iI F)
    rw [jJ_lN, jJ_neg]
theorem mnearWhole {v : Int64} {neg : Bool} {s : Nat} (hv : v = jJ (sgI neg s)) (hs : s ≤ 9223372036854775808) (hs2 : neg = false → s < 9223372036854775808) (hs3 : neg = true → s ≠ 0) (hneg : ((0 : Int64) ≤ v) = (neg = false)) (vk : Int32) (vn : Int64) (ve : Int32) :
    f_M_nearestWhole vk vn ve v 0 = some ((mres neg (rnd s false 0)).1, mres neg (rnd s false 0)) := by
  have near : ∀ (x : Nat) (Y : Int), x < 4611686018427387904 → -100 ≤ Y → Y ≤ 100 → (neg = true → x ≠ 0) → f_M_nearest vk vn ve (lN x) (iI Y) (bz neg) = some ((mres neg (rnd x false Y)).1, mres neg (rnd x false Y)) := by
    intro x Y hx hY hY2 hx0
    by_cases z : x = 0
    · subst z
      have hn : neg = false := by
        cases neg
        · rfl
        · exact absurd rfl (hx0 rfl)
      subst hn
      rw [rnd_zero]
      unfold f_M_nearest
      rw [if_pos (show lN 0 = 0 from rfl)]
      rfl
    · exact nearest_bz vk vn ve neg z hx (by omega) (by omega)
  unfold f_M_nearestWhole
  by_cases m63 : neg = true ∧ s = 9223372036854775808
  · obtain ⟨w1, w2⟩ := m63
    subst w1 w2
    have e1 := near 1 63 (by decide) (by decide) (by decide) (fun _ => by decide)
    have e2 : rnd 9223372036854775808 false 0 = rnd 1 false 63 := by
      have := rnd_shift (t := 1) (by decide) 63 63
      rw [show (63 : Int) - ((63 : Nat) : Int) = 0 from by decide, show 1 * 2 ^ 63 = 9223372036854775808 from by decide] at this
      exact this
    rw [if_pos (by rw [hv]; decide), show (1 : Int64) = lN 1 from rfl, show (63 : Int32) + 0 = iI 63 from by decide, show (1 : Int32) = bz true from rfl, e1, e2]
    rfl
  · have hne : ¬ v = (-9223372036854775808 : Int64) := by
      rw [hv, show (-9223372036854775808 : Int64) = jJ (-9223372036854775808) from by decide, jJ_eq (by unfold sgI; split <;> omega) (by unfold sgI; cases neg <;> simp_all <;> omega) (by decide) (by decide)]
      unfold sgI
      cases neg
      · rw [if_neg (by decide)]
        omega
      · rw [if_pos rfl]
        intro q
        exact m63 ⟨rfl, by omega⟩
    have hs4 : s < 9223372036854775808 := by
      cases neg
      · exact hs2 rfl
      · rcases Nat.lt_or_ge s 9223372036854775808 with q | q
        · exact q
        · exact absurd ⟨rfl, by omega⟩ m63
    have t31 : f_M_nearestWhole_31 vk vn ve v 0 (lN s) = some ((mres neg (rnd s false 0)).1, mres neg (rnd s false 0)) := by
      unfold f_M_nearestWhole_31
      rw [ite_c (show ((4611686018427387904 : Int64) ≤ lN s) = (4611686018427387904 ≤ s) from propext (pk_lLE (a := 4611686018427387904) (by decide) (by omega))), ite_c hneg, ite_c hneg]
      by_cases big : 4611686018427387904 ≤ s
      · have hbl : bl s = 63 := bl_uniq (by omega) (by omega) (by decide)
        have hx : (lsr (lN s) (1 : Int32)) ||| (lN s &&& (1 : Int64)) = lN (if s % 2 = 0 then s / 2 else s / 2 / 2 * 2 + 1) := by
          have ha : (lN s &&& (1 : Int64)) = lN (s % 2) := by
            have := jJ_mask ((s : Nat) : Int) 1 (by decide)
            rw [show ((2 ^ 1 - 1 : Nat) : Int) = ((1 : Nat) : Int) from by decide, ← jJ_lN, ← jJ_lN] at this
            rw [show (1 : Int64) = lN 1 from rfl, this, jJ_lN]
            congr 1
          rw [ha, show (1 : Int32) = nI 1 from rfl, lsr_N (by omega) (by decide), Nat.pow_one]
          by_cases p : s % 2 = 0
          · rw [if_pos p, p]
            show lN (s / 2) ||| (0 : Int64) = _
            rw [Int64.or_zero]
          · rw [if_neg p, show s % 2 = 1 from by omega]
            exact lN_or1 (by omega)
        have hr : rnd s false 0 = rnd (if s % 2 = 0 then s / 2 else s / 2 / 2 * 2 + 1) false 1 := by
          have hb2 : bl s = bl (s / 2 ^ 1) + 1 := bl_div (k := 1) (by omega)
          rw [Nat.pow_one] at hb2
          have e := rnd_refine (T := s) (k := 1) (e := 1) false (by rw [Nat.pow_one]; unfold rd; omega) (Or.inl (by rw [Nat.pow_one]; omega))
          rw [Nat.pow_one, Bool.false_or, show (1 : Int) - ((1 : Nat) : Int) = 0 from by decide] at e
          rw [e]
          by_cases p : s % 2 = 0
          · rw [if_pos p, decide_eq_false (by omega)]
          · rw [if_neg p, decide_eq_true (by omega)]
            exact rnd_sticky (by omega) (by unfold rd; omega)
        have e1 := near (if s % 2 = 0 then s / 2 else s / 2 / 2 * 2 + 1) 1 (by split <;> omega) (by decide) (by decide) (fun _ => by split <;> omega)
        rw [← hr] at e1
        rw [if_pos big, hx, show (0 : Int32) + 1 = iI 1 from by decide]
        unfold f_M_nearestWhole_87
        cases neg
        · rw [if_pos rfl, show (0 : Int32) = bz false from rfl, e1]
          rfl
        · rw [if_neg (by decide), show (1 : Int32) = bz true from rfl, e1]
          rfl
      · have e1 := near s 0 (by omega) (by decide) (by decide) hs3
        rw [if_neg big]
        unfold f_M_nearestWhole_57
        cases neg
        · rw [if_pos rfl, show f_M_nearest vk vn ve (lN s) 0 0 = f_M_nearest vk vn ve (lN s) (iI 0) (bz false) from rfl, e1]
          rfl
        · rw [if_neg (by decide), show f_M_nearest vk vn ve (lN s) 0 1 = f_M_nearest vk vn ve (lN s) (iI 0) (bz true) from rfl, e1]
          rfl
    rw [if_neg hne, ite_c hneg]
    cases neg
    · rw [if_pos rfl]
      rw [show v = lN s from by rw [hv, jJ_lN]; rfl] at t31 ⊢
      exact t31
    · rw [if_neg (by decide), show -v = lN s from by rw [hv, show sgI true s = -(s : Int) from rfl, jJ_neg, Int.neg_neg, jJ_lN]]
      exact t31

/-! read: the digits of both scans, and what is made of them -/
theorem rnd_ok2 {t : Nat} {st : Bool} {e : Int} (hb : bl t ≤ 50000) (he : -150000 ≤ e) (he2 : e ≤ 150000) : (rnd t st e = (0, 0, 1)) ∨ ∃ (m : Nat) (F : Int), Rl m F ∧ rnd t st e = (lN m, iI F, 0) ∧ F ≤ 400100 := by
  by_cases c : bl t ≤ 62
  · exact rnd_ok (Nat.lt_of_lt_of_le (bl_le_iff.mp c) (by decide)) (by omega) (by omega)
  · have h1 : 2 ^ (bl t - 60) ≤ t := by
      have h0 : t ≠ 0 := by
        intro q
        rw [q, bl_0] at c
        omega
      exact Nat.le_trans (Nat.pow_le_pow_right (by decide) (by omega)) (bl_le h0)
    have h2 := bl_div h1
    have h3 : bl (t / 2 ^ (bl t - 60)) = 60 := by omega
    have e1 := rnd_refine (T := t) (k := bl t - 60) (e := e + (bl t - 60 : Nat)) st (by unfold rd; omega) (Or.inl (by
      intro q
      rw [q, bl_0] at h3
      omega))
    rw [show e + ((bl t - 60 : Nat) : Int) - ((bl t - 60 : Nat) : Int) = e from by omega] at e1
    rw [e1]
    exact rnd_ok (Nat.lt_of_lt_of_le (bl_lt _) (by rw [h3]; decide)) (by omega) (by omega)
theorem near_ok (N : Nat) {D : Nat} (hD : 0 < D) : (near N D = (0, 0, 1)) ∨ ∃ (m : Nat) (F : Int), Rl m F ∧ near N D = (lN m, iI F, 0) ∧ F ≤ 400100 := by
  by_cases c : D * 2 ^ 1024 ≤ N
  · exact Or.inl (near_big hD c)
  · unfold near
    refine rnd_ok2 ?_ (by decide) (by decide)
    have h1 : N * 2 ^ 2000 / D < 2 ^ 3024 := by
      rw [Nat.div_lt_iff_lt_mul hD, show (2 : Nat) ^ 3024 = 2 ^ (1024 + 2000) from rfl, Nat.pow_add, Nat.mul_right_comm]
      refine Nat.mul_lt_mul_of_pos_right ?_ (Nat.two_pow_pos 2000)
      rw [Nat.mul_comm]
      omega
    exact Nat.le_trans (bl_le_iff.mpr h1) (by decide)
theorem val10_ok (T : Nat) (Q : Int) : (val10 T Q = (0, 0, 1)) ∨ ∃ (m : Nat) (F : Int), Rl m F ∧ val10 T Q = (lN m, iI F, 0) ∧ F ≤ 400100 := by
  unfold val10
  by_cases c : 0 ≤ Q
  · rw [if_pos c]; exact near_ok _ (by decide)
  · rw [if_neg c]; exact near_ok _ (ten_pos _)
theorem cap10 {T D b : Nat} (hT : T < 10 ^ D) (hD : D ≤ 1200) (hb : b ≤ 1200) (pm : Nat) (neg : Bool) :
    val10 T ((if neg then -((min 100000 pm : Nat) : Int) else ((min 100000 pm : Nat) : Int)) - (b : Int)) = val10 T ((if neg then -(pm : Int) else (pm : Int)) - (b : Int)) := by
  by_cases c : pm ≤ 100000
  · rw [Nat.min_eq_right c]
  · rw [Nat.min_eq_left (by omega)]
    by_cases z : T = 0
    · subst z
      rw [val10_0, val10_0]
    · cases neg
      · rw [if_neg (by decide), if_neg (by decide), val10_big (E := 0) (by rw [Nat.pow_zero]; omega) (by omega), val10_big (E := 0) (by rw [Nat.pow_zero]; omega) (by omega)]
      · rw [if_pos rfl, if_pos rfl, val10_small hT (by omega), val10_small hT (by omega)]
/-- the digits stand where the class reads them -/
theorem gd_class (a : Nat → Int32) (n : Nat) :
    (∀ j, j < gm1 a n → dv (gx a n) (bt8 a (g2 a n + j)) = some (gd a n j)) ∧ (gp a n = true → bt8 a (g2 a n + gm1 a n) = 46) ∧ (∀ j, j < gm2 a n → dv (gx a n) (bt8 a (g2 a n + gm1 a n + 1 + j)) = some (gd a n (gm1 a n + j))) ∧ (gp a n = false → gm2 a n = 0) ∧ gq a n = g2 a n + gm1 a n + (if gp a n then 1 + gm2 a n else 0) := by
  have ds : ∀ p, isDg (gx a n) a p = true → dv (gx a n) (bt8 a p) = some (dgv (gx a n) a p) := by
    intro p h
    unfold isDg at h
    unfold dgv
    cases q : dv (gx a n) (bt8 a p) with
    | none => rw [q] at h; exact absurd h (by decide)
    | some d => rfl
  refine ⟨?_, ?_, ?_, ?_, ?_⟩
  · intro j hj
    unfold gd
    rw [if_pos hj]
    exact ds _ (rn_all _ _ _ _ hj)
  · intro h
    unfold gp mp at h
    exact (of_decide_eq_true h).2
  · intro j hj
    unfold gd
    rw [if_neg (by omega), show gm1 a n + j - gm1 a n = j from by omega]
    apply ds
    unfold gm2 m2 at hj
    by_cases c : mp (gx a n) a n (g2 a n) = true
    · rw [if_pos c] at hj
      exact rn_all _ _ _ _ hj
    · rw [if_neg c] at hj
      omega
  · intro h
    unfold gm2 m2
    rw [show mp (gx a n) a n (g2 a n) = gp a n from rfl, h]
    rfl
  · unfold gq mq
    rw [show mp (gx a n) a n (g2 a n) = gp a n from rfl, show m1 (gx a n) a n (g2 a n) = gm1 a n from rfl, show m2 (gx a n) a n (g2 a n) = gm2 a n from rfl]
    by_cases c : gp a n = true
    · rw [if_pos c, if_pos c]; omega
    · rw [if_neg c, if_neg c]; omega
theorem gd_lt (a : Nat → Int32) (n : Nat) : ∀ j, j < gm1 a n + gm2 a n → gd a n j < 16 ∧ (gx a n = false → gd a n j < 10) := by
  obtain ⟨h1, -, h3, -, -⟩ := gd_class a n
  intro j hj
  by_cases c : j < gm1 a n
  · exact dv_lt _ (bt8_lt _ _) _ _ (h1 j c)
  · have := h3 (j - gm1 a n) (by omega)
    rw [show gm1 a n + (j - gm1 a n) = j from by omega] at this
    exact dv_lt _ (bt8_lt _ _) _ _ this
/-- the power as it is typed, and with its sign -/
def gpm (a : Nat → Int32) (n : Nat) : Nat := if gl a n then pmf a (pk a n (gj a n)) (gj a n) 0 else 0
def gps (a : Nat → Int32) (n : Nat) : Bool := gl a n && mns a n (gq a n + 1)
theorem gpm_lt (a : Nat → Int32) (n : Nat) : gpm a n < 1000000 := by
  unfold gpm
  by_cases c : gl a n = true
  · rw [if_pos c]; exact pmf_lt _ _ _ _ (by decide)
  · rw [if_neg c]; decide
theorem gP_class (a : Nat → Int32) (n : Nat) : (if gl a n then iI (if mns a n (gq a n + 1) then -((pcf a (pk a n (gj a n)) (gj a n) 0 : Nat) : Int) else ((pcf a (pk a n (gj a n)) (gj a n) 0 : Nat) : Int)) else (0 : Int32)) = iI (if gps a n then -((min 100000 (gpm a n) : Nat) : Int) else ((min 100000 (gpm a n) : Nat) : Int)) := by
  have h := pcf_pmf a (pk a n (gj a n)) (gj a n) 0
  rw [show min 100000 0 = 0 from rfl] at h
  unfold gps gpm
  cases c : gl a n
  · rfl
  · rw [if_pos rfl, if_pos rfl, Bool.true_and, h]
theorem gW_cases (a : Nat → Int32) {n : Nat} (hn : n ≤ 1200) : gW a n = -1 ∨ ∃ j, j < 2147483648 ∧ gW a n = nI j := by
  have hle := g_le a n
  have hw : ∀ e, e ≤ n → wcode a n e = -1 ∨ ∃ j, j < 2147483648 ∧ wcode a n e = nI j := by
    intro e he
    have := endp_le (a := a) he
    unfold wcode
    by_cases c : n ≤ endp a n e
    · rw [if_pos c]; exact Or.inl rfl
    · rw [if_neg c]; exact Or.inr ⟨_, by omega, rfl⟩
  unfold gW
  by_cases c : gl a n = true
  · have hq : gq a n < n := by
      unfold gl ltr at c
      simp only [Bool.and_eq_true] at c
      exact of_decide_eq_true c.1
    have hj : gj a n ≤ n := sgi_le (by omega)
    have hpk : pk a n (gj a n) ≤ n - gj a n := rn_le _ _ _
    rw [if_pos c]
    by_cases d : pk a n (gj a n) = 0
    · rw [if_pos d]; exact Or.inr ⟨_, by omega, rfl⟩
    · rw [if_neg d]; exact hw _ (by omega)
  · rw [if_neg c]; exact hw _ hle.2.2.2.2

/-! the reference's readTen -/
theorem set_0 (vk : Int32) (vn : Int64) (ve : Int32) (neg : Bool) : f_M_set vk vn ve 2 0 0 = some (2, mres neg (0, 0, 0)) := by
  cases neg <;> rfl
theorem zero_ten (vk : Int32) (vn : Int64) (ve vA vB vD ls : Int32) (da : Nat → Int32) (y1 : Int32) : ∀ (m k f : Nat) (a b : Nat → Int32), k + m = 400 → m < f → (∀ j, j < k → a j = 0 ∧ b j = 0) →
    ∃ a' b', f_M_readTen_2 f vk vn ve vA vB vD ls a b da y1 (nI k) = f_M_readTen_29 vk vn ve vA vB vD ls a' b' da y1 ∧ Al a' 0 ∧ Al b' 0 := by
  intro m
  induction m with
  | zero =>
    intro k f a b h hf hz
    obtain ⟨f, rfl⟩ : ∃ j, f = j + 1 := ⟨f - 1, by omega⟩
    have : k = 400 := by omega
    subst this
    refine ⟨a, b, ?_, ?_, ?_⟩
    · show f_M_readTen_2b _ _ _ _ _ _ _ _ _ _ _ _ _ = _
      unfold f_M_readTen_2b
      rw [if_pos (by decide)]
    · intro j hj
      rw [lw_0]
      exact (hz j hj).1
    · intro j hj
      rw [lw_0]
      exact (hz j hj).2
  | succ m ih =>
    intro k f a b h hf hz
    obtain ⟨f, rfl⟩ : ∃ j, f = j + 1 := ⟨f - 1, by omega⟩
    show ∃ a' b', f_M_readTen_2b _ _ _ _ _ _ _ _ _ _ _ _ _ = _ ∧ _
    unfold f_M_readTen_2b
    rw [if_neg (show ¬ (400 : Int32) ≤ nI k from nI_ge (b := 400) (by omega) (by decide)), ck_s (gin_nI (by omega) (by decide)), bd_s, ck_s (gin_nI (by omega) (by decide)), bd_s, bd_s, nI_1, nI_clamp (by omega)]
    refine ih (k + 1) f _ _ (by omega) (by omega) ?_
    intro j hj
    unfold upd
    by_cases c : j = k
    · rw [if_pos c, if_pos c]; exact ⟨rfl, rfl⟩
    · rw [if_neg c, if_neg c]; exact hz j (by omega)
theorem ten3 (k : Nat) : (10 : Nat) ^ (3 * k) ≤ 2 ^ (10 * k) := by
  rw [Nat.pow_mul, Nat.pow_mul]
  exact Nat.pow_le_pow_left (by decide) _
theorem ten_QB134 : (10 : Nat) ^ 1200 ≤ QB 134 := by
  rw [QB_two]
  exact Nat.le_trans (ten3 400) (Nat.pow_le_pow_right (by decide) (by decide))
theorem ten_QB180 : (10 : Nat) ^ 1602 ≤ QB 180 := by
  rw [QB_two]
  exact Nat.le_trans (ten3 534) (Nat.pow_le_pow_right (by decide) (by decide))
def Ld (g : Nat → Nat) (k l : Nat) : Prop := (tv g k = 0 ∧ l = k) ∨ (l < k ∧ 10 ^ (k - l - 1) ≤ tv g k ∧ tv g k < 10 ^ (k - l))
theorem Ld_step {g : Nat → Nat} {k l : Nat} (h : Ld g k l) (hg : g k < 10) : Ld g (k + 1) (l + if tv g (k + 1) = 0 then 1 else 0) := by
  have e : tv g (k + 1) = 10 * tv g k + g k := rfl
  by_cases c : tv g (k + 1) = 0
  · rw [if_pos c]
    left
    refine ⟨c, ?_⟩
    rcases h with ⟨h1, h2⟩ | ⟨h1, h2, h3⟩
    · omega
    · have := ten_pos (k - l - 1)
      omega
  · rw [if_neg c]
    show Ld g (k + 1) l
    right
    rcases h with ⟨h1, h2⟩ | ⟨h1, h2, h3⟩
    · subst h2
      refine ⟨by omega, ?_, ?_⟩
      · rw [show l + 1 - l - 1 = 0 from by omega, Nat.pow_zero]
        omega
      · rw [show l + 1 - l = 1 from by omega, Nat.pow_one]
        omega
    · refine ⟨by omega, ?_, ?_⟩
      · rw [show k + 1 - l - 1 = (k - l - 1) + 1 from by omega, Nat.pow_succ]
        omega
      · rw [show k + 1 - l = (k - l) + 1 from by omega, Nat.pow_succ]
        omega
theorem ten38 (vk : Int32) (vn : Int64) (ve vB ls : Int32) (b : Nat → Int32) (da : Nat → Int32) (g : Nat → Nat) {D : Nat} (hD : D ≤ 1200) (hg : ∀ j, j < D → da j = nI (g j) ∧ g j < 10) (y1 : Int32) : ∀ (m k f l n : Nat) (a : Nat → Int32), k + m = D → m < f → Al a (tv g k) → Sz n (tv g k) → Ld g k l →
    ∃ n' l' a', f_M_readTen_38 f vk vn ve (nI n) vB (nI D) ls a b da y1 (nI l) (nI k) = f_M_readTen_90 vk vn ve (nI n') vB (nI D) ls a' b da y1 (nI l') ∧ Al a' (tv g D) ∧ Sz n' (tv g D) ∧ Ld g D l' := by
  have hsz : ∀ k n, k ≤ D → Sz n (tv g k) → n ≤ 134 := by
    intro k n hk hS
    refine Sz_lt hS (Nat.lt_of_lt_of_le (tv_lt g k (fun j hj => (hg j (by omega)).2)) (Nat.le_trans (ten_le (by omega)) ten_QB134))
  intro m
  induction m with
  | zero =>
    intro k f l n a h hf hA hS hL
    obtain ⟨f, rfl⟩ : ∃ j, f = j + 1 := ⟨f - 1, by omega⟩
    have : k = D := by omega
    subst this
    refine ⟨n, l, a, ?_, hA, hS, hL⟩
    show f_M_readTen_38b _ _ _ _ _ _ _ _ _ _ _ _ _ _ = _
    unfold f_M_readTen_38b
    rw [if_pos (Int32.le_refl _)]
  | succ m ih =>
    intro k f l n a h hf hA hS hL
    obtain ⟨f, rfl⟩ : ∃ j, f = j + 1 := ⟨f - 1, by omega⟩
    obtain ⟨hda, hgk⟩ := hg k (by omega)
    have hn := hsz k n (by omega) hS
    obtain ⟨n1, a1, q1, q2, q3, q4⟩ := mulq_eq (M := 10) (e := g k) (by omega) (by decide) hgk hA hS
    have e : tv g k * 10 + g k = tv g (k + 1) := by
      show _ = 10 * tv g k + g k
      omega
    rw [e] at q3 q4
    have hL1 := Ld_step hL hgk
    have hz := Sz_z q4
    have key : ∀ z : Nat, z = (if tv g (k + 1) = 0 then 1 else 0) → ∃ n' l' a', f_M_readTen_82 (f_M_readTen_38 f) vk vn ve (nI n1) vB (nI D) ls a1 b da y1 (nI k) (nI l) (nI z) = f_M_readTen_90 vk vn ve (nI n') vB (nI D) ls a' b da y1 (nI l') ∧ Al a' (tv g D) ∧ Sz n' (tv g D) ∧ Ld g D l' := by
      intro z hz
      unfold f_M_readTen_82
      rw [bd_s, bd_s, nI_add, nI_1]
      rw [← hz] at hL1
      exact ih (k + 1) f (l + z) n1 a1 (by omega) (by omega) q3 q4 hL1
    show ∃ n' l' a', f_M_readTen_38b _ _ _ _ _ _ _ _ _ _ _ _ _ _ = _ ∧ _
    unfold f_M_readTen_38b
    rw [if_neg (nI_ge (by omega) (by omega)), ck_s (gin_nI (by omega) (by decide)), nI_clamp (by omega), hda, show (10 : Int32) = nI 10 from rfl, q2, bi2_s, ite_c (nI_eq0 (by omega))]
    by_cases c : n1 = 0
    · rw [if_pos c]
      exact key 1 (by rw [if_pos (hz.mp c)])
    · rw [if_neg c]
      exact key 0 (by rw [if_neg (fun w => c (hz.mpr w))])
theorem ten174 (vk : Int32) (vn : Int64) (ve vB vD ls : Int32) (b : Nat → Int32) (da : Nat → Int32) {p : Int} (hp : p ≤ 1000) (hp2 : -100000 ≤ p) {T : Nat} (hT : T * 10 ^ p.toNat < 10 ^ 1200) : ∀ (m k f n : Nat) (a : Nat → Int32), k + m = p.toNat → m < f → Al a (T * 10 ^ k) → Sz n (T * 10 ^ k) →
    ∃ n' a', f_M_readTen_174 f vk vn ve (nI n) vB vD ls a b da (iI p) (nI k) = f_M_readTen_203 vk vn ve (nI n') vB vD ls a' b da (iI p) ∧ Al a' (T * 10 ^ p.toNat) ∧ Sz n' (T * 10 ^ p.toNat) := by
  intro m
  induction m with
  | zero =>
    intro k f n a h hf hA hS
    obtain ⟨f, rfl⟩ : ∃ j, f = j + 1 := ⟨f - 1, by omega⟩
    have : k = p.toNat := by omega
    subst this
    refine ⟨n, a, ?_, hA, hS⟩
    show f_M_readTen_174b _ _ _ _ _ _ _ _ _ _ _ _ _ = _
    unfold f_M_readTen_174b
    rw [iI_nI, if_pos (by rw [iI_le (by omega) (by omega) (by omega) (by omega)]; omega)]
  | succ m ih =>
    intro k f n a h hf hA hS
    obtain ⟨f, rfl⟩ : ∃ j, f = j + 1 := ⟨f - 1, by omega⟩
    have hlt : T * 10 ^ k < 10 ^ 1200 := Nat.lt_of_le_of_lt (Nat.mul_le_mul_left _ (ten_le (by omega))) hT
    have hn := Sz_lt hS (Nat.lt_of_lt_of_le hlt ten_QB134)
    obtain ⟨n1, a1, q1, q2, q3, q4⟩ := mulq_eq (M := 10) (e := 0) (by omega) (by decide) (by decide) hA hS
    rw [show T * 10 ^ k * 10 + 0 = T * 10 ^ (k + 1) from by rw [Nat.pow_succ, Nat.mul_assoc, Nat.add_zero]] at q3 q4
    show ∃ n' a', f_M_readTen_174b _ _ _ _ _ _ _ _ _ _ _ _ _ = _ ∧ _
    unfold f_M_readTen_174b
    rw [iI_nI k, if_neg (by rw [iI_le (by omega) (by omega) (by omega) (by omega)]; omega), show (10 : Int32) = nI 10 from rfl, show (0 : Int32) = nI 0 from rfl, q2, bi2_s, bd_s, ← iI_nI, nI_1]
    exact ih (k + 1) f n1 a1 (by omega) (by omega) q3 q4
theorem ten205 (vk : Int32) (vn : Int64) (ve vA vD ls : Int32) (a : Nat → Int32) (da : Nat → Int32) {p : Int} (hp : p ≤ 1000) (hp2 : -1602 ≤ p) : ∀ (m k f n : Nat) (b : Nat → Int32), k + m = (-p).toNat → m < f → Al b (10 ^ k) → Sz n (10 ^ k) →
    ∃ n' b', f_M_readTen_205 f vk vn ve vA (nI n) vD ls a b da (iI p) (nI k) = f_M_readTen_235 vk vn ve vA (nI n') vD ls a b' da ∧ Al b' (10 ^ (-p).toNat) ∧ Sz n' (10 ^ (-p).toNat) := by
  intro m
  induction m with
  | zero =>
    intro k f n b h hf hA hS
    obtain ⟨f, rfl⟩ : ∃ j, f = j + 1 := ⟨f - 1, by omega⟩
    have : k = (-p).toNat := by omega
    subst this
    refine ⟨n, b, ?_, hA, hS⟩
    show f_M_readTen_205b _ _ _ _ _ _ _ _ _ _ _ _ _ = _
    unfold f_M_readTen_205b
    rw [iI_nI, iI_neg, if_pos (by rw [iI_le (by omega) (by omega) (by omega) (by omega)]; omega)]
  | succ m ih =>
    intro k f n b h hf hA hS
    obtain ⟨f, rfl⟩ : ∃ j, f = j + 1 := ⟨f - 1, by omega⟩
    have hlt : 10 ^ k < 10 ^ 1602 := (Nat.pow_lt_pow_iff_right (by decide)).mpr (by omega)
    have hn := Sz_lt hS (Nat.lt_of_lt_of_le hlt ten_QB180)
    obtain ⟨n1, b1, q1, q2, q3, q4⟩ := mulq_eq (M := 10) (e := 0) (by omega) (by decide) (by decide) hA hS
    rw [show 10 ^ k * 10 + 0 = 10 ^ (k + 1) from by rw [Nat.pow_succ, Nat.add_zero]] at q3 q4
    show ∃ n' b', f_M_readTen_205b _ _ _ _ _ _ _ _ _ _ _ _ _ = _ ∧ _
    unfold f_M_readTen_205b
    rw [iI_nI k, iI_neg, if_neg (by rw [iI_le (by omega) (by omega) (by omega) (by omega)]; omega), show (10 : Int32) = nI 10 from rfl, show (0 : Int32) = nI 0 from rfl, q2, bi2_s, bd_s, ← iI_nI, nI_1]
    exact ih (k + 1) f n1 b1 (by omega) (by omega) q3 q4
theorem model10 (vk : Int32) (vn : Int64) (ve vA vB : Int32) (neg : Bool) (a b da : Nat → Int32) (g : Nat → Nat) {D : Nat} (hD : D ≤ 1200) (hg : ∀ j, j < D → da j = nI (g j) ∧ g j < 10) {p : Int} (hp : -1100000 ≤ p) (hp2 : p ≤ 1100000) :
    ∃ v5 v6 a7 a8, f_M_readTen vk vn ve vA vB (nI D) (bz neg) a b da (iI p) = some ((mres neg (val10 (tv g D) p)).1, (mres neg (val10 (tv g D) p)).1, (mres neg (val10 (tv g D) p)).2.1, (mres neg (val10 (tv g D) p)).2.2, v5, v6, a7, a8) := by
  obtain ⟨a0, b0, e0, hA0, hB0⟩ := zero_ten vk vn ve vA vB (nI D) (bz neg) da (iI p) 400 0 fu a b rfl (by decide) (fun j hj => absurd hj (by omega))
  unfold f_M_readTen
  rw [show (0 : Int32) = nI 0 from rfl, e0]
  unfold f_M_readTen_29
  obtain ⟨n, l, a1, e1, hA, hS, hL⟩ := ten38 vk vn ve vB (bz neg) b0 da g hD hg (iI p) D 0 fu 0 0 a0 (by omega) (by unfold fu; omega) hA0 Sz_0 (Or.inl ⟨rfl, rfl⟩)
  rw [show (0 : Int32) = nI 0 from rfl, e1]
  have hTlt := tv_lt g D (fun j hj => (hg j hj).2)
  have hn : n ≤ 134 := Sz_lt hS (Nat.lt_of_lt_of_le hTlt (Nat.le_trans (ten_le hD) ten_QB134))
  unfold Ld at hL
  generalize tv g D = T at *
  have zero : val10 T p = (0, 0, 0) → ∃ v5 v6 a7 a8, (bi4 (f_M_set vk vn ve 2 0 0) fun r31 v32 v33 v34 => some (r31, v32, v33, v34, nI n, vB, a1, b0)) = some ((mres neg (val10 T p)).1, (mres neg (val10 T p)).1, (mres neg (val10 T p)).2.1, (mres neg (val10 T p)).2.2, v5, v6, a7, a8) := by
    intro h
    rw [h, set_0 vk vn ve neg]
    exact ⟨nI n, vB, a1, b0, rfl⟩
  unfold f_M_readTen_90
  rw [ite_c (nI_eq0 (by omega))]
  by_cases c : n = 0
  · rw [if_pos c]
    have hT0 := (Sz_z hS).mp c
    exact zero (by rw [hT0]; exact val10_0 p)
  · rw [if_neg c]
    have hT0 : T ≠ 0 := fun w => c ((Sz_z hS).mpr w)
    rcases hL with ⟨h1, -⟩ | ⟨h1, h2, h3⟩
    · exact absurd h1 hT0
    · have esum : (iI p + nI D) - nI l = iI (p + D - l) := by rw [iI_nI, iI_nI, iI_add, iI_sub]
      rw [esum, ite_c (iI_kle (-400) (by decide) (by omega) (by omega) (by decide) (by decide))]
      by_cases d : -400 ≤ p + D - l
      · rw [if_pos d, ite_c (iI_lek 400 (by decide) (by omega) (by omega) (by decide) (by decide))]
        by_cases d2 : p + D - l ≤ 400
        · rw [if_pos d2, ck_s (show gin (0 : Int32) 400 from gin_nI (n := 0) (by decide) (by decide)), bd_s, show (0 : Int32).toNatClampNeg = 0 from rfl]
          have hTp : T * 10 ^ p.toNat < 10 ^ 1200 := by
            by_cases s : 0 ≤ p
            · calc T * 10 ^ p.toNat < 10 ^ (D - l) * 10 ^ p.toNat := Nat.mul_lt_mul_of_pos_right h3 (ten_pos _)
                _ = 10 ^ (D - l + p.toNat) := (Nat.pow_add _ _ _).symm
                _ ≤ 10 ^ 1200 := ten_le (by omega)
            · rw [show p.toNat = 0 from by omega, Nat.pow_zero, Nat.mul_one]
              exact Nat.lt_of_lt_of_le hTlt (ten_le hD)
          have hB1 : Al (upd b0 0 1) (10 ^ 0) := by
            intro j hj
            unfold upd lw
            by_cases q : j = 0
            · rw [if_pos q, q]
              rfl
            · rw [if_neg q, hB0 j hj, lw_0, Nat.div_eq_of_lt (by
                have := QB_le (show 1 ≤ j by omega)
                exact Nat.lt_of_lt_of_le (show 10 ^ 0 < QB 1 by decide) this)]
          have hS1 : Sz 1 (10 ^ 0) := ⟨by decide, fun _ => by decide⟩
          obtain ⟨n2, a2, e2, hA2, hS2⟩ := ten174 vk vn ve (nI 1) (nI D) (bz neg) (upd b0 0 1) da (p := p) (by omega) (by omega) hTp p.toNat 0 fu n a1 (by omega) (by unfold fu; omega) (by rw [Nat.pow_zero, Nat.mul_one]; exact hA) (by rw [Nat.pow_zero, Nat.mul_one]; exact hS)
          rw [show (1 : Int32) = nI 1 from rfl, show (0 : Int32) = nI 0 from rfl]
          refine Exists.imp ?_ (?_ : ∃ v5 v6 a7 a8, f_M_readTen_203 vk vn ve (nI n2) (nI 1) (nI D) (bz neg) a2 (upd b0 0 1) da (iI p) = some ((mres neg (val10 T p)).1, (mres neg (val10 T p)).1, (mres neg (val10 T p)).2.1, (mres neg (val10 T p)).2.2, v5, v6, a7, a8))
          · intro v5 ⟨v6, a7, a8, h⟩
            exact ⟨v6, a7, a8, e2.trans h⟩
          unfold f_M_readTen_203
          obtain ⟨n3, b3, e3, hB3, hS3⟩ := ten205 vk vn ve (nI n2) (nI D) (bz neg) a2 da (p := p) (by omega) (by omega) (-p).toNat 0 fu 1 (upd b0 0 1) (by omega) (by unfold fu; omega) hB1 hS1
          rw [show (0 : Int32) = nI 0 from rfl, e3]
          unfold f_M_readTen_235
          have hn2 : n2 ≤ 134 := Sz_lt hS2 (Nat.lt_of_lt_of_le hTp ten_QB134)
          have hn3 : n3 ≤ 180 := Sz_lt hS3 (Nat.lt_of_lt_of_le ((Nat.pow_lt_pow_iff_right (by decide)).mpr (show (-p).toNat < 1602 by omega)) ten_QB180)
          have hp10 := ten_pos p.toNat
          have hq10 := ten_pos (-p).toNat
          obtain ⟨v5, v6, a7, a8, e4⟩ := divide_ref vk vn ve neg hA2 hS2 hB3 hS3 (by omega) (by omega) (Nat.mul_ne_zero hT0 (by omega)) (by omega)
          have hv : near (T * 10 ^ p.toNat) (10 ^ (-p).toNat) = val10 T p := by
            unfold val10
            by_cases s : 0 ≤ p
            · rw [if_pos s, show (-p).toNat = 0 from by omega, Nat.pow_zero]
            · rw [if_neg s, show p.toNat = 0 from by omega, Nat.pow_zero, Nat.mul_one]
          rw [hv] at e4
          rw [e4]
          exact ⟨v5, v6, a7, a8, rfl⟩
        · have hb := val10_big (T := T) (E := D - l - 1) (Q := p) h2 (by omega)
          rw [if_neg d2, hb]
          refine ⟨nI n, vB, a1, b0, ?_⟩
          cases neg <;> rfl
      · rw [if_neg d]
        exact zero (val10_small (D := D - l) h3 (by omega))

/-! forms e, f, g: both write the same -/
theorem Xp_top {V : Nat} {ex : Nat → Int32} {L : Nat} {pt : Int} (hX : Xp V ex L pt) (h1 : -1100 ≤ pt) (h2 : pt ≤ 309) (hV : V ≠ 0) : Tp V (pt - 1) := by
  have hL0 : L ≠ 0 := fun q => hV ((Xp_L0 hX).mp q)
  obtain ⟨hL, -, -, W, z, hVW, hz, hW, -, hW1⟩ := hX
  have hw : 10 ^ (L - 1) ≤ W := by
    rcases hW1 with q | q
    · exact absurd q hL0
    · exact q
  refine Or.inr ⟨hV, by omega, by omega, ?_, ?_⟩
  · rw [show (pt - 1 + 1548).toNat = (L - 1) + z from by omega, Nat.pow_add, hVW]
    exact Nat.mul_le_mul_right _ hw
  · rw [show (pt - 1 + 1549).toNat = L + z from by omega, Nat.pow_add, hVW]
    exact Nat.mul_lt_mul_of_pos_right hW (ten_pos z)
theorem Xp_lt {V : Nat} {ex : Nat → Int32} {L : Nat} {pt : Int} (hX : Xp V ex L pt) : V < 10 ^ (1548 + pt).toNat := by
  obtain ⟨hL, -, -, W, z, hVW, hz, hW, -, hW1⟩ := hX
  rw [show (1548 + pt).toNat = L + z from by omega, Nat.pow_add, hVW]
  exact Nat.mul_lt_mul_of_pos_right hW (ten_pos z)
theorem rdE_208 {V : Nat} {ex : Nat → Int32} {L : Nat} {pt : Int} (hX : Xp V ex L pt) (h2 : pt ≤ 309) {E : Nat} (hE : E ≤ 1859) : rdE V E < PB 208 := by
  have h := Xp_lt hX
  have h1 : V < 10 ^ 1859 := Nat.lt_of_lt_of_le h (ten_le (by omega))
  have h3 := rdE_le h1 hE
  rw [PB_ten]
  exact Nat.lt_of_le_of_lt h3 ((Nat.pow_lt_pow_iff_right (by decide)).mpr (by decide))
theorem Tp_ex {R : Nat} (h : R < PB 208) : ∃ t, Tp R t := by
  by_cases c : R = 0
  · exact ⟨0, Or.inl ⟨c, rfl⟩⟩
  · rw [PB_ten] at h
    obtain ⟨L, a1, a2, a3, a4⟩ := digs c _ h
    refine ⟨(L : Int) - 1549, Or.inr ⟨c, by omega, by omega, ?_, ?_⟩⟩
    · rw [show ((L : Int) - 1549 + 1548).toNat = L - 1 from by omega]; exact a3
    · rw [show ((L : Int) - 1549 + 1549).toNat = L from by omega]; exact a4
/-- how far up a rounded number can be -/
theorem Tp_hi {V R : Nat} {ex : Nat → Int32} {L : Nat} {pt : Int} (hX : Xp V ex L pt) (h1 : -1100 ≤ pt) (h2 : pt ≤ 309) {E : Nat} (hR : R = rdE V E) (hE : (E : Int) ≤ 1548 + 309) {t : Int} (ht : Tp R t) : t ≤ 309 := by
  rcases ht with ⟨-, h⟩ | ⟨-, -, -, h, -⟩
  · omega
  · have hv : V < 10 ^ 1857 := Nat.lt_of_lt_of_le (Xp_lt hX) (ten_le (by omega))
    have := rdE_le hv (show E ≤ 1857 by omega)
    have : 10 ^ (t + 1548).toNat < 10 ^ (1858) := by
      have h3 : 10 ^ 1857 < 10 ^ 1858 := (Nat.pow_lt_pow_iff_right (by decide)).mpr (by decide)
      omega
    have := (Nat.pow_lt_pow_iff_right (show 1 < 10 by decide)).mp this
    omega
/-- and how far down -/
theorem Tp_lo {V R : Nat} {ex : Nat → Int32} {L : Nat} {pt : Int} (hX : Xp V ex L pt) (h1 : -1100 ≤ pt) (h2 : pt ≤ 309) {E : Nat} (hR : R = rdE V E) (hEt : (E : Int) ≤ 1548 + pt - 1 ∨ V = 0) {t : Int} (ht : Tp R t) : (V = 0 ∧ t = 0) ∨ (V ≠ 0 ∧ pt - 1 ≤ t ∧ t ≤ pt) := by
  by_cases c : V = 0
  · left
    refine ⟨c, ?_⟩
    rw [c, rdE_0] at hR
    rw [hR] at ht
    exact Tp_uniq ht (Or.inl ⟨rfl, rfl⟩)
  · right
    refine ⟨c, ?_⟩
    have hE : (E : Int) ≤ 1548 + pt - 1 := by
      rcases hEt with h | h
      · exact h
      · exact absurd h c
    obtain ⟨rl, rp, rd', e1, -, q1, q2, q3, q4⟩ := roundTo_V hX (n := min 1200 (1548 + pt - E)) (by omega) (by omega) (Er := (1548 + pt - min 1200 (1548 + pt - E)).toNat) (by omega) 0 0 (fun _ => 0)
    by_cases g : 1548 + pt - E ≤ 1200
    · rw [show (1548 + pt - min 1200 (1548 + pt - (E : Int))).toNat = E from by omega] at q1 q2
      have htp := Tp_of q1 (q2 (by omega) c) (by omega) (by omega)
      rw [← hR] at htp
      have := Tp_uniq ht htp
      omega
    · have hdv : 10 ^ E ∣ V := by
        obtain ⟨hL, -, -, W, z, hVW, hz, hW, -, hW1⟩ := hX
        rw [hVW]
        exact Nat.dvd_trans (Nat.pow_dvd_pow 10 (show E ≤ z by omega)) (Nat.dvd_mul_left _ _)
      rw [rdE_dvd hdv] at hR
      have := Xp_top hX h1 h2 c
      rw [hR] at ht
      have := Tp_uniq ht this
      omega
/-! the class: rounded, then written -/
theorem cls_round {V : Nat} {ex : Nat → Int32} {L : Nat} {pt : Int} (hX : Xp V ex L pt) (h2 : pt ≤ 309) {er : Nat → Int32} {F Ll : Nat} (hR : Rw er V) (hT : Tr F Ll V) {p : Int} (hp : -1547 ≤ p) (hp2 : p ≤ 310) :
    ∃ F' L' er', f_Decimal_roundAt (nI F) (nI Ll) er (iI p) = some (nI F', nI L', er') ∧ Rw er' (rdE V (p + 1548).toNat) ∧ Tr F' L' (rdE V (p + 1548).toNat) := by
  have := roundAt_eq hR hT (E := (p + 1548).toNat) (by omega) (by omega) (rdE_208 hX h2 (by omega))
  rw [show (((p + 1548).toNat : Nat) : Int) - 1548 = p from by omega] at this
  exact this
def gC (R : Nat) (t : Int) (q : Nat) (al : Bool) (lt n : Nat) : List Nat :=
  if -4 ≤ t ∧ t ≤ q then cF R t (if al then ((q : Int) - t).toNat else need R (-1) ((q : Int) - t).toNat) al
  else cE R t (if al then q else need R (t - 1) q) al lt n
theorem cls_g {V : Nat} {ex : Nat → Int32} {L : Nat} {pt : Int} (hX : Xp V ex L pt) (h1 : -1100 ≤ pt) (h2 : pt ≤ 309) {er : Nat → Int32} {F Ll : Nat} (hR : Rw er V) (hT : Tr F Ll V) {tv : Int} (htv : Tp V tv) {q : Nat} (hq : q ≤ 98) {t : Int} (ht : Tp (rdE V (tv - q + 1548).toNat) t) {c : Nat} (hc : Dc t.natAbs c) {fl : Nat} (hfl : fl < 32) {lc : Nat} (hlc : lc < 65536) (vc : Int32) (dgs : Nat → Int32) {sz : Int32} {a : Nat → Int32} {l : List Nat} (hP : Pt sz a l) (hl : l.length ≤ 3) :
    ∃ (c' : Int32) (dgs' : Nat → Int32) (F' L' : Nat) (sz' : Int32) (er' a' : Nat → Int32), f_Writer_putShorterForm vc (nI lc) (nI fl) dgs (nI F) (nI Ll) sz er a (nI q) = some (c', dgs', nI F', nI L', sz', er', a') ∧ Pt sz' a' (l ++ gC (rdE V (tv - q + 1548).toNat) t q (decide (fl / 8 % 2 = 1)) (elt lc) (max 2 c)) ∧ Rw er' (rdE V (tv - q + 1548).toNat) ∧ Tr F' L' (rdE V (tv - q + 1548).toNat) := by
  have hr := Tp_range htv
  have htv2 : (V = 0 ∧ tv = 0) ∨ (V ≠ 0 ∧ tv = pt - 1) := by
    by_cases z : V = 0
    · left
      refine ⟨z, ?_⟩
      rw [z] at htv
      exact Tp_uniq htv (Or.inl ⟨rfl, rfl⟩)
    · right
      exact ⟨z, Tp_uniq htv (Xp_top hX h1 h2 z)⟩
  have hlo := Tp_lo hX h1 h2 (E := (tv - q + 1548).toNat) rfl (by omega) ht
  obtain ⟨t0, ht0, e0⟩ := topPlace_t hR hT
  have := Tp_uniq htv ht0
  subst this
  obtain ⟨F', L', er', e1, r1, t1⟩ := cls_round hX h2 hR hT (p := tv - q) (by omega) (by omega)
  obtain ⟨t2, ht2, e2⟩ := topPlace_t r1 t1
  have := Tp_uniq ht ht2
  subst this
  generalize rdE V (tv - q + 1548).toNat = R at *
  have hpw : ∃ (c' : Int32) (dgs' : Nat → Int32) (sz' : Int32) (a' : Nat → Int32), f_Writer_putShorterForm_50 vc (nI lc) (nI fl) dgs (nI F') (nI L') sz er' a (nI q) (iI t) = some (c', dgs', nI F', nI L', sz', er', a') ∧ Pt sz' a' (l ++ cE R t (if decide (fl / 8 % 2 = 1) then q else need R (t - 1) q) (decide (fl / 8 % 2 = 1)) (elt lc) (max 2 c)) := by
    have hn := need_le R (t - 1) q
    have hb : (if decide (fl / 8 % 2 = 1) then q else need R (t - 1) q) ≤ 102 := by split <;> omega
    obtain ⟨c4, d4, s4, a4, e4, q4⟩ := cpowerform r1 t1 ht (by omega) hc hfl hlc (b := if decide (fl / 8 % 2 = 1) then q else need R (t - 1) q) hb vc dgs hP hl
    refine ⟨c4, d4, s4, a4, ?_, q4⟩
    unfold f_Writer_putShorterForm_50 f_Writer_needed
    rw [show iI t - (1 : Int32) = iI (t - 1) from by rw [show (1 : Int32) = iI 1 from by decide, iI_sub], cneeded r1 hfl (p := t - 1) (by omega) q fu (by omega) (by omega) (by unfold fu; omega), bi1_s, e4, bi4_s]
  unfold f_Writer_putShorterForm
  rw [e0, bi1_s, show iI tv - nI q = iI (tv - q) from by rw [iI_nI, iI_sub], e1, bi3_s, e2, bi1_s, ite_c (iI_ltk (-4) (by decide) (by omega) (by omega) (by decide) (by decide)), iI_nI q, ite_c (iI_lt (by omega) (by omega) (by omega) (by omega)), ← iI_nI]
  unfold gC
  by_cases g1 : t < -4
  · rw [if_pos g1, if_neg (by omega)]
    obtain ⟨c4, d4, s4, a4, e4, q4⟩ := hpw
    exact ⟨c4, d4, F', L', s4, er', a4, e4, q4, r1, t1⟩
  · rw [if_neg g1]
    by_cases g2 : (q : Int) < t
    · rw [if_pos g2, if_neg (by omega)]
      obtain ⟨c4, d4, s4, a4, e4, q4⟩ := hpw
      exact ⟨c4, d4, F', L', s4, er', a4, e4, q4, r1, t1⟩
    · rw [if_neg g2, if_pos (by omega)]
      obtain ⟨k, hk⟩ : ∃ k : Nat, (q : Int) - t = k := ⟨_, (Int.toNat_of_nonneg (by omega)).symm⟩
      have hn := need_le R (-1) k
      have hb : (if decide (fl / 8 % 2 = 1) then k else need R (-1) k) ≤ 102 := by split <;> omega
      obtain ⟨s4, a4, e4, q4⟩ := cpointform r1 t1 ht hfl (b := if decide (fl / 8 % 2 = 1) then k else need R (-1) k) hb (by omega) hP hl
      refine ⟨vc, dgs, F', L', s4, er', a4, ?_, ?_, r1, t1⟩
      · unfold f_Writer_needed
        rw [show nI q - iI t = nI k from by rw [iI_nI, iI_sub, hk, iI_nI], show (-1 : Int32) = iI (-1) from by decide, cneeded r1 hfl (p := -1) (by omega) k fu (by omega) (by omega) (by unfold fu; omega), bi1_s, e4, bi2_s]
      · rw [hk, Int.toNat_natCast]
        exact q4
/-! the reference -/
theorem ref_round {V : Nat} {ex : Nat → Int32} {L : Nat} {pt : Int} (hX : Xp V ex L pt) (h1 : -1100 ≤ pt) (h2 : pt ≤ 309) {tv : Int} (htv : Tp V tv) {q : Nat} (hq : q ≤ 102) {t : Int} (ht : Tp (rdE V (tv - q + 1548).toNat) t) (rl0 rp0 : Int32) (rd : Nat → Int32) :
    ∃ (rl : Int32) (rp : Int) (rd' : Nat → Int32), f_M_roundTo (nI L) (iI pt) rl0 rp0 ex rd (nI (q + 1)) = some (rl, iI rp, rd') ∧ Rt (rdE V (tv - q + 1548).toNat) rl (t + 1) rd' ∧ ((L = 0 ∧ t = 0) ∨ (L ≠ 0 ∧ t = rp - 1)) ∧ pt ≤ rp ∧ rp ≤ pt + 1 := by
  by_cases c : V = 0
  · have hL := (Xp_L0 hX).mpr c
    obtain ⟨rl, rp, rd', e1, hRt, -, -, q3, q4⟩ := roundTo_V hX (n := ((q + 1 : Nat) : Int)) (by omega) (by omega) (Er := (1548 + pt - (q + 1 : Nat)).toNat) (by omega) rl0 rp0 rd
    rw [c, rdE_0] at hRt ht ⊢
    have ht0 := Tp_uniq ht (Or.inl ⟨rfl, rfl⟩)
    rw [← iI_nI] at e1
    exact ⟨rl, rp, rd', e1, Rt_zero hRt _, Or.inl ⟨hL, ht0⟩, q3, q4⟩
  · have htv2 := Tp_uniq htv (Xp_top hX h1 h2 c)
    obtain ⟨rl, rp, rd', e1, hRt, q1, q2, q3, q4⟩ := roundTo_V hX (n := ((q + 1 : Nat) : Int)) (by omega) (by omega) (Er := (tv - q + 1548).toNat) (by omega) rl0 rp0 rd
    have htp := Tp_of q1 (q2 (by omega) c) (by omega) (by omega)
    have := Tp_uniq ht htp
    subst this
    rw [← iI_nI] at e1
    exact ⟨rl, rp, rd', e1, by rw [show rp - 1 + 1 = rp from by omega]; exact hRt, Or.inr ⟨fun w => c ((Xp_L0 hX).mp w), rfl⟩, q3, q4⟩
theorem ref_g {V : Nat} {ex : Nat → Int32} {L : Nat} {pt : Int} (hX : Xp V ex L pt) (h1 : -1100 ≤ pt) (h2 : pt ≤ 309) {tv : Int} (htv : Tp V tv) {q : Nat} (hq : q ≤ 98) {t : Int} (ht : Tp (rdE V (tv - q + 1548).toNat) t) {c : Nat} (hc : Dc t.natAbs c) (al : Bool) {lt : Nat} (hlt : lt < 128) (rl0 rp0 : Int32) (rd : Nat → Int32) {sz : Int32} {a : Nat → Int32} {l : List Nat} (hP : Pt sz a l) (hl : l.length ≤ 100) :
    ∃ (rl rp : Int32) (sz' : Int32) (a' rd' : Nat → Int32), f_M_general_18 (nI L) (iI pt) rl0 rp0 sz a ex rd (bz al) (nI lt) (nI (q + 1)) = some (rl, rp, sz', a', rd') ∧ Pt sz' a' (l ++ gC (rdE V (tv - q + 1548).toNat) t q al lt (max 2 c)) := by
  have hr := Tp_range htv
  have htv2 : (V = 0 ∧ tv = 0) ∨ (V ≠ 0 ∧ tv = pt - 1) := by
    by_cases z : V = 0
    · left
      refine ⟨z, ?_⟩
      rw [z] at htv
      exact Tp_uniq htv (Or.inl ⟨rfl, rfl⟩)
    · right
      exact ⟨z, Tp_uniq htv (Xp_top hX h1 h2 z)⟩
  have hlo := Tp_lo hX h1 h2 (E := (tv - q + 1548).toNat) rfl (by omega) ht
  obtain ⟨rl, rp, rd1, e1, hRt, hrp, hp1, hp2⟩ := ref_round hX h1 h2 htv (by omega) ht rl0 rp0 rd
  have hLr := hX.1
  generalize hRR : rdE V (tv - q + 1548).toNat = R at *
  have x43 : f_M_general_18 (nI L) (iI pt) rl0 rp0 sz a ex rd (bz al) (nI lt) (nI (q + 1)) = f_M_general_43 (nI L) (iI pt) rl (iI rp) sz a ex rd1 (bz al) (nI lt) (nI (q + 1)) (iI t) := by
    unfold f_M_general_18
    rw [e1, bi3_s]
    rcases hrp with ⟨w1, w2⟩ | ⟨w1, w2⟩
    · rw [if_pos (by rw [w1]; rfl), w2]
      rfl
    · rw [if_neg (nI_ne0 (by omega) (by omega)), w2, show iI rp - (1 : Int32) = iI (rp - 1) from by rw [show (1 : Int32) = iI 1 from by decide, iI_sub]]
  rw [x43]
  have pw1 : ∃ (rl2 rp2 : Int32) (sz' : Int32) (a' rd' : Nat → Int32), f_M_general_63 (nI L) (iI pt) rl (iI rp) sz a ex rd1 (bz al) (nI lt) (nI (q + 1)) (iI t) = some (rl2, rp2, sz', a', rd') ∧ Pt sz' a' (l ++ cE R t (if al then q else need R (t - 1) q) al lt (max 2 c)) := by
    have hn := need_le R (t - 1) q
    have fin : ∀ b, b ≤ 102 → b = (if al then q else need R (t - 1) q) → ∃ (rl2 rp2 : Int32) (sz' : Int32) (a' rd' : Nat → Int32), f_M_general_110 (nI L) (iI pt) rl (iI rp) sz a ex rd1 (bz al) (nI lt) 0 (nI b) = some (rl2, rp2, sz', a', rd') ∧ Pt sz' a' (l ++ cE R t (if al then q else need R (t - 1) q) al lt (max 2 c)) := by
      intro b hb hb2
      obtain ⟨s4, a4, e4, q4⟩ := mpowerf hRt (by omega) (by omega) hLr (rp := rp) hrp hc hb al hlt hP hl
      refine ⟨rl, iI rp, s4, a4, rd1, ?_, by rw [← hb2]; exact q4⟩
      unfold f_M_general_110
      rw [if_pos rfl, e4, bi2_s]
    unfold f_M_general_63 f_M_general_64 f_M_general_85 f_M_general_105 f_M_needed
    rw [if_pos rfl, if_pos rfl, nI_pred]
    cases al
    · rw [if_pos (show bz false = 0 from rfl), show f_M_needed_2 fu rl rd1 0 (nI q) = f_M_needed_2 fu rl rd1 (iI 0) (nI q) from rfl, mneeded hRt (x := 0) (by decide) (by decide) q fu (by omega) (by unfold fu; omega), bi1_s, show t - 0 - 1 = t - 1 from by omega]
      exact fin _ (by omega) (by rw [if_neg (by decide)])
    · rw [if_neg (by decide)]
      exact fin _ (by omega) (by rw [if_pos rfl])
  unfold f_M_general_43
  rw [ite_c (iI_ltk (-4) (by decide) (by omega) (by omega) (by decide) (by decide)), iI_nI (q + 1), ite_c (iI_le (by omega) (by omega) (by omega) (by omega)), ← iI_nI (q + 1)]
  unfold gC
  by_cases g1 : t < -4
  · rw [if_pos g1, if_neg (by omega)]
    exact pw1
  · rw [if_neg g1]
    by_cases g2 : ((q + 1 : Nat) : Int) ≤ t
    · rw [if_pos g2, if_neg (by omega)]
      exact pw1
    · rw [if_neg g2, if_pos (by omega)]
      obtain ⟨k, hk⟩ : ∃ k : Nat, (q : Int) - t = k := ⟨_, (Int.toNat_of_nonneg (by omega)).symm⟩
      rw [hk, Int.toNat_natCast]
      have hn := need_le R (-1) k
      have fin : ∀ b, b ≤ k → need R (-1) k ≤ b → b = (if al then k else need R (-1) k) → ∃ (rl2 rp2 : Int32) (sz' : Int32) (a' rd' : Nat → Int32), f_M_general_110 (nI L) (iI pt) rl (iI rp) sz a ex rd1 (bz al) (nI lt) 1 (nI b) = some (rl2, rp2, sz', a', rd') ∧ Pt sz' a' (l ++ cF R t (if al then k else need R (-1) k) al) := by
        intro b hb hb3 hb2
        have hagain : rdE V (1548 - b) = R := by
          rcases htv2 with ⟨z1, z2⟩ | ⟨z1, z2⟩
          · rw [z1, rdE_0] at hRR ⊢
            exact hRR
          · have hEle : (tv - q + 1548).toNat ≤ 1548 - k := by omega
            have hdv0 : 10 ^ (1548 - k) ∣ R := by
              by_cases w : (tv - q + 1548).toNat = 1548 - k
              · rw [← hRR, ← w]
                rw [rdE_div]
                exact Nat.dvd_mul_left _ _
              · have htpt : t = pt := by omega
                have hle := rdE_le (Xp_lt hX) (show (tv - q + 1548).toNat ≤ (1548 + pt).toNat by omega)
                rw [hRR] at hle
                have hge : 10 ^ (1548 + pt).toNat ≤ R := by
                  rcases ht with ⟨z3, z4⟩ | ⟨z3, z4, z5, z6, z7⟩
                  · exfalso
                    rcases hlo with ⟨y1, y2⟩ | ⟨y1, y2, y3⟩
                    · exact z1 y1
                    · have := Xp_top hX h1 h2 z1
                      obtain ⟨rlx, rpx, rdx, -, -, o1, o2, o3, o4⟩ := roundTo_V hX (n := ((q + 1 : Nat) : Int)) (by omega) (by omega) (Er := (tv - q + 1548).toNat) (by omega) rl0 rp0 rd
                      have := o2 (by omega) z1
                      rw [hRR, z3] at this
                      have := ten_pos (1547 + rpx).toNat
                      omega
                  · rw [htpt, show (pt + 1548).toNat = (1548 + pt).toNat from by omega] at z6
                    exact z6
                rw [show R = 10 ^ (1548 + pt).toNat from by omega]
                exact Nat.pow_dvd_pow 10 (by omega)
            have hdv : 10 ^ (1548 - b) ∣ R := by
              have := dvd_need (R := R) (p := -1) (k := k) (by omega) (by omega) (by
                rw [show ((-1 : Int) + 1548).toNat + 1 - k = 1548 - k from by omega]
                exact hdv0) (k - b) (by omega) (by omega)
              rw [show ((-1 : Int) + 1548).toNat + 1 - (k - (k - b)) = 1548 - b from by omega] at this
              exact this
            have := rdE_again (V := V) (E := (tv - q + 1548).toNat) (E' := 1548 - b) (by omega) (by rw [hRR]; exact hdv)
            rw [this, hRR]
        obtain ⟨rl2, rp2, rd2, s4, a4, e4, q4⟩ := mfixed hX (by omega) (by omega) (b := b) (by omega) al (t := t) (by rw [hagain]; exact ht) rl (iI rp) rd1 hP hl
        rw [hagain, hb2] at q4
        refine ⟨rl2, rp2, s4, a4, rd2, ?_, q4⟩
        unfold f_M_general_110
        rw [if_neg (by decide), e4, bi5_s]
      unfold f_M_general_64 f_M_general_85 f_M_general_105 f_M_needed
      rw [if_neg (show ¬ (1 : Int32) = 0 from by decide), if_neg (show ¬ (1 : Int32) = 0 from by decide), nI_pred, show nI q - iI t = nI k from by rw [iI_nI, iI_sub, hk, iI_nI]]
      cases al
      · rw [if_pos (show bz false = 0 from rfl), mneeded hRt (x := t) (by omega) (by omega) k fu (by omega) (by unfold fu; omega), bi1_s, show t - t - 1 = -1 from by omega]
        exact fin _ hn (Nat.le_refl _) (by rw [if_neg (by decide)])
      · rw [if_neg (show ¬ bz true = 0 from by decide)]
        exact fin _ (Nat.le_refl _) hn (by rw [if_pos rfl])

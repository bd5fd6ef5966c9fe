/-! the least precision: reference -/
theorem m104 {k73 : Int32 → Int64 → Int32 → Int32 → Int32 → Int32 → Int32 → Int32 → Int32 → Int32 → Int32 → Int32 → Int32 → Int32 → (Nat → Int32) → (Nat → Int32) → (Nat → Int32) → (Nat → Int32) → (Nat → Int32) → (Nat → Int32) → (Nat → Int32) → (Nat → Int32) → Int32 → Int64 → Int32 → Int64 → Int32 → Int32 → Int32 → Option (Int32 × Int32 × Int64 × Int32 × Int32 × Int32 × Int32 × Int32 × Int32 × Int32 × Int32 × Int32 × Int32 × Int32 × Int32 × (Nat → Int32) × (Nat → Int32) × (Nat → Int32) × (Nat → Int32) × (Nat → Int32) × (Nat → Int32) × (Nat → Int32) × (Nat → Int32))} {R : Nat} {rl : Int32} {rp : Int} {rd : Nat → Int32} (hRt : Rt R rl rp rd) {p : Nat} (hp : p ≤ 17) (K : Int32) (N : Int64) (E vA vB vD ls lc vl vp wr bs : Int32) (ab be body ex lm out : Nat → Int32) (y1 : Int32) (y2 : Int64) (y4 : Int32) (y5 : Int64) (y7 : Int32) : ∀ (n j f : Nat) (da : Nat → Int32), j + n = p → n < f → (∀ i, i < j → da i = nI (dgZ R (rp - 1 - i))) →
    ∃ da', f_M_shortest_104 k73 f K N E vA vB vD ls lc vl vp rl (iI rp) wr bs ab be body da ex lm out rd y1 y2 y4 y5 y7 (nI p) (nI j) = f_M_shortest_131 k73 K N E vA vB vD ls lc vl vp rl (iI rp) wr bs ab be body da' ex lm out rd y1 y2 y4 y5 y7 (nI p) ∧ ∀ i, i < p → da' i = nI (dgZ R (rp - 1 - i)) := by
  intro n
  induction n with
  | zero =>
    intro j f da h hf hd
    obtain ⟨f, rfl⟩ : ∃ j, f = j + 1 := ⟨f - 1, by omega⟩
    refine ⟨da, ?_, fun i hi => hd i (by omega)⟩
    show f_M_shortest_104b _ _ _ _ _ _ _ _ _ _ _ _ _ _ _ _ _ _ _ _ _ _ _ _ _ _ _ _ _ _ _ = _
    unfold f_M_shortest_104b
    rw [if_pos (nI_le (by omega) (by omega))]
  | succ n ih =>
    intro j f da h hf hd
    obtain ⟨f, rfl⟩ : ∃ j, f = j + 1 := ⟨f - 1, by omega⟩
    have hr := hRt (j : Int) (by omega) (by omega)
    have hlt := dgZ_lt R (rp - 1 - j)
    have := ih (j + 1) f (upd da j (nI (dgZ R (rp - 1 - j)))) (by omega) (by omega) (by
      intro i hi
      unfold upd
      by_cases c : i = j
      · rw [if_pos c, c]
      · rw [if_neg c]
        exact hd i (by omega))
    obtain ⟨da', e, q⟩ := this
    refine ⟨da', ?_, q⟩
    show f_M_shortest_104b _ _ _ _ _ _ _ _ _ _ _ _ _ _ _ _ _ _ _ _ _ _ _ _ _ _ _ _ _ _ _ = _
    unfold f_M_shortest_104b
    rw [if_neg (nI_ge (by omega) (by omega)), show f_M_roundAt rl rd (nI j) = some (nI (dgZ R (rp - 1 - j))) from by rw [iI_nI]; exact hr, bi1_s, ck_s (gin_nI (by omega) (by decide)), bd_s, bd_s, byte_nI (by omega), nI_clamp (by omega), nI_1]
    exact e
theorem tv_digits {R : Nat} {rp : Int} (h : R < 10 ^ (1548 + rp).toNat) : ∀ k : Nat, (k : Int) ≤ 1548 + rp → tv (fun j => dgZ R (rp - 1 - j)) k = R / 10 ^ (1548 + rp - k).toNat := by
  intro k
  induction k with
  | zero =>
    intro hk
    rw [show (1548 + rp - ((0 : Nat) : Int)).toNat = (1548 + rp).toNat from by omega, Nat.div_eq_of_lt h]
    rfl
  | succ k ih =>
    intro hk
    show 10 * tv (fun j => dgZ R (rp - 1 - j)) k + dgZ R (rp - 1 - k) = _
    rw [ih (by omega)]
    obtain ⟨e, he⟩ : ∃ e : Nat, e = (1548 + rp - ((k + 1 : Nat) : Int)).toNat := ⟨_, rfl⟩
    rw [← he, show (1548 + rp - (k : Int)).toNat = e + 1 from by omega]
    unfold dgZ
    rw [if_neg (by omega), show (rp - 1 - (k : Int) + 1548).toNat = e from by omega, Nat.pow_succ, ← Nat.div_div_eq_div_mul]
    unfold dg
    omega
theorem val_R {R : Nat} {rp : Int} (h : R < 10 ^ (1548 + rp).toNat) {p : Nat} (hp : p ≤ 1200) (hp2 : (p : Int) ≤ 1548 + rp) (hd : 10 ^ (1548 + rp - p).toNat ∣ R) : val10 (tv (fun j => dgZ R (rp - 1 - j)) p) (rp - p) = near R (PB 172) := by
  have e1 := tv_digits h p hp2
  have hlt := tv_lt (fun j => dgZ R (rp - 1 - (j : Int))) p (fun j _ => dgZ_lt _ _)
  obtain ⟨e2, -⟩ := near_Vat (Q := rp - p) hlt hp
  rw [← e2]
  congr 1
  rw [Vat_pos (by omega), e1, show (rp - (p : Int) + 1548).toNat = (1548 + rp - p).toNat from by omega]
  exact Nat.div_mul_cancel hd
theorem set_back {m : Nat} {E : Int} (h : Rl m E) (neg : Bool) (k0 : Int32) (n0 : Int64) (x0 : Int32) : f_M_set k0 n0 x0 2 (jJ (if neg then -(m : Int) else m)) (iI E) = some (2, 2, jJ (if neg then -(m : Int) else m), iI E) := by
  have hm := h.1
  have hEr := Rl_E h
  have hid := rnd_id h
  unfold rnd at hid
  rw [if_pos (by
    have : bl m ≤ 53 := bl_le_iff.mpr hm
    unfold rd
    rcases h.2 with w | w
    · omega
    · rw [w.1, w.2, bl_0]; decide)] at hid
  have := set_real k0 n0 x0 (q := m) (by omega) (E := E) (by omega) (by omega) neg (by
    rcases h.2 with w | w
    · left; omega
    · right; exact w.1)
  rw [hid, mres_sg] at this
  exact this
theorem jJ_sg {a b : Nat} (ha : a < 9007199254740992) (hb : b < 9007199254740992) (neg : Bool) : (jJ (if neg then -(a : Int) else a) = jJ (if neg then -(b : Int) else b)) = (a = b) := by
  rw [jJ_eq (by split <;> omega) (by split <;> omega) (by split <;> omega) (by split <;> omega)]
  cases neg
  · rw [if_neg (by decide), if_neg (by decide)]
    exact propext ⟨fun h => by omega, fun h => by omega⟩
  · rw [if_pos rfl, if_pos rfl]
    exact propext ⟨fun h => by omega, fun h => by omega⟩
/-- what was read again is the number, or it is not: both see it alike -/
theorem same_both {m : Nat} {E : Int} (h : Rl m E) (neg : Bool) {r : Int64 × Int32 × Int32} (hr : (r = (0, 0, 1)) ∨ ∃ (m : Nat) (F : Int), Rl m F ∧ r = (lN m, iI F, 0) ∧ F ≤ 400100) :
    ((mres neg r).1 = 2 ∧ (mres neg r).2.1 = jJ (if neg then -(m : Int) else m) ∧ (mres neg r).2.2 = iI E) ↔ r = (lN m, iI E, 0) := by
  constructor
  · intro ⟨w1, w2, w3⟩
    rcases hr with z | ⟨m', F, hR, z, -⟩
    · rw [z] at w1
      exfalso
      unfold mres at w1
      dsimp only at w1
      rw [if_pos rfl] at w1
      cases neg
      · exact absurd w1 (by decide)
      · exact absurd w1 (by decide)
    · rw [z, mres_sg] at w2 w3
      dsimp only at w2 w3
      rw [jJ_sg hR.1 h.1] at w2
      rw [z, w2, w3]
  · intro z
    rw [z, mres_sg]
    exact ⟨rfl, rfl, rfl⟩
theorem m73step {m : Nat} {E : Int} (h : Rl m E) (hm0 : m ≠ 0) (neg : Bool) {tv : Int} (htv : Tp (Vv m E) tv) {q : Nat} (hq : q ≤ 16) (vA vB vD ls lc vl vp rl rpv wr bs : Int32) (ab be body da ex lm out rd : Nat → Int32) (y1 : Int32) (y2 : Int64) (y4 : Int32) (f : Nat) :
    ∃ (z vA' vB' vD' ls' lc' vl' vp' rl' rpv' : Int32) (ab' be' da' ex' lm' rd' : Nat → Int32), (Sm m E tv q → z = nI (q + 1)) ∧ (¬ Sm m E tv q → z = 0) ∧
    f_M_shortest_73 (f + 1) 2 (jJ (if neg then -(m : Int) else m)) (iI E) vA vB vD ls lc vl vp rl rpv wr bs ab be body da ex lm out rd y1 y2 y4 (jJ (if neg then -(m : Int) else m)) (iI E) 0 (nI (q + 1)) = f_M_shortest_73 f 2 (jJ (if neg then -(m : Int) else m)) (iI E) vA' vB' vD' ls' lc' vl' vp' rl' rpv' wr bs ab' be' body da' ex' lm' out rd' y1 y2 y4 (jJ (if neg then -(m : Int) else m)) (iI E) z (nI (q + 2)) := by
  have hV0 := Vv_ne h hm0
  have hr := Vv_top h htv
  obtain ⟨c1, L1, pt, ex1, lm1, e1, hX, hpt1, hpt2⟩ := mexp h neg lc vl vp ex lm
  have htv2 := Tp_uniq htv (Xp_top hX hpt1 hpt2 hV0)
  obtain ⟨rl1, rp, rd1, e2, hRt, g1, g2, g3, g4⟩ := roundTo_V hX (n := ((q + 1 : Nat) : Int)) (by omega) (by omega) (Er := (tv - q + 1548).toNat) (by omega) rl rpv rd
  have g2 := g2 (Or.inl (by omega)) hV0
  obtain ⟨Er, hEr⟩ : ∃ Er : Nat, Er = (tv - q + 1548).toNat := ⟨_, rfl⟩
  have hSm : Sm m E tv q = (near (rdE (Vv m E) (tv - q + 1548).toNat) (PB 172) = (lN m, iI E, 0)) := rfl
  rw [hSm, ← hEr]
  rw [← hEr] at hRt g1 g2
  have hdE : 10 ^ Er ∣ rdE (Vv m E) Er := by
    rw [rdE_div]
    exact Nat.dvd_mul_left _ _
  have hd : 10 ^ (1548 + rp - (q + 1 : Nat)).toNat ∣ rdE (Vv m E) Er := by
    by_cases c : rp = pt
    · rw [show (1548 + rp - (q + 1 : Nat)).toNat = Er from by omega]
      exact hdE
    · have hrp : rp = pt + 1 := by omega
      have hlt := Xp_lt hX
      have hEq : rdE (Vv m E) Er = 10 ^ (1547 + rp).toNat := by
        apply Nat.le_antisymm _ g2
        rw [rdE_div]
        have hk : 10 ^ (1547 + rp).toNat = 10 ^ ((1547 + rp).toNat - Er) * 10 ^ Er := by rw [← Nat.pow_add, show (1547 + rp).toNat - Er + Er = (1547 + rp).toNat from by omega]
        rw [hk]
        apply Nat.mul_le_mul_right
        have : Vv m E / 10 ^ Er < 10 ^ ((1547 + rp).toNat - Er) := by
          rw [Nat.div_lt_iff_lt_mul (ten_pos Er), ← hk, show (1547 + rp).toNat = (1548 + pt).toNat from by omega]
          exact hlt
        split <;> omega
      rw [hEq]
      exact Nat.pow_dvd_pow 10 (by omega)
  have hval := val_R g1 (p := q + 1) (by omega) (by omega) hd
  have hrok := near_ok (rdE (Vv m E) Er) (PB_pos 172)
  obtain ⟨da1, e3, hda⟩ := m104 (k73 := f_M_shortest_73 f) hRt (p := q + 1) (by omega) 2 (jJ (if neg then -(m : Int) else m)) (iI E) vA vB (nI (q + 1)) ls c1 (nI L1) (iI pt) wr bs ab be body ex1 lm1 out y1 y2 y4 (jJ (if neg then -(m : Int) else m)) (iI E) (q + 1) 0 fu da (by omega) (by unfold fu; omega) (fun i hi => absurd hi (by omega))
  obtain ⟨v5, v6, a7, a8, e4⟩ := model10 2 (jJ (if neg then -(m : Int) else m)) (iI E) vA vB neg ab be da1 (fun j => dgZ (rdE (Vv m E) Er) (rp - 1 - j)) (D := q + 1) (by omega) (fun j hj => ⟨hda j hj, dgZ_lt _ _⟩) (p := rp - (q + 1 : Nat)) (by omega) (by omega)
  rw [hval] at e4
  have hboth := same_both h neg hrok
  generalize near (rdE (Vv m E) Er) (PB 172) = r at e4 hrok hboth ⊢
  have hset : ∀ k n x, f_M_set k n x 2 (jJ (if neg then -(m : Int) else m)) (iI E) = some (2, 2, jJ (if neg then -(m : Int) else m), iI E) := set_back h neg
  have e131 : f_M_shortest_131 (f_M_shortest_73 f) 2 (jJ (if neg then -(m : Int) else m)) (iI E) vA vB (nI (q + 1)) ls c1 (nI L1) (iI pt) rl1 (iI rp) wr bs ab be body da1 ex1 lm1 out rd1 y1 y2 y4 (jJ (if neg then -(m : Int) else m)) (iI E) (nI (q + 1)) = f_M_shortest_144 (f_M_shortest_73 f) 2 (jJ (if neg then -(m : Int) else m)) (iI E) vA vB (nI (q + 1)) ls c1 (nI L1) (iI pt) rl1 (iI rp) wr bs ab be body da1 ex1 lm1 out rd1 y1 y2 y4 (jJ (if neg then -(m : Int) else m)) (iI E) (nI (q + 1)) (bz neg) := by
    unfold f_M_shortest_131
    rw [ite_c (neg_eq h.1 (fun _ => hm0))]
    cases neg
    · rw [if_pos rfl]; rfl
    · rw [if_neg (by decide)]; rfl
  have e73 : f_M_shortest_73 (f + 1) 2 (jJ (if neg then -(m : Int) else m)) (iI E) vA vB vD ls lc vl vp rl rpv wr bs ab be body da ex lm out rd y1 y2 y4 (jJ (if neg then -(m : Int) else m)) (iI E) 0 (nI (q + 1)) = f_M_shortest_144 (f_M_shortest_73 f) 2 (jJ (if neg then -(m : Int) else m)) (iI E) vA vB (nI (q + 1)) ls c1 (nI L1) (iI pt) rl1 (iI rp) wr bs ab be body da1 ex1 lm1 out rd1 y1 y2 y4 (jJ (if neg then -(m : Int) else m)) (iI E) (nI (q + 1)) (bz neg) := by
    show f_M_shortest_73b _ _ _ _ _ _ _ _ _ _ _ _ _ _ _ _ _ _ _ _ _ _ _ _ _ _ _ _ _ _ = _
    unfold f_M_shortest_73b
    rw [if_neg (show ¬ (18 : Int32) ≤ nI (q + 1) from nI_ge (b := 18) (by omega) (by decide)), if_pos rfl, e1, bi5_s, show f_M_roundTo (nI L1) (iI pt) rl rpv ex1 rd (nI (q + 1)) = some (rl1, iI rp, rd1) from by rw [iI_nI (q + 1)]; exact e2, bi3_s]
    exact e3.trans e131
  have hck : ckZ (bz neg) := by
    cases neg
    · exact Or.inl rfl
    · exact Or.inr rfl
  have e10 : f_M_readTen 2 (jJ (if neg then -(m : Int) else m)) (iI E) vA vB (nI (q + 1)) (bz neg) ab be da1 (iI rp - nI (q + 1)) = some ((mres neg r).1, (mres neg r).1, (mres neg r).2.1, (mres neg r).2.2, v5, v6, a7, a8) := by
    rw [iI_nI (q + 1), iI_sub]
    exact e4
  have nx : nI (q + 1) + (1 : Int32) = nI (q + 2) := nI_1 (q + 1)
  by_cases c : r = (lN m, iI E, 0)
  · obtain ⟨w1, w2, w3⟩ := hboth.mpr c
    refine ⟨nI (q + 1), v5, v6, nI (q + 1), bz neg, c1, nI L1, iI pt, rl1, iI rp, a7, a8, da1, ex1, lm1, rd1, fun _ => rfl, fun w => absurd c w, ?_⟩
    rw [e73]
    unfold f_M_shortest_144 f_M_shortest_192
    rw [ck_s hck, e10, bi8_s, if_pos w1, if_pos w2, if_pos w3, hset, bi4_s, bd_s, nx]
  · have hn : ¬ ((mres neg r).1 = 2 ∧ (mres neg r).2.1 = jJ (if neg then -(m : Int) else m) ∧ (mres neg r).2.2 = iI E) := fun w => c (hboth.mp w)
    refine ⟨0, v5, v6, nI (q + 1), bz neg, c1, nI L1, iI pt, rl1, iI rp, a7, a8, da1, ex1, lm1, rd1, fun w => absurd w c, fun _ => rfl, ?_⟩
    rw [e73]
    unfold f_M_shortest_144 f_M_shortest_191 f_M_shortest_192
    rw [ck_s hck, e10, bi8_s]
    by_cases w1 : (mres neg r).1 = 2
    · rw [if_pos w1]
      by_cases w2 : (mres neg r).2.1 = jJ (if neg then -(m : Int) else m)
      · rw [if_pos w2, if_neg (fun w3 => hn ⟨w1, w2, w3⟩), hset, bi4_s, bd_s, nx]
      · rw [if_neg w2, hset, bi4_s, bd_s, nx]
    · rw [if_neg w1, hset, bi4_s, bd_s, nx]
theorem m73loop {m : Nat} {E : Int} (h : Rl m E) (hm0 : m ≠ 0) (neg : Bool) {tv : Int} (htv : Tp (Vv m E) tv) {q : Nat} (hq : q ≤ 16) (hno : ∀ j, j < q → ¬ Sm m E tv j) (hyes : Sm m E tv q) (wr bs : Int32) (body out : Nat → Int32) (y1 : Int32) (y2 : Int64) (y4 : Int32) : ∀ (n i f : Nat) (vA vB vD ls lc vl vp rl rpv : Int32) (ab be da ex lm rd : Nat → Int32), i + n = q → n + 1 < f →
    ∃ (vA' vB' vD' ls' lc' vl' vp' rl' rpv' : Int32) (ab' be' da' ex' lm' rd' : Nat → Int32),
    f_M_shortest_73 f 2 (jJ (if neg then -(m : Int) else m)) (iI E) vA vB vD ls lc vl vp rl rpv wr bs ab be body da ex lm out rd y1 y2 y4 (jJ (if neg then -(m : Int) else m)) (iI E) 0 (nI (i + 1)) = f_M_shortest_210 2 (jJ (if neg then -(m : Int) else m)) (iI E) vA' vB' vD' ls' lc' vl' vp' rl' rpv' wr bs ab' be' body da' ex' lm' out rd' y1 y2 y4 (nI (q + 1)) := by
  intro n
  induction n with
  | zero =>
    intro i f vA vB vD ls lc vl vp rl rpv ab be da ex lm rd hi hf
    obtain ⟨f, rfl⟩ : ∃ j, f = j + 1 + 1 := ⟨f - 2, by omega⟩
    have hi : i = q := by omega
    subst hi
    obtain ⟨z, vA', vB', vD', ls', lc', vl', vp', rl', rpv', ab', be', da', ex', lm', rd', z1, -, e⟩ := m73step h hm0 neg htv (q := i) hq vA vB vD ls lc vl vp rl rpv wr bs ab be body da ex lm out rd y1 y2 y4 (f + 1)
    refine ⟨vA', vB', vD', ls', lc', vl', vp', rl', rpv', ab', be', da', ex', lm', rd', ?_⟩
    rw [e, z1 hyes]
    show f_M_shortest_73b _ _ _ _ _ _ _ _ _ _ _ _ _ _ _ _ _ _ _ _ _ _ _ _ _ _ _ _ _ _ = _
    unfold f_M_shortest_73b
    rw [if_neg (show ¬ nI (i + 1) = 0 from by rw [nI_eq0 (by omega)]; omega)]
    split
    · rfl
    · rfl
  | succ n ih =>
    intro i f vA vB vD ls lc vl vp rl rpv ab be da ex lm rd hi hf
    obtain ⟨f, rfl⟩ : ∃ j, f = j + 1 := ⟨f - 1, by omega⟩
    obtain ⟨z, vA', vB', vD', ls', lc', vl', vp', rl', rpv', ab', be', da', ex', lm', rd', -, z2, e⟩ := m73step h hm0 neg htv (q := i) (by omega) vA vB vD ls lc vl vp rl rpv wr bs ab be body da ex lm out rd y1 y2 y4 f
    rw [e, z2 (hno i (by omega))]
    exact ih (i + 1) f vA' vB' vD' ls' lc' vl' vp' rl' rpv' ab' be' da' ex' lm' rd' (by omega) (by omega)
/-- 17 digits are enough -/
theorem Sm_16 {m : Nat} {E : Int} (h : Rl m E) (hm0 : m ≠ 0) {tv : Int} (htv : Tp (Vv m E) tv) : Sm m E tv 16 := by
  have hr := Vv_top h htv
  rcases htv with ⟨z, -⟩ | ⟨-, w1, w2, w3, w4⟩
  · exact absurd z (Vv_ne h hm0)
  · apply near_17 h hm0
    rw [show (tv - ((16 : Nat) : Int) + 1548).toNat + 16 = (tv + 1548).toNat from by omega]
    exact w3
theorem m44 {m : Nat} {E : Int} (h : Rl m E) (neg : Bool) {tv : Int} (htv : Tp (Vv m E) tv) {q : Nat} (hq : q ≤ 16) (hno : ∀ j, j < q → ¬ Sm m E tv j) (hyes : q = 16 ∨ Sm m E tv q) (hz : m = 0 → q = 0) (vA vB vD ls lc vl vp rl rpv wr bs : Int32) (ab be body da ex lm out rd : Nat → Int32) (y1 : Int32) (y2 : Int64) (y4 : Int32) :
    ∃ (vA' vB' vD' ls' lc' vl' vp' rl' rpv' : Int32) (ab' be' da' ex' lm' rd' : Nat → Int32),
    f_M_shortest_44 2 (jJ (if neg then -(m : Int) else m)) (iI E) vA vB vD ls lc vl vp rl rpv wr bs ab be body da ex lm out rd y1 y2 y4 = f_M_shortest_210 2 (jJ (if neg then -(m : Int) else m)) (iI E) vA' vB' vD' ls' lc' vl' vp' rl' rpv' wr bs ab' be' body da' ex' lm' out rd' y1 y2 y4 (nI (q + 1)) := by
  have hm := h.1
  unfold f_M_shortest_44 f_M_shortest_68
  by_cases c : m = 0
  · have h0 : jJ (if neg then -(m : Int) else m) = 0 := by
      rw [c]
      cases neg <;> rfl
    refine ⟨vA, vB, vD, ls, lc, vl, vp, rl, rpv, ab, be, da, ex, lm, rd, ?_⟩
    rw [if_pos h0, hz c]
    show f_M_shortest_73b (f_M_shortest_73 1048575) _ _ _ _ _ _ _ _ _ _ _ _ _ _ _ _ _ _ _ _ _ _ _ _ _ _ _ _ _ = _
    unfold f_M_shortest_73b
    rw [if_neg (by decide), if_neg (by decide)]
    rfl
  · have h0 : ¬ jJ (if neg then -(m : Int) else m) = 0 := by
      rw [show (0 : Int64) = jJ (if neg then -((0 : Nat) : Int) else ((0 : Nat) : Int)) from by cases neg <;> rfl, jJ_sg hm (by decide)]
      exact c
    have hs : Sm m E tv q := by
      rcases hyes with z | z
      · rw [z]; exact Sm_16 h c htv
      · exact z
    rw [if_neg h0]
    exact m73loop h c neg htv hq hno hs wr bs body out y1 y2 y4 q 0 fu vA vB vD ls lc vl vp rl rpv ab be da ex lm rd (by omega) (by unfold fu; omega)

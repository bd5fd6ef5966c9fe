/-! THE LAW: every call, on both sides alike -/
theorem chr_nI (v : Int32) : ∃ lc : Nat, lc < 65536 ∧ i2ch v = nI lc := by
  refine ⟨v.toUInt32.toNat % 65536, Nat.mod_lt _ (by decide), ?_⟩
  unfold i2ch
  apply Int32.toBitVec_inj.mp
  apply BitVec.eq_of_toNat_eq
  show (v.toUInt32 % 65536).toNat = (BitVec.ofNat 32 (v.toUInt32.toNat % 65536)).toNat
  rw [BitVec.toNat_ofNat, UInt32.toNat_mod]
  have := Nat.mod_lt v.toUInt32.toNat (show 65536 > 0 by decide)
  rw [Nat.mod_eq_of_lt (b := 2 ^ 32) (by omega)]
  rfl
theorem three5 {p : Int32} (h1 : ¬ p < 3) (h2 : p ≤ 5) : p = 3 ∨ p = 4 ∨ p = 5 := by
  rw [Int32.lt_iff_toInt_lt] at h1
  rw [Int32.le_iff_toInt_le] at h2
  have e3 : (3 : Int32).toInt = 3 := by decide
  have e5 : (5 : Int32).toInt = 5 := by decide
  have e4 : (4 : Int32).toInt = 4 := by decide
  rw [e3] at h1
  rw [e5] at h2
  have : p.toInt = 3 ∨ p.toInt = 4 ∨ p.toInt = 5 := by omega
  rcases this with q | q | q
  · exact Or.inl (Int32.toInt_inj.mp (by rw [q, e3]))
  · exact Or.inr (Or.inl (Int32.toInt_inj.mp (by rw [q, e4])))
  · exact Or.inr (Or.inr (Int32.toInt_inj.mp (by rw [q, e5])))
theorem Wr_of {l : List Nat} (hB : By l) (hl : l.length ≤ 420) {pl wr : Int32} {prow out : Nat → Int32} (h1 : Pt pl prow l) (h2 : Pt wr out l) : Wr l.length prow out :=
  ⟨hl, fun i hi => ⟨l.getD i 0, hB i hi, h1.2 i hi, h2.2 i hi⟩⟩
theorem exp_same {K : Int32} {N : Int64} {E : Int32} (h : Vl K N E) : f_M_exponent K E = some E := by
  unfold f_M_exponent
  by_cases c : K = 2
  · rw [if_pos c]
  · rw [if_neg c]
    rcases h with ⟨-, h⟩ | ⟨m, Ei, ng, -, h, -, -⟩ | ⟨-, -, h⟩
    · rw [h]
    · exact absurd h c
    · rw [h]
theorem law_loop (L : Nat) (xs : Nat → Int32) (hL : L ≤ 2560) : ∀ (n : Nat) {i f n0 F Ll W F2 L2 W2 : Nat} {l : List Nat} {K : Int32} {N : Int64} {E : Int32} {ag : Int64} {af ai x1 x2 x3 x4 x5 x6 x7 x8 x9 x10 : Int32} {fd : Int64} {pl : Int32} {sf : Int64} {sp si vc vle vfl vwi vpr : Int32} {er prow rr ac dgs : Nat → Int32} {vA vB st vD bh pw pls ls pd sx lc vl vp rl rpv wr bs : Int32} {ab be body da ex lm out rd am : Nat → Int32}, i < 1000000 → L ≤ i + 5 * n + 4 → n < f → n0 ≤ 1200 → (∀ j, j < n0 → ac j = am j) → Vl K N E → By l → l.length ≤ 420 → Pt pl prow l → Pt wr out l → Rw er W → Tr F Ll W → Rw rr W2 → Tr F2 L2 W2 →
    f_L_law_18 L xs f K N E ag af ai (nI F) (nI Ll) x1 x2 x3 x4 x5 x6 x7 x8 x9 x10 fd pl (nI F2) (nI L2) sf sp si (nI n0) vc vle vfl vwi vpr er prow rr ac dgs (nI n0) K N E vA vB st vD bh pw pls ls pd sx lc vl vp rl rpv wr bs ab be body da ex lm out rd am (nI i) = some 1 := by
  intro n
  induction n with
  | zero =>
    intro i f n0 F Ll W F2 L2 W2 l K N E ag af ai x1 x2 x3 x4 x5 x6 x7 x8 x9 x10 fd pl sf sp si vc vle vfl vwi vpr er prow rr ac dgs vA vB st vD bh pw pls ls pd sx lc vl vp rl rpv wr bs ab be body da ex lm out rd am hi hn hf hn0 hta hV hB hl hPc hPm hR hT hR2 hT2
    obtain ⟨f, rfl⟩ : ∃ j, f = j + 1 := ⟨f - 1, by omega⟩
    show f_L_law_18b _ _ _ _ _ _ _ _ _ _ _ _ _ _ _ _ _ _ _ _ _ _ _ _ _ _ _ _ _ _ _ _ _ _ _ _ _ _ _ _ _ _ _ _ _ _ _ _ _ _ _ _ _ _ _ _ _ _ _ _ _ _ _ _ _ _ _ _ _ _ = _
    unfold f_L_law_18b
    rw [if_pos (by rw [show Int32.ofNat L - (5 : Int32) = iI ((L : Int) - 5) from by rw [show Int32.ofNat L = nI L from rfl, iI_nI, show (5 : Int32) = iI 5 from rfl, iI_sub], iI_nI, iI_lt (by omega) (by omega) (by omega) (by omega)]; omega)]
  | succ n ih =>
    intro i f n0 F Ll W F2 L2 W2 l K N E ag af ai x1 x2 x3 x4 x5 x6 x7 x8 x9 x10 fd pl sf sp si vc vle vfl vwi vpr er prow rr ac dgs vA vB st vD bh pw pls ls pd sx lc vl vp rl rpv wr bs ab be body da ex lm out rd am hi hn hf hn0 hta hV hB hl hPc hPm hR hT hR2 hT2
    obtain ⟨f, rfl⟩ : ∃ j, f = j + 1 := ⟨f - 1, by omega⟩
    show f_L_law_18b _ _ _ _ _ _ _ _ _ _ _ _ _ _ _ _ _ _ _ _ _ _ _ _ _ _ _ _ _ _ _ _ _ _ _ _ _ _ _ _ _ _ _ _ _ _ _ _ _ _ _ _ _ _ _ _ _ _ _ _ _ _ _ _ _ _ _ _ _ _ = _
    unfold f_L_law_18b
    rw [ite_c (show (Int32.ofNat L - (5 : Int32) < nI i) = ((L : Int) - 5 < i) from by rw [show Int32.ofNat L - (5 : Int32) = iI ((L : Int) - 5) from by rw [show Int32.ofNat L = nI L from rfl, iI_nI, show (5 : Int32) = iI 5 from rfl, iI_sub], iI_nI, iI_lt (by omega) (by omega) (by omega) (by omega)])]
    by_cases cend : (L : Int) - 5 < i
    · rw [if_pos cend]
    rw [if_neg cend, ck_s (gin_nI (by omega) (by omega)), bd_s]
    have nx : nI i + (5 : Int32) = nI (i + 5) := nI_add i 5
    have g1 : gin (nI i + (1 : Int32)) L := by rw [show nI i + (1 : Int32) = nI (i + 1) from nI_add i 1]; exact gin_nI (by omega) (by omega)
    have g2 : gin (nI i + (2 : Int32)) L := by rw [show nI i + (2 : Int32) = nI (i + 2) from nI_add i 2]; exact gin_nI (by omega) (by omega)
    have g3 : gin (nI i + (3 : Int32)) L := by rw [show nI i + (3 : Int32) = nI (i + 3) from nI_add i 3]; exact gin_nI (by omega) (by omega)
    have g4 : gin (nI i + (4 : Int32)) L := by rw [show nI i + (4 : Int32) = nI (i + 4) from nI_add i 4]; exact gin_nI (by omega) (by omega)
    generalize xs (nI i).toNatClampNeg &&& (15 : Int32) = x4v
    generalize xs (nI i + (1 : Int32)).toNatClampNeg = p1
    generalize xs (nI i + (2 : Int32)).toNatClampNeg = p2
    generalize xs (nI i + (3 : Int32)).toNatClampNeg = p3
    generalize xs (nI i + (4 : Int32)).toNatClampNeg = p4
    generalize lsl p1.toInt64 (32 : Int32) ||| (p2.toInt64 &&& (4294967295 : Int64)) = pL
    by_cases c0 : x4v = (0 : Int32)
    · rw [if_pos c0]
      obtain ⟨r, n', ac', am', e1, e2, q1, q2⟩ := type_same hn0 hta pL p3
      rw [ck_s g1, ck_s g2, ck_s g3, e1, bi3_s, ck_s g1, ck_s g2, ck_s g3, e2, bi3_s, if_pos rfl]
      unfold f_L_law_453
      rw [bd_s, nx]
      exact ih (by omega) (by omega) (by omega) q1 q2 hV hB hl hPc hPm hR hT hR2 hT2
    rw [if_neg c0]
    by_cases c1 : x4v = (1 : Int32)
    · rw [if_pos c1]
      obtain ⟨r, K', N', E', y1, y2, y3, y4, y5, y6, y7, y8, y9, y10, fd', F', L', V', sf', sp', si', room', v5, v6, w1, w2, w3, w4, w5, w6, w7, w8, a7, a8, da', q1, q2, q3, e1, e2⟩ := read_same hn0 ac am (fun j hj => by unfold bt8; rw [hta j hj]) K N E hV x1 x2 x3 x4 x5 x6 x7 x8 x9 x10 fd hR2 hT2 sf sp si vA vB st vD bh pw pls ls pd sx ab be da
      rw [e1, bi22_s, e2, bi18_s, if_pos rfl, show (0 : Int32) = nI 0 from rfl]
      unfold f_L_law_453
      rw [bd_s, nx]
      exact ih (by omega) (by omega) (by omega) (Nat.zero_le _) (fun j hj => absurd hj (by omega)) q1 hB hl hPc hPm hR hT q2 q3
    rw [if_neg c1]
    by_cases c2 : x4v = (2 : Int32)
    · rw [if_pos c2]
      obtain ⟨e1, e2⟩ := whole_same K N E K N E pL
      rw [ck_s g1, ck_s g2, e1, bi3_s, ck_s g1, ck_s g2, e2, bi3_s]
      unfold f_L_law_453
      rw [bd_s, nx]
      exact ih (by omega) (by omega) (by omega) hn0 hta (Or.inl ⟨rfl, rfl⟩) hB hl hPc hPm hR hT hR2 hT2
    rw [if_neg c2]
    by_cases c3 : x4v = (3 : Int32)
    · rw [if_pos c3]
      obtain ⟨r, k', n', e', sf', sp', si', e1, e2, q1⟩ := real_same K N E hV sf sp si pL p3
      rw [ck_s g1, ck_s g2, ck_s g3, e1, bi7_s, ck_s g1, ck_s g2, ck_s g3, e2, bi4_s, if_pos rfl]
      unfold f_L_law_453
      rw [bd_s, nx]
      exact ih (by omega) (by omega) (by omega) hn0 hta q1 hB hl hPc hPm hR hT hR2 hT2
    rw [if_neg c3]
    by_cases c4 : x4v = (4 : Int32)
    · rw [if_pos c4]
      obtain ⟨r, k', n', e', e1, e2, q1⟩ := special_same K N E p1
      have q2 : Vl k' n' e' := by
        rcases q1 with ⟨w1, w2, w3⟩ | ⟨w1, w2, w3, w4, w5⟩
        · rw [w1, w2, w3]; exact hV
        · exact Or.inr (Or.inr ⟨by rw [w1]; exact three5 w2 w3, w4, w5⟩)
      rw [ck_s g1, e1, bi4_s, ck_s g1, e2, bi4_s, if_pos rfl]
      unfold f_L_law_453
      rw [bd_s, nx]
      exact ih (by omega) (by omega) (by omega) hn0 hta q2 hB hl hPc hPm hR hT hR2 hT2
    rw [if_neg c4]
    by_cases c5 : x4v = (5 : Int32)
    · rw [if_pos c5]
      rw [show f_N_kind K = some K from rfl, bi1_s, show f_M_kind K = some K from rfl, bi1_s, if_pos rfl]
      unfold f_L_law_453
      rw [bd_s, nx]
      exact ih (by omega) (by omega) (by omega) hn0 hta hV hB hl hPc hPm hR hT hR2 hT2
    rw [if_neg c5]
    by_cases c6 : x4v = (6 : Int32)
    · rw [if_pos c6]
      rw [show f_N_number N = some N from rfl, bi1_s, show f_M_number N = some N from rfl, bi1_s, if_pos rfl]
      unfold f_L_law_453
      rw [bd_s, nx]
      exact ih (by omega) (by omega) (by omega) hn0 hta hV hB hl hPc hPm hR hT hR2 hT2
    rw [if_neg c6]
    by_cases c7 : x4v = (7 : Int32)
    · rw [if_pos c7]
      rw [show f_N_exponent E = some E from rfl, bi1_s, exp_same hV, bi1_s, if_pos rfl]
      unfold f_L_law_453
      rw [bd_s, nx]
      exact ih (by omega) (by omega) (by omega) hn0 hta hV hB hl hPc hPm hR hT hR2 hT2
    rw [if_neg c7]
    by_cases c8 : x4v = (8 : Int32)
    · rw [if_pos c8]
      obtain ⟨r, l', F', L', W', pl', sf', sp', si', vc', vle', vfl', vwi', vpr', er', prow', dgs', lcn', vl', vp', vrl', vrp', wr', bs', body', ex', lm', out', rd', q1, q2, q3, q4, q5, q6, e1, e2⟩ := plain_same hV hR hT pl prow sf sp si vc vle vfl vwi vpr dgs wr out lc vl vp rl rpv bs body ex lm rd
      rw [e1, bi15_s, e2, bi16_s, if_pos rfl]
      unfold f_L_law_453
      rw [bd_s, nx]
      exact ih (by omega) (by omega) (by omega) hn0 hta hV q1 q2 q5 q6 q3 q4 hR2 hT2
    rw [if_neg c8]
    by_cases c9 : x4v = (9 : Int32)
    · rw [if_pos c9]
      obtain ⟨lt, hlt, e0⟩ := chr_nI p1
      obtain ⟨r, l', F', L', W', pl', sf', sp', si', vc', vle', vfl', vwi', vpr', er', prow', dgs', lcn', vl', vp', vrl', vrp', wr', bs', body', ex', lm', out', rd', q1, q2, q3, q4, q5, q6, e1, e2⟩ := form_same hV hlt p2 p3 p4 hB hl hR hT hPc sf sp si vc vle vfl vwi vpr dgs hPm lc vl vp rl rpv bs body ex lm rd
      rw [e0, ck_s g1, ck_s g2, ck_s g3, ck_s g4, e1, bi15_s, ck_s g1, ck_s g2, ck_s g3, ck_s g4, e2, bi16_s, if_pos rfl]
      unfold f_L_law_453
      rw [bd_s, nx]
      exact ih (by omega) (by omega) (by omega) hn0 hta hV q1 q2 q5 q6 q3 q4 hR2 hT2
    rw [if_neg c9]
    by_cases c10 : x4v = (10 : Int32)
    · rw [if_pos c10]
      obtain ⟨r, l', ag', af', ai', F', L', W', F3, L3, W3, pl', sf', sp', si', vc', vle', vfl', vwi', vpr', er', prow', rr', dgs', vA', vB', vD', ls', lcn', vl', vp', vrl', vrp', wr', bs', ab', be', body', da', ex', lm', out', rd', q1, q2, q3, q4, q5, q6, q7, q8, e1, e2⟩ := shortest_same hV hB hl hR hT hR2 hT2 hPc ag af ai sf sp si vc vle vfl vwi vpr dgs hPm vA vB vD ls lc vl vp rl rpv bs ab be body da ex lm rd
      rw [e1, bi21_s, e2, bi23_s, if_pos rfl]
      unfold f_L_law_453
      rw [bd_s, nx]
      exact ih (by omega) (by omega) (by omega) hn0 hta hV q1 q2 q7 q8 q3 q4 q5 q6
    rw [if_neg c10]
    by_cases c11 : x4v = (11 : Int32)
    · rw [if_pos c11]
      obtain ⟨r, e1, e2⟩ := written_same (Wr_of hB hl hPc hPm) p1
      rw [← hPc.1] at e1
      rw [← hPm.1] at e2
      rw [ck_s g1, e1, bi1_s, ck_s g1, e2, bi1_s, if_pos rfl]
      unfold f_L_law_453
      rw [bd_s, nx]
      exact ih (by omega) (by omega) (by omega) hn0 hta hV hB hl hPc hPm hR hT hR2 hT2
    rw [if_neg c11]
    unfold f_L_law_453
    rw [bd_s, nx]
    exact ih (by omega) (by omega) (by omega) hn0 hta hV hB hl hPc hPm hR hT hR2 hT2

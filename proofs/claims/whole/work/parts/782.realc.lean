/-! reals written: class -/
theorem csize {m : Nat} {E : Int} (h : Rl m E) (neg : Bool) {lc : Nat} (hlc : Lr lc) {fl w : Nat} (hfl : fl < 32) (hw : w ≤ 99) {P : Int} (hP1 : -1 ≤ P) (hP2 : P ≤ 99) {fr rs : List Nat} (hC : Cn m E lc fl P fr rs) (hfrB : By fr) (hrsB : By rs) (hfl2 : fr.length ≤ 2) (hlen : (fr ++ rs).length ≤ 415) (vc pl : Int32) (dgs prow : Nat → Int32) {F Ll W : Nat} {er : Nat → Int32} (hR : Rw er W) (hT : Tr F Ll W) :
    ∃ (c' : Int32) (dgs' : Nat → Int32) (F' L' W' : Nat) (sz' : Int32) (er' a' : Nat → Int32), f_Writer_writeSize vc (nI lc) (nI fl) (nI w) (iI P) dgs (nI F) (nI Ll) pl er prow (lN m) (iI E) (bz neg) = some (c', dgs', nI F', nI L', sz', er', a') ∧ Rw er' W' ∧ Tr F' L' W' ∧ Pt sz' a' (fin' fl w (decide (fl / 16 % 2 = 1)) (sgl (sgc fl neg)) fr rs) := by
  have hlt := Lr_lt hlc
  have hb : bP P ≤ 99 := by unfold bP; split <;> omega
  obtain ⟨s1, a1, e1, q1⟩ := csign hfl neg prow
  have hsl := sgl_len (sgc fl neg)
  have i97 : (nI (lsm lc) = (97 : Int32)) = (lsm lc = 97) := nI_k 97 rfl (by unfold lsm; split <;> omega) (by decide)
  have i102 : (nI (lsm lc) = (102 : Int32)) = (lsm lc = 102) := nI_k 102 rfl (by unfold lsm; split <;> omega) (by decide)
  have i101 : (nI (lsm lc) = (101 : Int32)) = (lsm lc = 101) := nI_k 101 rfl (by unfold lsm; split <;> omega) (by decide)
  have fin0 : ∀ (c' : Int32) (dgs' : Nat → Int32) (F' L' W' : Nat) (s2 : Int32) (er' a2 : Nat → Int32) (st : Nat), Rw er' W' → Tr F' L' W' → st = (sgl (sgc fl neg) ++ fr).length → Pt s2 a2 (sgl (sgc fl neg) ++ fr ++ rs) →
      ∃ (c'' : Int32) (dgs'' : Nat → Int32) (F9 L9 W9 : Nat) (sz' : Int32) (er'' a' : Nat → Int32), f_Writer_writeSize_186 c' (nI lc) (nI fl) (nI w) (iI P) dgs' (nI F') (nI L') s2 er' a2 (lN m) (iI E) (nI st) = some (c'', dgs'', nI F9, nI L9, sz', er'', a') ∧ Rw er'' W9 ∧ Tr F9 L9 W9 ∧ Pt sz' a' (fin' fl w (decide (fl / 16 % 2 = 1)) (sgl (sgc fl neg)) fr rs) := by
    intro c' dgs' F' L' W' s2 er' a2 st hr1 ht1 hst hq
    obtain ⟨s3, a3, e3, q3⟩ := fill_eq hfl hw (zf := true) (sgl_By (sgc_lt fl neg)) hfrB hrsB (by simp only [List.length_append] at hlen ⊢; omega) hq hst
    rw [Bool.and_true] at q3
    refine ⟨c', dgs', F', L', W', s3, er', a3, ?_, hr1, ht1, q3⟩
    unfold f_Writer_writeSize_186
    rw [show (1 : Int32) = bz true from rfl, e3, bi2_s]
  unfold f_Writer_writeSize
  rw [small_eq hlc, bi1_s, ite_c i97]
  rcases hC with ⟨hs, hf0, t, ht, hrs⟩ | ⟨hs, hf0, tv, t, c, htv, ht, hc, hrs⟩ | ⟨hs, hf0, tv, t, c, htv, ht, hc, hrs⟩ | ⟨hs, hf0, c, hc, hrs⟩
  · -- f
    obtain ⟨ex, L, pt, hX, h1, h2⟩ := Xp_any h
    obtain ⟨F1, L1, er1, x1, r1, t1⟩ := cprod h hR hT.1
    obtain ⟨F2, L2, er2, x2, r2, t2⟩ := cls_round hX h2 r1 t1 (p := -(bP P : Int)) (by omega) (by omega)
    rw [show (-(bP P : Int) + 1548).toNat = 1548 - bP P from by omega] at r2 t2
    have hhi := Tp_hi hX h1 h2 (E := 1548 - bP P) rfl (by omega) ht
    obtain ⟨s3, a3, e3, q3⟩ := cpointform r2 t2 ht hfl (b := bP P) (by omega) hhi q1 (by omega)
    subst hf0
    rw [← hrs] at q3
    rw [if_neg (by omega)]
    unfold f_Writer_writeSize_14 f_Page_clear f_Size_factor f_Size_power
    rw [bi1_s, e1, bi2_s, if_pos rfl, bi1_s, bi1_s, x1, bi3_s]
    unfold f_Writer_writeSize_70 f_Page_length
    rw [bi1_s, por_eq hP1 hP2, bi1_s, if_pos rfl, small_eq hlc, bi1_s, ite_c i102, if_pos hs, show -nI (bP P) = iI (-(bP P : Int)) from by rw [iI_nI, iI_neg], x2, bi3_s, e3, bi2_s, q1.1]
    exact fin0 vc dgs F2 L2 _ s3 er2 a3 (sgl (sgc fl neg)).length r2 t2 (by rw [List.append_nil]) (by rw [List.append_nil]; exact q3)
  · -- e
    obtain ⟨ex, L, pt, hX, h1, h2⟩ := Xp_any h
    have hvr := Vv_top h htv
    have hr := Tp_rng h htv (by omega) ht
    obtain ⟨F1, L1, er1, x1, r1, t1⟩ := cprod h hR hT.1
    obtain ⟨t0, ht0, et⟩ := topPlace_t r1 t1
    have := Tp_uniq htv ht0
    subst this
    obtain ⟨F2, L2, er2, x2, r2, t2⟩ := cls_round hX h2 r1 t1 (p := tv - bP P) (by omega) (by omega)
    obtain ⟨c3, d3, s3, a3, e3, q3⟩ := cpowerform r2 t2 ht (by omega) hc hfl (lc := lc) (by omega) (b := bP P) (by omega) vc dgs q1 (by omega)
    subst hf0
    rw [← hrs] at q3
    rw [if_neg (by omega)]
    unfold f_Writer_writeSize_14 f_Page_clear f_Size_factor f_Size_power
    rw [bi1_s, e1, bi2_s, if_pos rfl, bi1_s, bi1_s, x1, bi3_s]
    unfold f_Writer_writeSize_70 f_Page_length
    rw [bi1_s, por_eq hP1 hP2, bi1_s, if_pos rfl, small_eq hlc, bi1_s, ite_c i102, if_neg (by omega), bi1_s, ite_c i101, if_pos hs, et, bi1_s, show iI tv - nI (bP P) = iI (tv - bP P) from by rw [iI_nI, iI_sub], x2, bi3_s, e3, bi4_s, q1.1]
    exact fin0 c3 d3 F2 L2 _ s3 er2 a3 (sgl (sgc fl neg)).length r2 t2 (by rw [List.append_nil]) (by rw [List.append_nil]; exact q3)
  · -- g
    obtain ⟨ex, L, pt, hX, h1, h2⟩ := Xp_any h
    obtain ⟨F1, L1, er1, x1, r1, t1⟩ := cprod h hR hT.1
    obtain ⟨c3, d3, F3, L3, s3, er3, a3, e3, q3, r3, t3⟩ := cls_g hX h1 h2 r1 t1 htv (q := bP P - 1) (by omega) ht hc hfl (lc := lc) (by omega) vc dgs q1 (by omega)
    subst hf0
    rw [← hrs] at q3
    rw [if_neg (by omega)]
    unfold f_Writer_writeSize_14 f_Page_clear f_Size_factor f_Size_power
    rw [bi1_s, e1, bi2_s, if_pos rfl, bi1_s, bi1_s, x1, bi3_s]
    unfold f_Writer_writeSize_70 f_Page_length f_Writer_writeSize_183
    rw [bi1_s, por_eq hP1 hP2, bi1_s, if_pos rfl, small_eq hlc, bi1_s, ite_c i102, if_neg (by omega), bi1_s, ite_c i101, if_neg (by omega)]
    by_cases z : bP P = 0
    · rw [show bP P - 1 = 0 from by omega] at e3
      rw [if_pos (by rw [z]; decide), show (0 : Int32) = nI 0 from rfl, e3, bi7_s, q1.1]
      exact fin0 c3 d3 F3 L3 _ s3 er3 a3 (sgl (sgc fl neg)).length r3 t3 (by rw [List.append_nil]) (by rw [List.append_nil]; exact q3)
    · rw [if_neg (nI_nle (by omega) (by omega)), show nI (bP P) - (1 : Int32) = nI (bP P - 1) from pk_sub (b := 1) (by omega), e3, bi7_s, q1.1]
      exact fin0 c3 d3 F3 L3 _ s3 er3 a3 (sgl (sgc fl neg)).length r3 t3 (by rw [List.append_nil]) (by rw [List.append_nil]; exact q3)
  · -- a
    have hw16 : ∀ k, k = (if lc < 97 then 6 else 7) → ∃ (c'' : Int32) (dgs'' : Nat → Int32) (F' L' W' : Nat) (sz' : Int32) (er'' a' : Nat → Int32), f_Writer_writeSize_49 vc (nI lc) (nI fl) (nI w) (iI P) dgs (nI F) (nI Ll) s1 er a1 (lN m) (iI E) 1 k = some (c'', dgs'', nI F', nI L', sz', er'', a') ∧ Rw er'' W' ∧ Tr F' L' W' ∧ Pt sz' a' (fin' fl w (decide (fl / 16 % 2 = 1)) (sgl (sgc fl neg)) fr rs) := by
      intro k hk
      have hk9 : k < 9 ∧ 2 ≤ k := by rw [hk]; split <;> decide
      have htx : tx k = fr := by
        rw [hk, hf0]
        by_cases g : lc < 97
        · rw [if_pos g, if_pos (decide_eq_true g)]; rfl
        · rw [if_neg g, if_neg (by simp [g])]; rfl
      obtain ⟨s2, a2, e2, q2⟩ := text_eq hk9.1 hk9.2 q1 (by omega)
      rw [htx] at q2
      obtain ⟨c3, d3, s3, a3, e3, q3⟩ := chex (lc := lc) (by omega) hfl hP1 hP2 h hc vc dgs q2 (by rw [List.length_append]; omega)
      rw [← hrs] at q3
      unfold f_Writer_writeSize_49 f_Writer_writeSize_70 f_Page_length f_Size_factor f_Size_power
      rw [e2, bi2_s, bi1_s, por_eq hP1 hP2, bi1_s, if_neg (by decide), bi1_s, bi1_s, e3, bi4_s, q2.1]
      exact fin0 c3 d3 F Ll W s3 er a3 _ hR hT rfl q3
    rw [if_pos hs]
    unfold f_Writer_writeSize_14 f_Page_clear
    rw [bi1_s, e1, bi2_s, if_neg (by decide), great_eq (by omega), bi1_s, ite_c (bz_f _)]
    by_cases g : lc < 97
    · rw [if_neg (by simp [g])]
      exact hw16 6 (by rw [if_pos g])
    · rw [if_pos (by simp [g])]
      exact hw16 7 (by rw [if_neg g])

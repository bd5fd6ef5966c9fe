/-! shortest -/
theorem least_of {m : Nat} {E : Int} (h : Rl m E) : ∃ (tv : Int) (q : Nat), Tp (Vv m E) tv ∧ q ≤ 16 ∧ (∀ j, j < q → ¬ Sm m E tv j) ∧ (q = 16 ∨ Sm m E tv q) ∧ (m = 0 → q = 0) := by
  have hV := Vv_lt h
  obtain ⟨tv, htv⟩ := Tp_ex (R := Vv m E) (Nat.lt_of_lt_of_le hV (by rw [PB_ten]; exact ten_le (by decide)))
  by_cases c : m = 0
  · refine ⟨tv, 0, htv, by decide, fun j hj => absurd hj (by omega), Or.inr ?_, fun _ => rfl⟩
    have hE : E = 0 := by
      rcases h.2 with w | w
      · omega
      · exact w.2
    subst c hE
    unfold Sm
    rw [show Vv 0 0 = 0 from by unfold Vv; rw [if_pos (by decide), Nat.zero_mul, Nat.zero_mul], rdE_0, near_zero]
    rfl
  · obtain ⟨q, h1, h2, h3⟩ := least_ex (Sm m E tv)
    exact ⟨tv, q, htv, h1, h2, h3, fun w => absurd w c⟩
theorem shortest_same {K : Int32} {N : Int64} {E : Int32} (hV : Vl K N E) {l0 : List Nat} (hB0 : By l0) (hl0 : l0.length ≤ 420) {F Ll W : Nat} {er prow : Nat → Int32} (hR : Rw er W) (hT : Tr F Ll W) {F2 L2 W2 : Nat} {rr : Nat → Int32} (hR2 : Rw rr W2) (hT2 : Tr F2 L2 W2) {pl : Int32} (hPc : Pt pl prow l0) (ag : Int64) (af ai : Int32) (sf : Int64) (sp si vc vle vfl vwi vpr : Int32) (dgs : Nat → Int32) {wr : Int32} {out : Nat → Int32} (hPm : Pt wr out l0) (vA vB vD ls lcn vl vp vrl vrp bs : Int32) (ab be body da ex lm rd : Nat → Int32) :
    ∃ (r : Int32) (l : List Nat) (ag' : Int64) (af' ai' : Int32) (F' L' W' F3 L3 W3 : Nat) (pl' : Int32) (sf' : Int64) (sp' si' vc' vle' vfl' vwi' vpr' : Int32) (er' prow' rr' dgs' : Nat → Int32) (vA' vB' vD' ls' lcn' vl' vp' vrl' vrp' wr' bs' : Int32) (ab' be' body' da' ex' lm' out' rd' : Nat → Int32), By l ∧ l.length ≤ 420 ∧ Rw er' W' ∧ Tr F' L' W' ∧ Rw rr' W3 ∧ Tr F3 L3 W3 ∧ Pt pl' prow' l ∧ Pt wr' out' l ∧
    f_N_shortest K N E ag af ai (nI F) (nI Ll) pl (nI F2) (nI L2) sf sp si vc vle vfl vwi vpr er prow rr dgs = some (r, ag', af', ai', nI F', nI L', pl', nI F3, nI L3, sf', sp', si', vc', vle', vfl', vwi', vpr', er', prow', rr', dgs') ∧
    f_M_shortest K N E vA vB vD ls lcn vl vp vrl vrp wr bs ab be body da ex lm out rd = some (r, K, N, E, vA', vB', vD', ls', lcn', vl', vp', vrl', vrp', wr', bs', ab', be', body', da', ex', lm', out', rd') := by
  have num : ∀ (m : Nat) (Ei : Int) (neg : Bool), Rl m Ei → (neg = true → m ≠ 0) → ((0 : Int64) ≤ N) = (neg = false) → (∀ (sf : Int64) (sp si : Int32), f_N_sizeOfValue N E sf sp si = some (lN m, iI Ei, 0)) → (K = 1 ∨ K = 2) → (K = 1 → f_M_nearestWhole K N E N 0 = some (2, 2, jJ (if neg then -(m : Int) else m), iI Ei)) → (K = 2 → N = jJ (if neg then -(m : Int) else m) ∧ E = iI Ei) →
      ∃ (r : Int32) (l : List Nat) (ag' : Int64) (af' ai' : Int32) (F' L' W' F3 L3 W3 : Nat) (pl' : Int32) (sf' : Int64) (sp' si' vc' vle' vfl' vwi' vpr' : Int32) (er' prow' rr' dgs' : Nat → Int32) (vA' vB' vD' ls' lcn' vl' vp' vrl' vrp' wr' bs' : Int32) (ab' be' body' da' ex' lm' out' rd' : Nat → Int32), By l ∧ l.length ≤ 420 ∧ Rw er' W' ∧ Tr F' L' W' ∧ Rw rr' W3 ∧ Tr F3 L3 W3 ∧ Pt pl' prow' l ∧ Pt wr' out' l ∧
      f_N_shortest K N E ag af ai (nI F) (nI Ll) pl (nI F2) (nI L2) sf sp si vc vle vfl vwi vpr er prow rr dgs = some (r, ag', af', ai', nI F', nI L', pl', nI F3, nI L3, sf', sp', si', vc', vle', vfl', vwi', vpr', er', prow', rr', dgs') ∧
      f_M_shortest K N E vA vB vD ls lcn vl vp vrl vrp wr bs ab be body da ex lm out rd = some (r, K, N, E, vA', vB', vD', ls', lcn', vl', vp', vrl', vrp', wr', bs', ab', be', body', da', ex', lm', out', rd') := by
    intro m Ei neg hRl hneg0 hneg hsize hK hK1 hK2
    obtain ⟨tv, q, htv, hq, hno, hyes, hz⟩ := least_of hRl
    have hlc : Lr 101 := by unfold Lr; decide
    obtain ⟨fr, rs, hC, hfrB, hrsB, hfl2, hlen⟩ := Cn_ex hRl hlc 0 (P := (q : Int)) (by omega) (by omega)
    have hsl := sgl_len (sgc 0 neg)
    obtain ⟨x1, x2, x3, F', L', W', er1, F3, L3, W3, rr1, e1, r1, t1, r2, t2⟩ := cleast hRl htv hq hno hyes hz hR hT hR2 hT2 ag af ai
    obtain ⟨c', dgs', F4, L4, W4, sz', er2, a', e2, r3, t3, q3⟩ := csize hRl neg hlc (fl := 0) (w := 0) (by decide) (by decide) (P := (q : Int)) (by omega) (by omega) hC hfrB hrsB hfl2 hlen vc pl dgs prow r1 t1
    obtain ⟨vA', vB', vD', ls', lc1, vl1, vp1, rl1, rpv1, ab', be', da', ex1, lm1, rd1, e3⟩ := m44 hRl neg htv hq hno hyes hz vA vB vD ls lcn vl vp vrl vrp wr bs ab be body da ex lm out rd K N E
    obtain ⟨lcn', vl', vp', vrl', vrp', s2, bs', body', ex', lm', out', rd', e4, q4⟩ := mreal hRl hneg0 hlc (fl := 0) (w := 0) (by decide) (by decide) (P := (q : Int)) (by omega) (by omega) hC hfrB hrsB hfl2 hlen lc1 vl1 vp1 rl1 rpv1 wr bs body ex1 lm1 out rd1
    have hs : sz' = s2 := by rw [q3.1, q4.1]
    subst hs
    refine ⟨nI (q + 1), fin' 0 0 (decide (0 / 16 % 2 = 1)) (sgl (sgc 0 neg)) fr rs, x1, x2, x3, F4, L4, W4, F3, L3, W3, sz', lN m, iI Ei, 0, c', 101, 0, 0, nI q, er2, a', rr1, dgs', vA', vB', vD', ls', lcn', vl', vp', vrl', vrp', sz', bs', ab', be', body', da', ex', lm', out', rd', fin_By (sgl_By (sgc_lt 0 neg)) hfrB hrsB, fin_420 (by decide) (by simp only [List.length_append] at hlen ⊢; omega), r3, t3, r2, t2, q3, q4, ?_, ?_⟩
    · have e18 : f_N_shortest_18 K N E ag af ai (nI F) (nI Ll) pl (nI F2) (nI L2) sf sp si vc vle vfl vwi vpr er prow rr dgs = some (nI (q + 1), x1, x2, x3, nI F4, nI L4, sz', nI F3, nI L3, lN m, iI Ei, 0, c', 101, 0, 0, nI q, er2, a', rr1, dgs') := by
        have e2' : f_Writer_writeSize vc 101 0 0 (nI q) dgs (nI F') (nI L') pl er1 prow (lN m) (iI Ei) (bz neg) = some (c', dgs', nI F4, nI L4, sz', er2, a') := by
          rw [iI_nI q]
          exact e2
        unfold f_N_shortest_18 f_N_shortest_57 f_Writer_begin
        rw [hsize sf sp si, bi3_s, e1, bi10_s, ck_s (show ckC (101 : Int32) from ckC_nI (lc := 101) (by decide)), bi4_s, ite_c hneg]
        cases neg
        · rw [if_pos rfl, show f_Writer_writeSize vc 101 0 0 (nI q) dgs (nI F') (nI L') pl er1 prow (lN m) (iI Ei) 0 = some (c', dgs', nI F4, nI L4, sz', er2, a') from e2', bi7_s, nI_1]
        · rw [if_neg (by decide), show f_Writer_writeSize vc 101 0 0 (nI q) dgs (nI F') (nI L') pl er1 prow (lN m) (iI Ei) 1 = some (c', dgs', nI F4, nI L4, sz', er2, a') from e2', bi7_s, nI_1]
      unfold f_N_shortest
      rcases hK with w | w
      · rw [if_pos w, e18]
      · rw [if_neg (by rw [w]; decide), if_pos w, e18]
    · have e210 : f_M_shortest_210 2 (jJ (if neg then -(m : Int) else m)) (iI Ei) vA' vB' vD' ls' lc1 vl1 vp1 rl1 rpv1 wr bs ab' be' body da' ex1 lm1 out rd1 K N E (nI (q + 1)) = some (nI (q + 1), K, N, E, vA', vB', vD', ls', lcn', vl', vp', vrl', vrp', sz', bs', ab', be', body', da', ex', lm', out', rd') := by
        unfold f_M_shortest_210
        have hf := mform_r hlc (fl := 0) (w := 0) (by decide) (by decide) (P := (q : Int)) (by omega) (by omega) 2 (jJ (if neg then -(m : Int) else m)) (iI Ei) lc1 vl1 vp1 rl1 rpv1 wr bs body ex1 lm1 out rd1
        rw [if_neg (show ¬ (2 : Int32) = 1 from by decide)] at hf
        unfold f_M_form_143 f_M_form_154 at hf
        rw [e4, bi13_s] at hf
        rw [show nI (q + 1) - (1 : Int32) = iI (q : Int) from by rw [iI_nI (q + 1), show (1 : Int32) = iI 1 from rfl, iI_sub]; congr 1; omega]
        rw [show f_M_form 2 (jJ (if neg then -(m : Int) else m)) (iI Ei) lc1 vl1 vp1 rl1 rpv1 wr bs body ex1 lm1 out rd1 101 0 0 (iI (q : Int)) = _ from hf, bi16_s]
      unfold f_M_shortest
      rcases hK with w | w
      · rw [if_pos (by rw [w]; decide), if_pos w, hK1 w, bi4_s, e3, e210]
      · obtain ⟨w1, w2⟩ := hK2 w
        rw [if_pos (by rw [w]; decide), if_neg (by rw [w]; decide)]
        rw [← e210, ← e3]
        rw [← w1, ← w2, ← w]
  rcases hV with ⟨hK, hE0⟩ | ⟨m, Ei, ng, hRl, hK, hN, hE⟩ | ⟨hK, hN, hE⟩
  · obtain ⟨neg, s, hv, hs, hs2, hs3, hneg⟩ := v_split N
    obtain ⟨m, F, hRl, hr, hm0⟩ := rnd_whole hs
    refine num m F neg hRl (fun w => hm0 (hs3 w)) hneg ?_ (Or.inl hK) ?_ (fun w => absurd w (by rw [hK]; decide))
    · intro sf sp si
      have e0 := csizeOf hv hs hneg (E := 0) (by decide) (by decide) sf sp si
      rw [hr] at e0
      rw [hE0]
      exact e0
    · intro _
      rw [mnearWhole hv hs hs2 hs3 hneg K N E, hr, mres_sg]
  · have hm := hRl.1
    have hEr := Rl_E hRl
    by_cases z : m = 0
    · have hN0 : N = jJ (if false then -(m : Int) else m) := by
        rw [hN, z]
        cases ng <;> rfl
      have hneg : ((0 : Int64) ≤ N) = (false = false) := by
        rw [hN0]
        exact neg_eq hm (fun w => absurd w (by decide))
      refine num m Ei false hRl (fun w => absurd w (by decide)) hneg ?_ (Or.inr hK) (fun w => absurd w (by rw [hK]; decide)) (fun _ => ⟨hN0, hE⟩)
      intro sf sp si
      rw [hE, csizeOf (neg := false) (s := m) hN0 (by omega) hneg (by omega) (by omega) sf sp si, rnd_id hRl]
    · have hneg : ((0 : Int64) ≤ N) = (ng = false) := by
        rw [hN]
        exact neg_eq hm (fun _ => z)
      refine num m Ei ng hRl (fun _ => z) hneg ?_ (Or.inr hK) (fun w => absurd w (by rw [hK]; decide)) (fun _ => ⟨hN, hE⟩)
      intro sf sp si
      rw [hE, csizeOf (neg := ng) (s := m) hN (by omega) hneg (by omega) (by omega) sf sp si, rnd_id hRl]
  · refine ⟨-1, l0, ag, af, ai, F, Ll, W, F2, L2, W2, pl, sf, sp, si, vc, vle, vfl, vwi, vpr, er, prow, rr, dgs, vA, vB, vD, ls, lcn, vl, vp, vrl, vrp, wr, bs, ab, be, body, da, ex, lm, out, rd, hB0, hl0, hR, hT, hR2, hT2, hPc, hPm, ?_, ?_⟩
    · unfold f_N_shortest
      rw [if_neg (by rcases hK with w | w | w <;> (rw [w]; decide)), if_neg (by rcases hK with w | w | w <;> (rw [w]; decide))]
    · unfold f_M_shortest
      rw [if_neg (by rcases hK with w | w | w <;> (rw [w]; decide))]

/-! a value written as a real -/
theorem fin_z (fl w : Nat) (sg rs : List Nat) (x : Bool) (vk : Int32) (h : vk ≠ 2) : fin' fl w (x && decide (vk = 2)) sg [] rs = fin' fl w false sg [] rs := by
  rw [decide_eq_false h, Bool.and_false]
theorem fin_420 {fl w : Nat} {zf : Bool} {sg fr rs : List Nat} (hw : w ≤ 99) (h : (sg ++ fr ++ rs).length ≤ 420) : (fin' fl w zf sg fr rs).length ≤ 420 := by
  rw [fin_len]
  omega
/-- real forms of a value: both write the same -/
theorem as_real {K : Int32} {N : Int64} {E : Int32} (hV : Vl K N E) {lc : Nat} (hlc : Lr lc) {fl w : Nat} (hfl : fl < 32) (hw : w ≤ 99) {P : Int} (hP1 : -1 ≤ P) (hP2 : P ≤ 99) :
    ∃ l : List Nat, By l ∧ l.length ≤ 420 ∧
    (K = 2 → ∃ m Ei neg fr rs, Rl m Ei ∧ Cn m Ei lc fl P fr rs ∧ l = fin' fl w (decide (fl / 16 % 2 = 1)) (sgl (sgc fl neg)) fr rs) ∧
    (∀ (vc pl : Int32) (dgs prow : Nat → Int32) (F Ll W : Nat) (er : Nat → Int32) (sf : Int64) (sp si : Int32), Rw er W → Tr F Ll W → ∃ (c' : Int32) (dgs' : Nat → Int32) (F' L' W' : Nat) (sz' : Int32) (er' a' : Nat → Int32) (sf' : Int64) (sp' si' : Int32), f_N_writeAsReal K N E (nI F) (nI Ll) pl sf sp si vc (nI lc) (nI fl) (nI w) (iI P) er prow dgs = some (nI F', nI L', sz', sf', sp', si', c', er', a', dgs') ∧ Rw er' W' ∧ Tr F' L' W' ∧ Pt sz' a' l) ∧
    (∀ (lcn vl vp vrl vrp wr bs : Int32) (body ex lm out rd : Nat → Int32) (k6 : Int32) (n7 : Int64) (e9 : Int32), ∃ (lcn' vl' vp' vrl' vrp' sz' bs' : Int32) (body' ex' lm' out' rd' : Nat → Int32), (if K = (1 : Int32) then bi4 (f_M_nearestWhole K N E N (0 : Int32)) fun r22 v23 v24 v25 => f_M_form_143 v23 v24 v25 lcn vl vp vrl vrp wr bs body ex lm out rd (nI lc) (nI fl) (nI w) (iI P) k6 n7 e9 else f_M_form_143 K N E lcn vl vp vrl vrp wr bs body ex lm out rd (nI lc) (nI fl) (nI w) (iI P) k6 n7 e9) = some (sz', k6, n7, e9, lcn', vl', vp', vrl', vrp', sz', bs', body', ex', lm', out', rd') ∧ Pt sz' out' l) := by
  have hlt := Lr_lt hlc
  -- a number
  have num : ∀ (m : Nat) (Ei : Int) (neg : Bool), Rl m Ei → (neg = true → m ≠ 0) → ((0 : Int64) ≤ N) = (neg = false) → (∀ (sf : Int64) (sp si : Int32), f_N_sizeOfValue N E sf sp si = some (lN m, iI Ei, 0)) → (K = 1 ∨ K = 2) → (K = 1 → f_M_nearestWhole K N E N 0 = some (2, 2, jJ (if neg then -(m : Int) else m), iI Ei)) → (K = 2 → N = jJ (if neg then -(m : Int) else m) ∧ E = iI Ei) →
      ∃ l : List Nat, By l ∧ l.length ≤ 420 ∧
      (K = 2 → ∃ m Ei neg fr rs, Rl m Ei ∧ Cn m Ei lc fl P fr rs ∧ l = fin' fl w (decide (fl / 16 % 2 = 1)) (sgl (sgc fl neg)) fr rs) ∧
      (∀ (vc pl : Int32) (dgs prow : Nat → Int32) (F Ll W : Nat) (er : Nat → Int32) (sf : Int64) (sp si : Int32), Rw er W → Tr F Ll W → ∃ (c' : Int32) (dgs' : Nat → Int32) (F' L' W' : Nat) (sz' : Int32) (er' a' : Nat → Int32) (sf' : Int64) (sp' si' : Int32), f_N_writeAsReal K N E (nI F) (nI Ll) pl sf sp si vc (nI lc) (nI fl) (nI w) (iI P) er prow dgs = some (nI F', nI L', sz', sf', sp', si', c', er', a', dgs') ∧ Rw er' W' ∧ Tr F' L' W' ∧ Pt sz' a' l) ∧
      (∀ (lcn vl vp vrl vrp wr bs : Int32) (body ex lm out rd : Nat → Int32) (k6 : Int32) (n7 : Int64) (e9 : Int32), ∃ (lcn' vl' vp' vrl' vrp' sz' bs' : Int32) (body' ex' lm' out' rd' : Nat → Int32), (if K = (1 : Int32) then bi4 (f_M_nearestWhole K N E N (0 : Int32)) fun r22 v23 v24 v25 => f_M_form_143 v23 v24 v25 lcn vl vp vrl vrp wr bs body ex lm out rd (nI lc) (nI fl) (nI w) (iI P) k6 n7 e9 else f_M_form_143 K N E lcn vl vp vrl vrp wr bs body ex lm out rd (nI lc) (nI fl) (nI w) (iI P) k6 n7 e9) = some (sz', k6, n7, e9, lcn', vl', vp', vrl', vrp', sz', bs', body', ex', lm', out', rd') ∧ Pt sz' out' l) := by
    intro m Ei neg hRl hneg0 hneg hsize hK hK1 hK2
    obtain ⟨fr, rs, hC, hfrB, hrsB, hfl2, hlen⟩ := Cn_ex hRl hlc fl hP1 hP2
    have hsl := sgl_len (sgc fl neg)
    refine ⟨fin' fl w (decide (fl / 16 % 2 = 1)) (sgl (sgc fl neg)) fr rs, fin_By (sgl_By (sgc_lt fl neg)) hfrB hrsB, fin_420 hw (by simp only [List.length_append] at hlen ⊢; omega), fun _ => ⟨m, Ei, neg, fr, rs, hRl, hC, rfl⟩, ?_, ?_⟩
    · intro vc pl dgs prow F Ll W er sf sp si hR hT
      obtain ⟨c', dgs', F', L', W', sz', er', a', e1, r1, t1, q1⟩ := csize hRl neg hlc hfl hw hP1 hP2 hC hfrB hrsB hfl2 hlen vc pl dgs prow hR hT
      refine ⟨c', dgs', F', L', W', sz', er', a', lN m, iI Ei, 0, ?_, r1, t1, q1⟩
      unfold f_N_writeAsReal f_N_writeAsReal_88
      rw [if_neg (by rcases hK with q | q <;> (rw [q]; decide)), if_neg (by rcases hK with q | q <;> (rw [q]; decide)), if_neg (by rcases hK with q | q <;> (rw [q]; decide)), hsize sf sp si, bi3_s, ite_c hneg]
      cases neg
      · rw [if_pos rfl, show (0 : Int32) = bz false from rfl]
        rw [show f_Writer_writeSize vc (nI lc) (nI fl) (nI w) (iI P) dgs (nI F) (nI Ll) pl er prow (lN m) (iI Ei) (bz false) = some (c', dgs', nI F', nI L', sz', er', a') from e1, bi7_s]
      · rw [if_neg (by decide), show (1 : Int32) = bz true from rfl]
        rw [show f_Writer_writeSize vc (nI lc) (nI fl) (nI w) (iI P) dgs (nI F) (nI Ll) pl er prow (lN m) (iI Ei) (bz true) = some (c', dgs', nI F', nI L', sz', er', a') from e1, bi7_s]
    · intro lcn vl vp vrl vrp wr bs body ex lm out rd k6 n7 e9
      obtain ⟨lcn', vl', vp', vrl', vrp', sz', bs', body', ex', lm', out', rd', e1, q1⟩ := mreal hRl hneg0 hlc hfl hw hP1 hP2 hC hfrB hrsB hfl2 hlen lcn vl vp vrl vrp wr bs body ex lm out rd
      refine ⟨lcn', vl', vp', vrl', vrp', sz', bs', body', ex', lm', out', rd', ?_, q1⟩
      have e143 : f_M_form_143 2 (jJ (if neg then -(m : Int) else m)) (iI Ei) lcn vl vp vrl vrp wr bs body ex lm out rd (nI lc) (nI fl) (nI w) (iI P) k6 n7 e9 = some (sz', k6, n7, e9, lcn', vl', vp', vrl', vrp', sz', bs', body', ex', lm', out', rd') := by
        unfold f_M_form_143 f_M_form_154
        rw [e1, bi13_s]
      rcases hK with q | q
      · rw [if_pos q, hK1 q, bi4_s]
        exact e143
      · obtain ⟨w1, w2⟩ := hK2 q
        rw [if_neg (by rw [q]; decide)]
        rw [q, w1, w2]
        exact e143
  -- a word
  have word : ∀ (i j : Nat) (neg : Bool), i < 9 → 2 ≤ i → j < 9 → 2 ≤ j → (K = 3 ∨ K = 4 ∨ K = 5) → (∀ (vc pl : Int32) (dgs prow : Nat → Int32) (F Ll : Nat) (er : Nat → Int32) (sf : Int64) (sp si : Int32) (sz' : Int32) (a' : Nat → Int32), f_Writer_writeWord (nI lc) (nI fl) (nI w) pl prow i j (bz neg) = some (sz', a') → f_N_writeAsReal K N E (nI F) (nI Ll) pl sf sp si vc (nI lc) (nI fl) (nI w) (iI P) er prow dgs = some (nI F, nI Ll, sz', sf, sp, si, vc, er, a', dgs)) → (∀ (body : Nat → Int32), ∃ s2 a2, Pt s2 a2 (tx (if lc < 97 then j else i)) ∧ ∀ (lcn vl vp vrl vrp wr bs : Int32) (ex lm out rd : Nat → Int32), f_M_formReal K N E lcn vl vp vrl vrp wr bs body ex lm out rd (nI lc) (nI fl) (nI w) (iI P) = f_M_formReal_250 K N E lcn vl vp vrl vrp wr s2 a2 ex lm out rd (nI fl) (nI w) (nI ([] : List Nat).length) (bz neg)) →
      ∃ l : List Nat, By l ∧ l.length ≤ 420 ∧
      (K = 2 → ∃ m Ei neg fr rs, Rl m Ei ∧ Cn m Ei lc fl P fr rs ∧ l = fin' fl w (decide (fl / 16 % 2 = 1)) (sgl (sgc fl neg)) fr rs) ∧
      (∀ (vc pl : Int32) (dgs prow : Nat → Int32) (F Ll W : Nat) (er : Nat → Int32) (sf : Int64) (sp si : Int32), Rw er W → Tr F Ll W → ∃ (c' : Int32) (dgs' : Nat → Int32) (F' L' W' : Nat) (sz' : Int32) (er' a' : Nat → Int32) (sf' : Int64) (sp' si' : Int32), f_N_writeAsReal K N E (nI F) (nI Ll) pl sf sp si vc (nI lc) (nI fl) (nI w) (iI P) er prow dgs = some (nI F', nI L', sz', sf', sp', si', c', er', a', dgs') ∧ Rw er' W' ∧ Tr F' L' W' ∧ Pt sz' a' l) ∧
      (∀ (lcn vl vp vrl vrp wr bs : Int32) (body ex lm out rd : Nat → Int32) (k6 : Int32) (n7 : Int64) (e9 : Int32), ∃ (lcn' vl' vp' vrl' vrp' sz' bs' : Int32) (body' ex' lm' out' rd' : Nat → Int32), (if K = (1 : Int32) then bi4 (f_M_nearestWhole K N E N (0 : Int32)) fun r22 v23 v24 v25 => f_M_form_143 v23 v24 v25 lcn vl vp vrl vrp wr bs body ex lm out rd (nI lc) (nI fl) (nI w) (iI P) k6 n7 e9 else f_M_form_143 K N E lcn vl vp vrl vrp wr bs body ex lm out rd (nI lc) (nI fl) (nI w) (iI P) k6 n7 e9) = some (sz', k6, n7, e9, lcn', vl', vp', vrl', vrp', sz', bs', body', ex', lm', out', rd') ∧ Pt sz' out' l) := by
    intro i j neg hi hi2 hj hj2 hK hcls href
    have hK1 : K ≠ 1 := by rcases hK with q | q | q <;> (rw [q]; decide)
    have hK2 : K ≠ 2 := by rcases hK with q | q | q <;> (rw [q]; decide)
    have hij : (if lc < 97 then j else i) < 9 := by split <;> omega
    have hl3 := tx_len _ hij
    have hsl := sgl_len (sgc fl neg)
    refine ⟨fin' fl w false (sgl (sgc fl neg)) [] (tx (if lc < 97 then j else i)), fin_By (sgl_By (sgc_lt fl neg)) By_nil (tx_By hij), fin_420 hw (by simp only [List.length_append, List.length_nil]; omega), fun q => absurd q hK2, ?_, ?_⟩
    · intro vc pl dgs prow F Ll W er sf sp si hR hT
      obtain ⟨sz', a', e1, q1⟩ := cword (lc := lc) (by omega) hfl hw hi hi2 hj hj2 neg pl prow
      exact ⟨vc, dgs, F, Ll, W, sz', er, a', sf, sp, si, hcls vc pl dgs prow F Ll er sf sp si sz' a' e1, hR, hT, q1⟩
    · intro lcn vl vp vrl vrp wr bs body ex lm out rd k6 n7 e9
      obtain ⟨s2, a2, q2, h2⟩ := href body
      obtain ⟨s3, o3, e3, q3⟩ := m250 K N E lcn vl vp vrl vrp wr ex lm out rd hfl hw neg By_nil (tx_By hij) (by rw [List.nil_append]; omega) (show Pt s2 a2 ([] ++ tx (if lc < 97 then j else i)) from q2)
      rw [fin_z _ _ _ _ _ _ hK2] at q3
      refine ⟨lcn, vl, vp, vrl, vrp, s3, s2, a2, ex, lm, o3, rd, ?_, q3⟩
      rw [if_neg hK1]
      unfold f_M_form_143 f_M_form_154
      rw [h2, e3, bi13_s]
  have great : ∀ (body : Nat → Int32) (lcn vl vp vrl vrp wr bs : Int32) (ex lm out rd : Nat → Int32), f_M_formReal K N E lcn vl vp vrl vrp wr bs body ex lm out rd (nI lc) (nI fl) (nI w) (iI P) = f_M_formReal_16 K N E lcn vl vp vrl vrp wr 0 body ex lm out rd (nI lc) (nI fl) (nI w) (iI P) (bz (decide (lc < 97))) := by
    intro body lcn vl vp vrl vrp wr bs ex lm out rd
    unfold f_M_formReal
    rw [ite_c (show ((97 : Int32) ≤ nI lc) = (97 ≤ lc) from propext (nI_leI (a := 97) (by decide) (by omega)))]
    by_cases g : 97 ≤ lc
    · rw [if_pos g, decide_eq_false (by omega)]; rfl
    · rw [if_neg g, decide_eq_true (by omega)]; rfl
  have x51 : ∀ (body : Nat → Int32) (lcn vl vp vrl vrp wr : Int32) (ex lm out rd : Nat → Int32) (ng : Int32), ∃ al : Int32, f_M_formReal_51 K N E lcn vl vp vrl vrp wr 0 body ex lm out rd (nI lc) (nI fl) (nI w) (iI P) (bz (decide (lc < 97))) 0 ng = f_M_formReal_65 K N E lcn vl vp vrl vrp wr 0 body ex lm out rd (nI lc) (nI fl) (nI w) (iI P) (bz (decide (lc < 97))) 0 ng al := by
    intro body lcn vl vp vrl vrp wr ex lm out rd ng
    unfold f_M_formReal_51
    split
    · exact ⟨0, rfl⟩
    · exact ⟨1, rfl⟩
  have h3w : ∀ (x y z i j : Nat) (body : Nat → Int32), (32 ≤ x ∧ x < 128) → (32 ≤ y ∧ y < 128) → (32 ≤ z ∧ z < 128) → tx i = [x, y, z] → tx j = [x - 32, y - 32, z - 32] → ∃ s2 a2, Pt s2 a2 (tx (if lc < 97 then j else i)) ∧ f_M_three 0 body (nI x) (nI y) (nI z) (bz (decide (lc < 97))) = some (s2, a2) := by
    intro x y z i j body hx hy hz hi hj
    obtain ⟨s2, a2, e2, q2⟩ := mthree (gr := decide (lc < 97)) hx hy hz body
    refine ⟨s2, a2, ?_, e2⟩
    by_cases g : lc < 97
    · rw [if_pos (decide_eq_true g)] at q2
      rw [if_pos g, hj]
      exact q2
    · rw [if_neg (by simp [g])] at q2
      rw [if_neg g, hi]
      exact q2
  rcases hV with ⟨hK, hE0⟩ | ⟨m, Ei, ng, hRl, hK, hN, hE⟩ | ⟨hK, hN, hE⟩
  · obtain ⟨neg, s, hv, hs, hs2, hs3, hneg⟩ := v_split N
    obtain ⟨m, F, hRl, hr, hm0⟩ := rnd_whole hs
    refine num m F neg hRl (fun w => hm0 (hs3 w)) hneg ?_ (Or.inl hK) ?_ (fun w => absurd w (by rw [hK]; decide))
    · intro sf sp si
      have e0 := csizeOf hv hs hneg (E := 0) (by decide) (by decide) sf sp si
      rw [hr] at e0
      rw [hE0]
      exact e0
    · intro _
      rw [mnearWhole hv hs hs2 hs3 hneg K N E, hr, mres_sg]
  · have hm := hRl.1
    have hEr := Rl_E hRl
    by_cases z : m = 0
    · have hN0 : N = jJ (if false then -(m : Int) else m) := by
        rw [hN, z]
        cases ng <;> rfl
      have hneg : ((0 : Int64) ≤ N) = (false = false) := by
        rw [hN0]
        exact neg_eq hm (fun w => absurd w (by decide))
      refine num m Ei false hRl (fun w => absurd w (by decide)) hneg ?_ (Or.inr hK) (fun w => absurd w (by rw [hK]; decide)) (fun _ => ⟨hN0, hE⟩)
      intro sf sp si
      rw [hE, csizeOf (neg := false) (s := m) hN0 (by omega) hneg (by omega) (by omega) sf sp si, rnd_id hRl]
    · have hneg : ((0 : Int64) ≤ N) = (ng = false) := by
        rw [hN]
        exact neg_eq hm (fun _ => z)
      refine num m Ei ng hRl (fun _ => z) hneg ?_ (Or.inr hK) (fun w => absurd w (by rw [hK]; decide)) (fun _ => ⟨hN, hE⟩)
      intro sf sp si
      rw [hE, csizeOf (neg := ng) (s := m) hN (by omega) hneg (by omega) (by omega) sf sp si, rnd_id hRl]
  · rcases hK with hK | hK | hK
    · refine word 4 5 false (by decide) (by decide) (by decide) (by decide) (Or.inl hK) ?_ ?_
      · intro vc pl dgs prow F Ll er sf sp si sz' a' e1
        unfold f_N_writeAsReal f_N_writeAsReal_39 f_N_writeAsReal_60
        rw [if_neg (by rw [hK]; decide), if_pos hK, if_neg (by rw [hK]; decide), show f_Writer_writeWord (nI lc) (nI fl) (nI w) pl prow 4 5 0 = some (sz', a') from e1, bi2_s]
      · intro body
        obtain ⟨s2, a2, q2, e2⟩ := h3w 105 110 102 4 5 body (by decide) (by decide) (by decide) rfl rfl
        refine ⟨s2, a2, q2, ?_⟩
        intro lcn vl vp vrl vrp wr bs ex lm out rd
        obtain ⟨al, e51⟩ := x51 body lcn vl vp vrl vrp wr ex lm out rd 0
        rw [great]
        unfold f_M_formReal_16 f_M_formReal_50
        rw [if_neg (by rw [hK]; decide), if_neg (by rw [hK]; decide), e51]
        unfold f_M_formReal_65
        rw [if_neg (by rw [hK]; decide), if_neg (by rw [hK]; decide), show f_M_three 0 body 105 110 102 (bz (decide (lc < 97))) = some (s2, a2) from e2, bi2_s]
        rfl
    · refine word 4 5 true (by decide) (by decide) (by decide) (by decide) (Or.inr (Or.inl hK)) ?_ ?_
      · intro vc pl dgs prow F Ll er sf sp si sz' a' e1
        unfold f_N_writeAsReal f_N_writeAsReal_39 f_N_writeAsReal_60
        rw [if_neg (by rw [hK]; decide), if_neg (by rw [hK]; decide), if_pos hK, if_pos hK, show f_Writer_writeWord (nI lc) (nI fl) (nI w) pl prow 4 5 1 = some (sz', a') from e1, bi2_s]
      · intro body
        obtain ⟨s2, a2, q2, e2⟩ := h3w 105 110 102 4 5 body (by decide) (by decide) (by decide) rfl rfl
        refine ⟨s2, a2, q2, ?_⟩
        intro lcn vl vp vrl vrp wr bs ex lm out rd
        obtain ⟨al, e51⟩ := x51 body lcn vl vp vrl vrp wr ex lm out rd 1
        rw [great]
        unfold f_M_formReal_16 f_M_formReal_46
        rw [if_pos hK, e51]
        unfold f_M_formReal_65
        rw [if_neg (by rw [hK]; decide), if_neg (by rw [hK]; decide), show f_M_three 0 body 105 110 102 (bz (decide (lc < 97))) = some (s2, a2) from e2, bi2_s]
        rfl
    · refine word 2 3 false (by decide) (by decide) (by decide) (by decide) (Or.inr (Or.inr hK)) ?_ ?_
      · intro vc pl dgs prow F Ll er sf sp si sz' a' e1
        unfold f_N_writeAsReal
        rw [if_pos hK, show f_Writer_writeWord (nI lc) (nI fl) (nI w) pl prow 2 3 0 = some (sz', a') from e1, bi2_s]
      · intro body
        obtain ⟨s2, a2, q2, e2⟩ := h3w 110 97 110 2 3 body (by decide) (by decide) (by decide) rfl rfl
        refine ⟨s2, a2, q2, ?_⟩
        intro lcn vl vp vrl vrp wr bs ex lm out rd
        obtain ⟨al, e51⟩ := x51 body lcn vl vp vrl vrp wr ex lm out rd 0
        rw [great]
        unfold f_M_formReal_16 f_M_formReal_50
        rw [if_neg (by rw [hK]; decide), if_neg (by rw [hK]; decide), e51]
        unfold f_M_formReal_65
        rw [if_pos hK, show f_M_three 0 body 110 97 110 (bz (decide (lc < 97))) = some (s2, a2) from e2, bi2_s]
        rfl

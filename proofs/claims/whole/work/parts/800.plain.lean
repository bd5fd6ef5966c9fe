/-! plain -/
theorem mform_r {lc : Nat} (hr : Lr lc) {fl w : Nat} (hfl : fl < 32) (hw : w ≤ 99) {P : Int} (hP1 : -1 ≤ P) (hP2 : P ≤ 99) (K : Int32) (N : Int64) (E lcn vl vp vrl vrp wr bs : Int32) (body ex lm out rd : Nat → Int32) :
    f_M_form K N E lcn vl vp vrl vrp wr bs body ex lm out rd (nI lc) (nI fl) (nI w) (iI P) = (if K = (1 : Int32) then bi4 (f_M_nearestWhole K N E N (0 : Int32)) fun r22 v23 v24 v25 => f_M_form_143 v23 v24 v25 lcn vl vp vrl vrp wr bs body ex lm out rd (nI lc) (nI fl) (nI w) (iI P) K N E else f_M_form_143 K N E lcn vl vp vrl vrp wr bs body ex lm out rd (nI lc) (nI fl) (nI w) (iI P) K N E) := by
  have hlt := Lr_lt hr
  have P99 : iI P ≤ (99 : Int32) := by rw [iI_lek 99 (c := 99) (by decide) (by omega) (by omega) (by decide) (by decide)]; exact hP2
  have P1 : ¬ iI P < (-1 : Int32) := by rw [iI_ltk (-1) (c := -1) (by decide) (by omega) (by omega) (by decide) (by decide)]; omega
  have hne : lc ≠ 100 ∧ lc ≠ 120 ∧ lc ≠ 88 ∧ lc ≠ 111 := by
    rcases hr with rfl | rfl | rfl | rfl | rfl | rfl | rfl | rfl <;> decide
  unfold f_M_form f_M_form_29 f_M_form_43
  rw [if_neg (by rw [nI_k 100 (c := 100) rfl (by omega) (by decide)]; exact hne.1), if_neg (by rw [nI_k 120 (c := 120) rfl (by omega) (by decide)]; exact hne.2.1), if_neg (by rw [nI_k 88 (c := 88) rfl (by omega) (by decide)]; exact hne.2.2.1), if_neg (by rw [nI_k 111 (c := 111) rfl (by omega) (by decide)]; exact hne.2.2.2), if_pos rfl, ((letR (by omega)).1 hr).2, bi1_s, if_neg (by decide), if_neg (nI_pos (by omega)), if_neg (show ¬ (31 : Int32) < nI fl from nI_nlt (a := 31) (by omega) (by decide)), if_neg (nI_pos (by omega)), if_neg (show ¬ (99 : Int32) < nI w from nI_nlt (a := 99) hw (by decide)), if_neg P1, if_pos P99, if_pos rfl]
def anyR (l : List Nat) (p : Nat → Bool) : Nat → Nat → Bool
  | _, 0 => false
  | i, m + 1 => p (l.getD i 0) || anyR l p (i + 1) m
theorem anyR_iff (l : List Nat) (p : Nat → Bool) : ∀ m i, i + m = l.length → (anyR l p i m = true ↔ ∃ x ∈ l.drop i, p x = true) := by
  intro m
  induction m with
  | zero =>
    intro i h
    rw [List.drop_eq_nil_of_le (by omega)]
    unfold anyR
    simp
  | succ m ih =>
    intro i h
    have hd : l.drop i = l.getD i 0 :: l.drop (i + 1) := by
      rw [List.drop_eq_getElem_cons (by omega)]
      congr 1
      rw [List.getD_eq_getElem?_getD, List.getElem?_eq_getElem (by omega)]
      rfl
    unfold anyR
    rw [Bool.or_eq_true, ih (i + 1) (by omega), hd]
    constructor
    · rintro (q | ⟨x, hx, q⟩)
      · exact ⟨_, List.mem_cons_self, q⟩
      · exact ⟨x, List.mem_cons_of_mem _ hx, q⟩
    · rintro ⟨x, hx, q⟩
      rcases List.mem_cons.mp hx with rfl | hx
      · exact Or.inl q
      · exact Or.inr ⟨x, hx, q⟩
theorem holds2 {l : List Nat} (hB : By l) (hl : l.length ≤ 420) {sz : Int32} {a : Nat → Int32} (hP : Pt sz a l) {b : Nat} (hb : b < 128) : ∀ (m i f : Nat), i + m = l.length → m < f → f_Page_holds_2 f sz a (nI b) (nI i) = some (bz (anyR l (fun x => x == b) i m)) := by
  intro m
  induction m with
  | zero =>
    intro i f h hf
    obtain ⟨f, rfl⟩ : ∃ j, f = j + 1 := ⟨f - 1, by omega⟩
    show f_Page_holds_2b _ _ _ _ _ = _
    unfold f_Page_holds_2b
    rw [hP.1, if_pos (nI_le (by omega) (by omega))]
    rfl
  | succ m ih =>
    intro i f h hf
    obtain ⟨f, rfl⟩ : ∃ j, f = j + 1 := ⟨f - 1, by omega⟩
    have hbi := hB i (by omega)
    have hat : f_Page_at sz a (nI i) = some (nI (l.getD i 0)) := by
      unfold f_Page_at
      rw [hP.1, if_neg (nI_pos (by omega)), if_neg (nI_ge (by omega) (by omega)), if_pos (show nI i < (420 : Int32) from nI_lt (b := 420) (by omega) (by decide)), ck_s (gin_nI (by omega) (by decide)), nI_clamp (by omega), hP.2 i (by omega)]
    show f_Page_holds_2b _ _ _ _ _ = _
    unfold f_Page_holds_2b
    rw [hat, bi1_s, ite_c (propext (nI_eq (by omega) (by omega)))]
    rw [hP.1, if_neg (nI_ge (by omega) (by omega)), ← hP.1]
    unfold anyR
    by_cases c : l.getD i 0 = b
    · rw [if_pos c, show (l.getD i 0 == b) = true from beq_iff_eq.mpr c, Bool.true_or]
      rfl
    · rw [if_neg c, bd_s, nI_1, ih (i + 1) f (by omega) (by omega), show (l.getD i 0 == b) = false from beq_eq_false_iff_ne.mpr c, Bool.false_or]
def odd1 (x : Nat) : Bool := !(decide (48 ≤ x ∧ x ≤ 57) || x == 45)
theorem isDigit_b {b : Nat} (hb : b < 128) : f_M_isDigit (nI b) = some (bz (decide (48 ≤ b ∧ b ≤ 57))) := by
  unfold f_M_isDigit
  rw [ite_c (show (nI b < (48 : Int32)) = (b < 48) from propext (nI_ltI (b := 48) (by omega) (by decide))), ite_c (show ((57 : Int32) < nI b) = (57 < b) from propext (nI_ltI (a := 57) (by decide) (by omega)))]
  by_cases c : b < 48
  · rw [if_pos c, decide_eq_false (by omega)]; rfl
  · rw [if_neg c]
    by_cases d : 57 < b
    · rw [if_pos d, decide_eq_false (by omega)]; rfl
    · rw [if_neg d, decide_eq_true (by omega)]; rfl
theorem plain45 {l : List Nat} (hB : By l) (hl : l.length ≤ 420) (K : Int32) (N : Int64) (E lcn vl vp vrl vrp : Int32) {wr : Int32} (bs : Int32) (body ex lm : Nat → Int32) {out : Nat → Int32} (rd : Nat → Int32) (hP : Pt wr out l) : ∀ (m i f : Nat) (g : Bool), i + m = l.length → m < f → f_M_plain_45 f K N E lcn vl vp vrl vrp wr bs body ex lm out rd (nI l.length) (bz g) (nI i) = f_M_plain_89 K N E lcn vl vp vrl vrp wr bs body ex lm out rd (bz (g && !anyR l odd1 i m)) := by
  intro m
  induction m with
  | zero =>
    intro i f g h hf
    obtain ⟨f, rfl⟩ : ∃ j, f = j + 1 := ⟨f - 1, by omega⟩
    show f_M_plain_45b _ _ _ _ _ _ _ _ _ _ _ _ _ _ _ _ _ _ _ = _
    unfold f_M_plain_45b
    rw [if_pos (nI_le (by omega) (by omega))]
    unfold anyR
    rw [Bool.not_false, Bool.and_true]
  | succ m ih =>
    intro i f g h hf
    obtain ⟨f, rfl⟩ : ∃ j, f = j + 1 := ⟨f - 1, by omega⟩
    have hbi := hB i (by omega)
    have hoi := hP.2 i (by omega)
    show f_M_plain_45b _ _ _ _ _ _ _ _ _ _ _ _ _ _ _ _ _ _ _ = _
    unfold f_M_plain_45b f_M_plain_81 f_M_plain_77 f_M_plain_82 anyR
    have nx0 := ih (i + 1) f false (by omega) (by omega)
    have nx1 := ih (i + 1) f true (by omega) (by omega)
    rw [if_neg (nI_ge (by omega) (by omega)), ite_c (bz_f _), bd_s, bd_s, nI_1]
    rw [Bool.false_and] at nx0
    cases g
    · rw [if_pos rfl, Bool.false_and]
      exact nx0
    · rw [if_neg (by decide), ck_s (gin_nI (by omega) (by decide)), show out (nI i).toNatClampNeg = nI (l.getD i 0) from by rw [nI_clamp (by omega)]; exact hoi, isDigit_b hbi, bi1_s, ite_c (bz_f _)]
      rw [Bool.true_and] at nx1
      rw [Bool.true_and]
      unfold odd1 at nx1 ⊢
      by_cases c : 48 ≤ l.getD i 0 ∧ l.getD i 0 ≤ 57
      · rw [if_neg (by rw [decide_eq_true c]; decide), decide_eq_true c, Bool.true_or, Bool.not_true, Bool.false_or]
        exact nx1
      · rw [if_pos (decide_eq_false c), ck_s (gin_nI (by omega) (by decide)), ite_c (nI_k 45 (c := 45) rfl (by omega) (by decide)), decide_eq_false c, Bool.false_or]
        by_cases d : l.getD i 0 = 45
        · rw [if_pos d, show (l.getD i 0 == 45) = true from beq_iff_eq.mpr d, Bool.not_true, Bool.false_or]
          exact nx1
        · rw [if_neg d, show (l.getD i 0 == 45) = false from beq_eq_false_iff_ne.mpr d, Bool.not_false, Bool.true_or, Bool.not_true]
          exact nx0
theorem dn_mem (R : Nat) : ∀ (k : Nat) (p : Int) (x : Nat), x ∈ dn R p k → 48 ≤ x ∧ x ≤ 57 := by
  intro k
  induction k with
  | zero => intro p x h; exact absurd h (by simp [dn])
  | succ k ih =>
    intro p x h
    have := dgZ_lt R p
    rcases List.mem_cons.mp h with rfl | h
    · omega
    · exact ih _ x h
theorem ppt_mem {b : Nat} {al : Bool} {x : Nat} (h : x ∈ ppt b al) : 46 ∈ ppt b al := by
  unfold ppt at h ⊢
  by_cases w : 0 < b ∨ al = true
  · rw [if_pos w]
    exact List.mem_singleton.mpr rfl
  · rw [if_neg w] at h
    exact absurd h (by simp)
/-- in plain text: a point or an e, or digits and - alone -/
theorem plain_chars {m : Nat} {E : Int} {neg : Bool} {fr rs : List Nat} (hC : Cn m E 103 0 14 fr rs) : (46 ∈ fin' 0 0 false (sgl (sgc 0 neg)) fr rs ∨ 101 ∈ fin' 0 0 false (sgl (sgc 0 neg)) fr rs) ∨ ∀ x ∈ fin' 0 0 false (sgl (sgc 0 neg)) fr rs, odd1 x = false := by
  have hfin : fin' 0 0 false (sgl (sgc 0 neg)) fr rs = sgl (sgc 0 neg) ++ fr ++ rs := by
    unfold fin'
    rw [if_neg (by decide), if_neg (by decide), Nat.zero_sub, List.replicate_zero, List.nil_append]
  rw [hfin]
  rcases hC with ⟨hs, -⟩ | ⟨hs, -⟩ | ⟨hs, hf0, tv, t, c, -, -, -, hrs⟩ | ⟨hs, -⟩
  · exact absurd hs (by decide)
  · exact absurd hs (by decide)
  · subst hf0
    rw [hrs, List.append_nil]
    unfold gC
    split
    · unfold cF
      by_cases hp : 46 ∈ ppt (if decide (0 / 8 % 2 = 1) = true then ((bP 14 - 1 : Nat) - t).toNat else need (rdE (Vv m E) (tv - (bP 14 - 1 : Nat) + 1548).toNat) (-1) ((bP 14 - 1 : Nat) - t).toNat) (decide (0 / 8 % 2 = 1))
      · left
        left
        apply List.mem_append_right
        apply List.mem_append_left
        exact List.mem_append_right _ hp
      · right
        intro x hx
        unfold odd1
        rcases List.mem_append.mp hx with h | h
        · have : x = 45 := by
            cases neg
            · exact absurd (show x ∈ ([] : List Nat) from h) (by simp)
            · exact List.mem_singleton.mp (show x ∈ [45] from h)
          rw [this]
          rfl
        · rcases List.mem_append.mp h with h | h
          · rcases List.mem_append.mp h with h | h
            · have := dn_mem _ _ _ _ h
              rw [decide_eq_true this]
              rfl
            · exfalso
              apply hp
              exact ppt_mem h
          · have := dn_mem _ _ _ _ h
            rw [decide_eq_true this]
            rfl
    · left
      right
      unfold cE
      apply List.mem_append_right
      apply List.mem_append_left
      apply List.mem_append_right
      exact List.mem_singleton.mpr rfl
  · exact absurd hs (by decide)
theorem plain_same {K : Int32} {N : Int64} {E : Int32} (hV : Vl K N E) {F Ll W : Nat} {er : Nat → Int32} (hR : Rw er W) (hT : Tr F Ll W) (pl : Int32) (prow : Nat → Int32) (sf : Int64) (sp si vc vle vfl vwi vpr : Int32) (dgs : Nat → Int32) (wr : Int32) (out : Nat → Int32) (lcn vl vp vrl vrp bs : Int32) (body ex lm rd : Nat → Int32) :
    ∃ (r : Int32) (l : List Nat) (F' L' W' : Nat) (pl' : Int32) (sf' : Int64) (sp' si' vc' vle' vfl' vwi' vpr' : Int32) (er' prow' dgs' : Nat → Int32) (lcn' vl' vp' vrl' vrp' wr' bs' : Int32) (body' ex' lm' out' rd' : Nat → Int32), By l ∧ l.length ≤ 420 ∧ Rw er' W' ∧ Tr F' L' W' ∧ Pt pl' prow' l ∧ Pt wr' out' l ∧
    f_N_plain K N E (nI F) (nI Ll) pl sf sp si vc vle vfl vwi vpr er prow dgs = some (r, nI F', nI L', pl', sf', sp', si', vc', vle', vfl', vwi', vpr', er', prow', dgs') ∧
    f_M_plain K N E lcn vl vp vrl vrp wr bs body ex lm out rd = some (r, K, N, E, lcn', vl', vp', vrl', vrp', wr', bs', body', ex', lm', out', rd') := by
  by_cases hK : K = 1
  · subst hK
    obtain ⟨l, lB, ll, hcl, hrf⟩ := as_whole N (lc := 100) (Or.inl rfl) (fl := 0) (w := 0) (by decide) (by decide) (P := -1) (by decide) (by decide)
    obtain ⟨c', d', s', a', y1, q1⟩ := hcl vc pl dgs prow
    obtain ⟨s2, b2, y2b, o2, y2, q2⟩ := hrf wr bs body out
    have hs : s' = s2 := by rw [q1.1, q2.1]
    subst hs
    refine ⟨s', l, F, Ll, W, s', sf, sp, si, c', 100, 0, 0, -1, er, a', d', lcn, vl, vp, vrl, vrp, s', b2, y2b, ex, lm, o2, rd, lB, ll, hR, hT, q1, q2, ?_, ?_⟩
    · unfold f_N_plain f_Writer_begin f_Page_length
      rw [if_pos rfl, ck_s (show ckC (100 : Int32) from ckC_nI (lc := 100) (by decide)), bi4_s, show f_Writer_writeWhole vc 100 0 0 (-1) dgs pl prow N = some (c', d', s', a') from y1, bi4_s, bi1_s]
    · unfold f_M_plain f_M_form f_M_form_24 f_M_form_29 f_M_form_43 f_M_becomesWhole f_M_form_154
      rw [if_pos rfl, if_pos rfl, if_neg (by decide), if_neg (by decide), if_neg (by decide), if_neg (by decide), if_neg (by decide), if_neg (by decide), if_pos (by decide), if_neg (by decide), if_pos rfl, bi4_s, if_neg (by decide), show f_M_formWhole N wr bs body out 100 0 0 (-1) = some (s', s', b2, y2b, o2) from y2, bi5_s, bi16_s]
  · obtain ⟨l, lB, ll, hstr, hcl, hrf⟩ := as_real hV (lc := 103) (Or.inr (Or.inr (Or.inr (Or.inr (Or.inl rfl))))) (fl := 0) (w := 0) (by decide) (by decide) (P := 14) (by decide) (by decide)
    obtain ⟨c', d', F', L', W', s', er', a', sf', sp', si', y1, z1, z2, q1⟩ := hcl vc pl dgs prow F Ll W er sf sp si hR hT
    obtain ⟨lcn', vl', vp', vrl', vrp', s2, bs', body', ex', lm', out', rd', y2, q2⟩ := hrf lcn vl vp vrl vrp wr bs body ex lm out rd K N E
    rw [← mform_r (lc := 103) (Or.inr (Or.inr (Or.inr (Or.inr (Or.inl rfl))))) (fl := 0) (w := 0) (by decide) (by decide) (P := 14) (by decide) (by decide) K N E lcn vl vp vrl vrp wr bs body ex lm out rd] at y2
    have hs : s' = s2 := by rw [q1.1, q2.1]
    subst hs
    have hs' : s' = nI l.length := q1.1
    have p45 := fun g => plain45 lB ll K N E lcn' vl' vp' vrl' vrp' bs' body' ex' lm' rd' q2 l.length 0 fu g (by omega) (by unfold fu; omega)
    have cls0 : f_N_plain K N E (nI F) (nI Ll) pl sf sp si vc vle vfl vwi vpr er prow dgs = (if K = (2 : Int32) then bi1 (f_Page_holds s' a' (46 : Int32)) fun r18 => if r18 = 0 then bi1 (f_Page_holds s' a' (101 : Int32)) fun r20 => if r20 = 0 then bi2 (f_Page_putText s' a' (8)) fun v22 a23 => f_N_plain_97 K N E (nI F') (nI L') v22 sf' sp' si' c' 103 0 0 14 er' a23 d' else f_N_plain_97 K N E (nI F') (nI L') s' sf' sp' si' c' 103 0 0 14 er' a' d' else f_N_plain_97 K N E (nI F') (nI L') s' sf' sp' si' c' 103 0 0 14 er' a' d' else f_N_plain_97 K N E (nI F') (nI L') s' sf' sp' si' c' 103 0 0 14 er' a' d') := by
      unfold f_N_plain f_Writer_begin
      rw [if_neg hK, ck_s (show ckC (103 : Int32) from ckC_nI (lc := 103) (by decide)), bi4_s, show f_N_writeAsReal K N E (nI F) (nI Ll) pl sf sp si vc 103 0 0 14 er prow dgs = some (nI F', nI L', s', sf', sp', si', c', er', a', d') from y1, bi10_s]
    have ref0 : f_M_plain K N E lcn vl vp vrl vrp wr bs body ex lm out rd = f_M_plain_89 K N E lcn' vl' vp' vrl' vrp' s' bs' body' ex' lm' out' rd' (bz (decide (K = 2) && !anyR l odd1 0 l.length)) := by
      unfold f_M_plain
      rw [if_neg hK, show f_M_form K N E lcn vl vp vrl vrp wr bs body ex lm out rd 103 0 0 14 = some (s', K, N, E, lcn', vl', vp', vrl', vrp', s', bs', body', ex', lm', out', rd') from y2, bi16_s]
      unfold f_M_plain_42
      rw [show f_M_plain_45 fu K N E lcn' vl' vp' vrl' vrp' s' bs' body' ex' lm' out' rd' s' 1 0 = f_M_plain_45 fu K N E lcn' vl' vp' vrl' vrp' s' bs' body' ex' lm' out' rd' (nI l.length) (bz true) (nI 0) from by rw [← hs']; rfl, show f_M_plain_45 fu K N E lcn' vl' vp' vrl' vrp' s' bs' body' ex' lm' out' rd' s' 0 0 = f_M_plain_45 fu K N E lcn' vl' vp' vrl' vrp' s' bs' body' ex' lm' out' rd' (nI l.length) (bz false) (nI 0) from by rw [← hs']; rfl, p45 true, p45 false]
      by_cases c : K = 2
      · rw [if_pos c, decide_eq_true c]
      · rw [if_neg c, decide_eq_false c]
    have same : (f_N_plain K N E (nI F) (nI Ll) pl sf sp si vc vle vfl vwi vpr er prow dgs = f_N_plain_97 K N E (nI F') (nI L') s' sf' sp' si' c' 103 0 0 14 er' a' d') → (decide (K = 2) && !anyR l odd1 0 l.length) = false → ∃ (r : Int32) (l : List Nat) (F' L' W' : Nat) (pl' : Int32) (sf' : Int64) (sp' si' vc' vle' vfl' vwi' vpr' : Int32) (er' prow' dgs' : Nat → Int32) (lcn' vl' vp' vrl' vrp' wr' bs' : Int32) (body' ex' lm' out' rd' : Nat → Int32), By l ∧ l.length ≤ 420 ∧ Rw er' W' ∧ Tr F' L' W' ∧ Pt pl' prow' l ∧ Pt wr' out' l ∧ f_N_plain K N E (nI F) (nI Ll) pl sf sp si vc vle vfl vwi vpr er prow dgs = some (r, nI F', nI L', pl', sf', sp', si', vc', vle', vfl', vwi', vpr', er', prow', dgs') ∧ f_M_plain K N E lcn vl vp vrl vrp wr bs body ex lm out rd = some (r, K, N, E, lcn', vl', vp', vrl', vrp', wr', bs', body', ex', lm', out', rd') := by
      intro h1 h2
      refine ⟨s', l, F', L', W', s', sf', sp', si', c', 103, 0, 0, 14, er', a', d', lcn', vl', vp', vrl', vrp', s', bs', body', ex', lm', out', rd', lB, ll, z1, z2, q1, q2, ?_, ?_⟩
      · rw [h1]
        rfl
      · rw [ref0, h2]
        rfl
    by_cases c2 : K = 2
    · obtain ⟨m, Ei, neg, fr, rs, hRl, hC, hl⟩ := hstr c2
      rw [show (decide (0 / 16 % 2 = 1)) = false from rfl] at hl
      have hch := plain_chars (neg := neg) hC
      rw [← hl] at hch
      have h46 := holds2 lB ll q1 (b := 46) (by decide) l.length 0 fu (by omega) (by unfold fu; omega)
      have h101 := holds2 lB ll q1 (b := 101) (by decide) l.length 0 fu (by omega) (by unfold fu; omega)
      have i46 := anyR_iff l (fun x => x == 46) l.length 0 (by omega)
      have i101 := anyR_iff l (fun x => x == 101) l.length 0 (by omega)
      have iodd := anyR_iff l odd1 l.length 0 (by omega)
      rw [List.drop_zero] at i46 i101 iodd
      rw [if_pos c2, show f_Page_holds s' a' 46 = some (bz (anyR l (fun x => x == 46) 0 l.length)) from h46, bi1_s, ite_c (bz_f _), show f_Page_holds s' a' 101 = some (bz (anyR l (fun x => x == 101) 0 l.length)) from h101, bi1_s, ite_c (bz_f _)] at cls0
      by_cases a46 : anyR l (fun x => x == 46) 0 l.length = true
      · refine same (by rw [cls0, if_neg (by rw [a46]; decide)]) ?_
        obtain ⟨x, hx, hx2⟩ := i46.mp a46
        have : x = 46 := by simpa using hx2
        rw [iodd.mpr ⟨x, hx, by rw [this]; rfl⟩, Bool.not_true, Bool.and_false]
      · have a46 : anyR l (fun x => x == 46) 0 l.length = false := eq_false_of_ne_true a46
        by_cases a101 : anyR l (fun x => x == 101) 0 l.length = true
        · refine same (by rw [cls0, if_pos a46, if_neg (by rw [a101]; decide)]) ?_
          obtain ⟨x, hx, hx2⟩ := i101.mp a101
          have : x = 101 := by simpa using hx2
          rw [iodd.mpr ⟨x, hx, by rw [this]; rfl⟩, Bool.not_true, Bool.and_false]
        · have a101 : anyR l (fun x => x == 101) 0 l.length = false := eq_false_of_ne_true a101
          have hno : anyR l odd1 0 l.length = false := by
            cases q : anyR l odd1 0 l.length
            · rfl
            · exfalso
              obtain ⟨x, hx, hx2⟩ := iodd.mp q
              rcases hch with (w | w) | w
              · have := i46.mpr ⟨46, w, by simp⟩
                rw [a46] at this
                exact absurd this (by decide)
              · have := i101.mpr ⟨101, w, by simp⟩
                rw [a101] at this
                exact absurd this (by decide)
              · rw [w x hx] at hx2
                exact absurd hx2 (by decide)
          have hl417 : l.length ≤ 417 := by
            rw [hl, fin_len]
            rcases hC with ⟨hs9, -⟩ | ⟨hs9, -⟩ | ⟨hs9, hf0, tv, t, c, htv, ht, hc, hrs⟩ | ⟨hs9, -⟩
            · exact absurd hs9 (by decide)
            · exact absurd hs9 (by decide)
            · have hr := Tp_rng hRl htv (by decide) ht
              have hc4 := Dc_le hc (by omega) (by omega)
              have hgl := gC_len (R := rdE (Vv m Ei) (tv - (bP 14 - 1 : Nat) + 1548).toNat) (t := t) (q := bP 14 - 1) (al := decide (0 / 8 % 2 = 1)) (lt := elt 103) (n := max 2 c) (by omega) (by decide)
              have hsl := sgl_len (sgc 0 neg)
              rw [hf0, hrs, List.append_nil, List.length_append]
              omega
            · exact absurd hs9 (by decide)
          obtain ⟨s3, a3, e3, q3⟩ := text_eq (i := 8) (by decide) (by decide) q1 (by omega)
          obtain ⟨s4, o4, e4, q4⟩ := mwrite (b := 46) q2 (by omega) (by decide)
          obtain ⟨s5, o5, e5, q5⟩ := mwrite (b := 48) q4 (by rw [List.length_append, List.length_singleton]; omega) (by decide)
          rw [List.append_assoc] at q5
          have q5' : Pt s5 o5 (l ++ tx 8) := q5
          have hs35 : s3 = s5 := by rw [q3.1, q5'.1]
          subst hs35
          refine ⟨s3, l ++ tx 8, F', L', W', s3, sf', sp', si', c', 103, 0, 0, 14, er', a3, d', lcn', vl', vp', vrl', vrp', s3, bs', body', ex', lm', o5, rd', By_app lB (tx_By (by decide)), by rw [List.length_append]; have := tx_len 8 (by decide); omega, z1, z2, q3, q5', ?_, ?_⟩
          · rw [cls0, if_pos a46, if_pos a101, e3, bi2_s]
            rfl
          · rw [ref0, hno, decide_eq_true c2]
            unfold f_M_plain_89
            rw [if_neg (by decide), show (46 : Int32) = nI 46 from rfl, e4, bi2_s, show (48 : Int32) = nI 48 from rfl, e5, bi2_s]
    · rw [if_neg c2] at cls0
      exact same cls0 (by rw [decide_eq_false c2, Bool.false_and])

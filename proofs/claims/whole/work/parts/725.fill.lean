/-! filling: the class's fill, the reference's finish -/
theorem has1 : ∀ fl, fl < 32 → f_Writer_has (nI fl) 1 = some (bz (decide (fl % 2 = 1))) := by decide +kernel
theorem has2 : ∀ fl, fl < 32 → f_Writer_has (nI fl) 2 = some (bz (decide (fl / 2 % 2 = 1))) := by decide +kernel
theorem has4 : ∀ fl, fl < 32 → f_Writer_has (nI fl) 4 = some (bz (decide (fl / 4 % 2 = 1))) := by decide +kernel
theorem has8 : ∀ fl, fl < 32 → f_Writer_has (nI fl) 8 = some (bz (decide (fl / 8 % 2 = 1))) := by decide +kernel
theorem has16 : ∀ fl, fl < 32 → f_Writer_has (nI fl) 16 = some (bz (decide (fl / 16 % 2 = 1))) := by decide +kernel
def fin' (fl w : Nat) (zf : Bool) (sg fr rs : List Nat) : List Nat :=
  if fl % 2 = 1 then sg ++ fr ++ rs ++ List.replicate (w - (sg ++ fr ++ rs).length) 32
  else if zf then sg ++ fr ++ List.replicate (w - (sg ++ fr ++ rs).length) 48 ++ rs
  else List.replicate (w - (sg ++ fr ++ rs).length) 32 ++ (sg ++ fr ++ rs)
theorem fin_len (fl w : Nat) (zf : Bool) (sg fr rs : List Nat) : (fin' fl w zf sg fr rs).length = max w (sg ++ fr ++ rs).length := by
  unfold fin'
  split
  · simp only [List.length_append, List.length_replicate]
    omega
  · split
    · simp only [List.length_append, List.length_replicate]
      omega
    · simp only [List.length_append, List.length_replicate]
      omega
theorem fin_By {fl w : Nat} {zf : Bool} {sg fr rs : List Nat} (h1 : By sg) (h2 : By fr) (h3 : By rs) : By (fin' fl w zf sg fr rs) := by
  unfold fin'
  split
  · exact By_app (By_app (By_app h1 h2) h3) (By_rep (by decide))
  · split
    · exact By_app (By_app (By_app h1 h2) (By_rep (by decide))) h3
    · exact By_app (By_rep (by decide)) (By_app (By_app h1 h2) h3)
theorem fill_eq {fl w : Nat} (hfl : fl < 32) (hw : w ≤ 99) {zf : Bool} {sg fr rs : List Nat} (h1 : By sg) (h2 : By fr) (h3 : By rs) (hl : (sg ++ fr ++ rs).length ≤ 420) {sz : Int32} {a : Nat → Int32} (hP : Pt sz a (sg ++ fr ++ rs)) {st : Nat} (hst : st = (sg ++ fr).length) :
    ∃ sz' a', f_Writer_fill (nI fl) (nI w) sz a (nI st) (bz zf) = some (sz', a') ∧ Pt sz' a' (fin' fl w (decide (fl / 16 % 2 = 1) && zf) sg fr rs) := by
  unfold f_Writer_fill f_Page_length
  have hB : By (sg ++ fr ++ rs) := By_app (By_app h1 h2) h3
  have hsl : (sg ++ fr).length ≤ (sg ++ fr ++ rs).length := by rw [List.length_append (as := sg ++ fr)]; omega
  rw [bi1_s, bd_s, hP.1, show nI w - nI (sg ++ fr ++ rs).length = iI ((w : Int) - (sg ++ fr ++ rs).length) from by rw [iI_nI, iI_nI, iI_sub], ite_c (iI_klt 0 (by decide) (by omega) (by omega) (by decide) (by decide))]
  by_cases c : 0 < (w : Int) - (sg ++ fr ++ rs).length
  · obtain ⟨k, hk⟩ : ∃ k : Nat, (w : Int) - (sg ++ fr ++ rs).length = k := ⟨_, (Int.toNat_of_nonneg (by omega)).symm⟩
    have hkw : w - (sg ++ fr ++ rs).length = k := by omega
    have hP' : Pt (nI (sg ++ fr ++ rs).length) a (sg ++ fr ++ rs) := ⟨rfl, hP.2⟩
    obtain ⟨s1, a1, e1, q1⟩ := insert_eq hP' hB (p := 0) (b := 32) (k := k) (by omega) (by decide) (by omega) (by omega)
    obtain ⟨s2, a2, e2, q2⟩ := insert_eq hP' hB (p := st) (b := 48) (k := k) (by omega) (by decide) (by omega) (by omega)
    obtain ⟨s3, a3, e3, q3⟩ := many_eq (b := 32) (by decide) hP' (n := (k : Int)) (by omega) (by omega) (by omega)
    have i1 : ins (sg ++ fr ++ rs) 0 32 k = List.replicate k 32 ++ (sg ++ fr ++ rs) := by
      unfold ins
      rw [List.take_zero, List.drop_zero, List.nil_append]
    have i2 : ins (sg ++ fr ++ rs) st 48 k = sg ++ fr ++ List.replicate k 48 ++ rs := by
      unfold ins
      rw [hst, List.take_left, List.drop_left]
    rw [i1] at q1
    rw [i2] at q2
    rw [Int.toNat_natCast] at q3
    rw [if_pos c, hk, ← iI_nI, has1 fl hfl, bi1_s, ite_c (bz_f _)]
    unfold f_Writer_fill_66 fin'
    rw [hkw]
    by_cases d : fl % 2 = 1
    · rw [if_neg (by simp [d]), if_pos d]
      rw [← iI_nI] at e3
      rw [show (32 : Int32) = nI 32 from rfl, e3]
      exact ⟨s3, a3, rfl, q3⟩
    · rw [if_pos (by simp [d]), if_neg d, has16 fl hfl, bi1_s, ite_c (bz_f _), ite_c (bz_f _)]
      rw [show (0 : Int32) = nI 0 from rfl, show (32 : Int32) = nI 32 from rfl, show (48 : Int32) = nI 48 from rfl, e1, e2, bi2_s, bi2_s]
      by_cases g : fl / 16 % 2 = 1
      · rw [if_neg (by simp [g]), decide_eq_true g, Bool.true_and]
        cases zf
        · rw [if_pos rfl, if_neg (by decide)]
          exact ⟨s1, a1, rfl, q1⟩
        · rw [if_neg (by decide), if_pos rfl]
          exact ⟨s2, a2, rfl, q2⟩
      · rw [if_pos (by simp [g]), decide_eq_false g, Bool.false_and, if_neg (by decide)]
        exact ⟨s1, a1, rfl, q1⟩
  · rw [if_neg c]
    refine ⟨_, _, rfl, ?_⟩
    have : fin' fl w (decide (fl / 16 % 2 = 1) && zf) sg fr rs = sg ++ fr ++ rs := by
      unfold fin'
      rw [show w - (sg ++ fr ++ rs).length = 0 from by omega, List.replicate_zero, List.replicate_zero, List.append_nil, List.append_nil, List.nil_append]
      split
      · rfl
      · split <;> rfl
    rw [this]
    exact ⟨rfl, hP.2⟩
/-! the reference -/
theorem fi54 {bs : Int32} {body : Nat → Int32} (y3 y4 : Int32) (lf zr : Bool) {k : Nat} (hk : k ≤ 99) : ∀ (m j f : Nat) (sz : Int32) (out : Nat → Int32) (l : List Nat), j + m = k → m < f → Pt sz out l → l.length + m < 700 →
    ∃ sz' out', f_M_finish_54 f sz bs body out y3 y4 (bz zr) (nI k) (bz lf) (nI j) = f_M_finish_83 sz' bs body out' y3 y4 (bz zr) (nI k) (bz lf) ∧ Pt sz' out' (l ++ (if lf = false ∧ zr = false then List.replicate m 32 else [])) := by
  intro m
  induction m with
  | zero =>
    intro j f sz out l h hf hP hl
    obtain ⟨f, rfl⟩ : ∃ j, f = j + 1 := ⟨f - 1, by omega⟩
    have : j = k := by omega
    subst this
    refine ⟨sz, out, ?_, ?_⟩
    · show f_M_finish_54b _ _ _ _ _ _ _ _ _ _ _ = _
      unfold f_M_finish_54b
      rw [if_pos (Int32.le_refl _)]
    · rw [List.replicate_zero]
      split <;> (rw [List.append_nil]; exact hP)
  | succ m ih =>
    intro j f sz out l h hf hP hl
    obtain ⟨f, rfl⟩ : ∃ j, f = j + 1 := ⟨f - 1, by omega⟩
    show ∃ sz' out', f_M_finish_54b _ _ _ _ _ _ _ _ _ _ _ = _ ∧ _
    unfold f_M_finish_54b
    rw [if_neg (nI_ge (by omega) (by omega)), ite_c (bz_f _), ite_c (bz_f _)]
    by_cases c : lf = false ∧ zr = false
    · obtain ⟨s1, o1, e1, h1⟩ := mwrite (b := 32) hP (by omega) (by decide)
      obtain ⟨s2, o2, e2, h2⟩ := ih (j + 1) f s1 o1 (l ++ [32]) (by omega) (by omega) h1 (by rw [List.length_append, List.length_singleton]; omega)
      rw [if_pos c] at h2 ⊢
      rw [app_rep] at h2
      refine ⟨s2, o2, ?_, h2⟩
      rw [if_pos c.1, if_pos c.2, show (32 : Int32) = nI 32 from rfl, e1, bi2_s, bd_s, nI_1]
      exact e2
    · rw [if_neg c, List.append_nil]
      refine ⟨sz, out, ?_, hP⟩
      by_cases d : lf = false
      · rw [if_pos d, if_neg (fun q => c ⟨d, q⟩)]
      · rw [if_neg d]
theorem fi95 {bs : Int32} {body : Nat → Int32} {B : List Nat} (hB : By B) (hbody : ∀ i, i < B.length → body i = nI (B.getD i 0)) (hBl : B.length < 700) (y5 y7 y8 : Int32) {fr : Nat} (hfr : fr ≤ B.length) : ∀ (m j f : Nat) (sz : Int32) (out : Nat → Int32) (l : List Nat), j + m = fr → m < f → Pt sz out l → l.length + m < 700 →
    ∃ sz' out', f_M_finish_95 f sz bs body out (nI fr) y5 y7 y8 (nI j) = f_M_finish_119 sz' bs body out' (nI fr) y5 y7 y8 ∧ Pt sz' out' (l ++ (B.take fr).drop j) := by
  intro m
  induction m with
  | zero =>
    intro j f sz out l h hf hP hl
    obtain ⟨f, rfl⟩ : ∃ j, f = j + 1 := ⟨f - 1, by omega⟩
    have : j = fr := by omega
    subst this
    refine ⟨sz, out, ?_, ?_⟩
    · show f_M_finish_95b _ _ _ _ _ _ _ _ _ _ = _
      unfold f_M_finish_95b
      rw [if_pos (Int32.le_refl _)]
    · rw [List.drop_eq_nil_of_le (by rw [List.length_take]; omega), List.append_nil]
      exact hP
  | succ m ih =>
    intro j f sz out l h hf hP hl
    obtain ⟨f, rfl⟩ : ∃ j, f = j + 1 := ⟨f - 1, by omega⟩
    obtain ⟨s1, o1, e1, h1⟩ := mwrite (b := B.getD j 0) hP (by omega) (hB j (by omega))
    obtain ⟨s2, o2, e2, h2⟩ := ih (j + 1) f s1 o1 (l ++ [B.getD j 0]) (by omega) (by omega) h1 (by rw [List.length_append, List.length_singleton]; omega)
    have hd : (B.take fr).drop j = B.getD j 0 :: (B.take fr).drop (j + 1) := by
      rw [List.drop_eq_getElem_cons (by rw [List.length_take]; omega), List.getElem_take]
      congr 1
      rw [List.getD_eq_getElem?_getD, List.getElem?_eq_getElem (by omega)]
      rfl
    rw [List.append_assoc, List.singleton_append, ← hd] at h2
    refine ⟨s2, o2, ?_, h2⟩
    show f_M_finish_95b _ _ _ _ _ _ _ _ _ _ = _
    unfold f_M_finish_95b
    rw [if_neg (nI_ge (by omega) (by omega)), ck_s (gin_nI (by omega) (by decide)), nI_clamp (by omega), hbody j (by omega), e1, bi2_s, bd_s, nI_1]
    exact e2
theorem fi122 {bs : Int32} {body : Nat → Int32} (y4 : Int32) (lf zr : Bool) {k : Nat} (hk : k ≤ 99) : ∀ (m j f : Nat) (sz : Int32) (out : Nat → Int32) (l : List Nat), j + m = k → m < f → Pt sz out l → l.length + m < 700 →
    ∃ sz' out', f_M_finish_122 f sz bs body out y4 (bz zr) (nI k) (bz lf) (nI j) = f_M_finish_151 sz' bs body out' y4 (nI k) (bz lf) ∧ Pt sz' out' (l ++ (if lf = false ∧ zr = true then List.replicate m 48 else [])) := by
  intro m
  induction m with
  | zero =>
    intro j f sz out l h hf hP hl
    obtain ⟨f, rfl⟩ : ∃ j, f = j + 1 := ⟨f - 1, by omega⟩
    have : j = k := by omega
    subst this
    refine ⟨sz, out, ?_, ?_⟩
    · show f_M_finish_122b _ _ _ _ _ _ _ _ _ _ = _
      unfold f_M_finish_122b
      rw [if_pos (Int32.le_refl _)]
    · rw [List.replicate_zero]
      split <;> (rw [List.append_nil]; exact hP)
  | succ m ih =>
    intro j f sz out l h hf hP hl
    obtain ⟨f, rfl⟩ : ∃ j, f = j + 1 := ⟨f - 1, by omega⟩
    show ∃ sz' out', f_M_finish_122b _ _ _ _ _ _ _ _ _ _ = _ ∧ _
    unfold f_M_finish_122b
    rw [if_neg (nI_ge (by omega) (by omega)), ite_c (bz_f _), ite_c (bz_f _)]
    by_cases c : lf = false ∧ zr = true
    · obtain ⟨s1, o1, e1, h1⟩ := mwrite (b := 48) hP (by omega) (by decide)
      obtain ⟨s2, o2, e2, h2⟩ := ih (j + 1) f s1 o1 (l ++ [48]) (by omega) (by omega) h1 (by rw [List.length_append, List.length_singleton]; omega)
      rw [if_pos c] at h2 ⊢
      rw [app_rep] at h2
      refine ⟨s2, o2, ?_, h2⟩
      rw [if_pos c.1, if_neg (by rw [c.2]; decide), show (48 : Int32) = nI 48 from rfl, e1, bi2_s, bd_s, nI_1]
      exact e2
    · rw [if_neg c, List.append_nil]
      refine ⟨sz, out, ?_, hP⟩
      by_cases d : lf = false
      · rw [if_pos d, if_pos (by cases zr <;> simp_all)]
      · rw [if_neg d]
theorem fi155 {bs : Int32} {body : Nat → Int32} {B : List Nat} (hB : By B) (hbody : Pt bs body B) (hBl : B.length < 700) (y7 y8 : Int32) : ∀ (m j f : Nat) (sz : Int32) (out : Nat → Int32) (l : List Nat), j + m = B.length → m < f → Pt sz out l → l.length + m < 700 →
    ∃ sz' out', f_M_finish_155 f sz bs body out y7 y8 (nI j) = f_M_finish_181 sz' bs body out' y7 y8 ∧ Pt sz' out' (l ++ B.drop j) := by
  intro m
  induction m with
  | zero =>
    intro j f sz out l h hf hP hl
    obtain ⟨f, rfl⟩ : ∃ j, f = j + 1 := ⟨f - 1, by omega⟩
    refine ⟨sz, out, ?_, ?_⟩
    · show f_M_finish_155b _ _ _ _ _ _ _ _ = _
      unfold f_M_finish_155b
      rw [hbody.1, if_pos (nI_le (by omega) (by omega))]
    · rw [List.drop_eq_nil_of_le (by omega), List.append_nil]
      exact hP
  | succ m ih =>
    intro j f sz out l h hf hP hl
    obtain ⟨f, rfl⟩ : ∃ j, f = j + 1 := ⟨f - 1, by omega⟩
    obtain ⟨s1, o1, e1, h1⟩ := mwrite (b := B.getD j 0) hP (by omega) (hB j (by omega))
    obtain ⟨s2, o2, e2, h2⟩ := ih (j + 1) f s1 o1 (l ++ [B.getD j 0]) (by omega) (by omega) h1 (by rw [List.length_append, List.length_singleton]; omega)
    have hd : B.drop j = B.getD j 0 :: B.drop (j + 1) := by
      rw [List.drop_eq_getElem_cons (by omega)]
      congr 1
      rw [List.getD_eq_getElem?_getD, List.getElem?_eq_getElem (by omega)]
      rfl
    rw [List.append_assoc, List.singleton_append, ← hd] at h2
    refine ⟨s2, o2, ?_, h2⟩
    show f_M_finish_155b _ _ _ _ _ _ _ _ = _
    unfold f_M_finish_155b
    rw [hbody.1, if_neg (nI_ge (by omega) (by omega)), ck_s (gin_nI (by omega) (by decide)), nI_clamp (by omega), hbody.2 j (by omega), e1, bi2_s, bd_s, nI_1, ← hbody.1]
    exact e2
theorem fi184 {bs : Int32} {body : Nat → Int32} (lf : Bool) {k : Nat} (hk : k ≤ 99) : ∀ (m j f : Nat) (sz : Int32) (out : Nat → Int32) (l : List Nat), j + m = k → m < f → Pt sz out l → l.length + m < 700 →
    ∃ sz' out', f_M_finish_184 f sz bs body out (nI k) (bz lf) (nI j) = some (sz', sz', out') ∧ Pt sz' out' (l ++ (if lf then List.replicate m 32 else [])) := by
  intro m
  induction m with
  | zero =>
    intro j f sz out l h hf hP hl
    obtain ⟨f, rfl⟩ : ∃ j, f = j + 1 := ⟨f - 1, by omega⟩
    have : j = k := by omega
    subst this
    refine ⟨sz, out, ?_, ?_⟩
    · show f_M_finish_184b _ _ _ _ _ _ _ _ = _
      unfold f_M_finish_184b
      rw [if_pos (Int32.le_refl _)]
    · rw [List.replicate_zero]
      split <;> (rw [List.append_nil]; exact hP)
  | succ m ih =>
    intro j f sz out l h hf hP hl
    obtain ⟨f, rfl⟩ : ∃ j, f = j + 1 := ⟨f - 1, by omega⟩
    show ∃ sz' out', f_M_finish_184b _ _ _ _ _ _ _ _ = _ ∧ _
    unfold f_M_finish_184b
    rw [if_neg (nI_ge (by omega) (by omega)), ite_c (bz_f _)]
    cases lf with
    | false =>
      rw [if_pos rfl, if_neg (by decide), List.append_nil]
      exact ⟨sz, out, rfl, hP⟩
    | true =>
      obtain ⟨s1, o1, e1, h1⟩ := mwrite (b := 32) hP (by omega) (by decide)
      obtain ⟨s2, o2, e2, h2⟩ := ih (j + 1) f s1 o1 (l ++ [32]) (by omega) (by omega) h1 (by rw [List.length_append, List.length_singleton]; omega)
      rw [if_pos rfl] at h2 ⊢
      rw [app_rep] at h2
      refine ⟨s2, o2, ?_, h2⟩
      rw [if_neg (by decide), show (32 : Int32) = nI 32 from rfl, e1, bi2_s, bd_s, nI_1]
      exact e2
theorem and1 : ∀ fl, fl < 32 → ((nI fl &&& (1 : Int32)) = (1 : Int32)) = (fl % 2 = 1) := by
  intro fl h
  have : ∀ fl, fl < 32 → decide ((nI fl &&& (1 : Int32)) = (1 : Int32)) = decide (fl % 2 = 1) := by decide +kernel
  exact propext (decide_eq_decide.mp (this fl h))
def sgl (c : Nat) : List Nat := if c = 0 then [] else [c]
theorem finish_eq {fl w : Nat} (hfl : fl < 32) (hw : w ≤ 99) {zf : Bool} {fr rs : List Nat} (h2 : By fr) (h3 : By rs) {sg : Nat} (hsg : sg < 128) (hl : (fr ++ rs).length ≤ 500) {bs : Int32} {body : Nat → Int32} (hP : Pt bs body (fr ++ rs)) (wr : Int32) (out : Nat → Int32) :
    ∃ sz' out', f_M_finish wr bs body out (nI fl) (nI w) (nI sg) (nI fr.length) (bz zf) = some (sz', sz', out') ∧ Pt sz' out' (fin' fl w zf (sgl sg) fr rs) := by
  have hB : By (fr ++ rs) := By_app h2 h3
  have hfr : fr.length ≤ (fr ++ rs).length := by rw [List.length_append]; omega
  have main : ∀ k, k ≤ 99 → k = w - (sgl sg ++ fr ++ rs).length → ∃ sz' out', f_M_finish_30 wr bs body out (nI fl) (nI sg) (nI fr.length) (bz zf) (nI k) = some (sz', sz', out') ∧ Pt sz' out' (fin' fl w zf (sgl sg) fr rs) := by
    intro k hk hk2
    have htot : (sgl sg ++ fr ++ rs).length = (sgl sg).length + fr.length + rs.length := by
      simp only [List.length_append]
    have go : ∀ lf : Bool, lf = decide (fl % 2 = 1) → ∃ sz' out', f_M_finish_44 wr bs body out (nI sg) (nI fr.length) (bz zf) (nI k) (bz lf) = some (sz', sz', out') ∧ Pt sz' out' (fin' fl w zf (sgl sg) fr rs) := by
      intro lf hlf
      unfold f_M_finish_44
      obtain ⟨s1, o1, e1, q1⟩ := fi54 (bs := bs) (body := body) (nI sg) (nI fr.length) lf zf hk k 0 fu 0 out [] (by omega) (by unfold fu; omega) (Pt_nil out) (by simp; omega)
      rw [List.nil_append] at q1
      generalize hA : (if lf = false ∧ zf = false then List.replicate k 32 else []) = A at q1
      have hAl : A.length ≤ k := by rw [← hA]; split <;> simp
      obtain ⟨s2, o2, e2, q2⟩ : ∃ s2 o2, f_M_finish_83 s1 bs body o1 (nI sg) (nI fr.length) (bz zf) (nI k) (bz lf) = f_M_finish_92 s2 bs body o2 (nI fr.length) (bz zf) (nI k) (bz lf) ∧ Pt s2 o2 (A ++ sgl sg) := by
        unfold f_M_finish_83 sgl
        rw [ite_c (nI_eq0 (by omega))]
        by_cases c : sg = 0
        · rw [if_pos c, if_pos c, List.append_nil]
          exact ⟨s1, o1, rfl, q1⟩
        · obtain ⟨s, o, e, q⟩ := mwrite (b := sg) q1 (by omega) hsg
          rw [if_neg c, if_neg c, e, bi2_s]
          exact ⟨s, o, rfl, q⟩
      have hsl : (sgl sg).length ≤ 1 := by unfold sgl; split <;> simp
      obtain ⟨s3, o3, e3, q3⟩ := fi95 (bs := bs) hB hP.2 (by omega) (bz zf) (nI k) (bz lf) hfr fr.length 0 fu s2 o2 _ (by omega) (by unfold fu; omega) q2 (by rw [List.length_append]; omega)
      rw [List.drop_zero, List.take_left] at q3
      obtain ⟨s4, o4, e4, q4⟩ := fi122 (bs := bs) (body := body) (nI fr.length) lf zf hk k 0 fu s3 o3 _ (by omega) (by unfold fu; omega) q3 (by rw [List.length_append, List.length_append]; omega)
      generalize hC : (if lf = false ∧ zf = true then List.replicate k 48 else []) = C at q4
      have hCl : C.length ≤ k := by rw [← hC]; split <;> simp
      rw [List.length_append] at hl
      obtain ⟨s5, o5, e5, q5⟩ := fi155 hB hP (by rw [List.length_append]; omega) (nI k) (bz lf) rs.length fr.length fu s4 o4 _ (by rw [List.length_append]) (by unfold fu; omega) q4 (by rw [List.length_append, List.length_append, List.length_append]; omega)
      rw [List.drop_left] at q5
      obtain ⟨s6, o6, e6, q6⟩ := fi184 (bs := bs) (body := body) lf hk k 0 fu s5 o5 _ (by omega) (by unfold fu; omega) q5 (by rw [List.length_append, List.length_append, List.length_append, List.length_append]; omega)
      refine ⟨s6, o6, ?_, ?_⟩
      · rw [show (0 : Int32) = nI 0 from rfl] at *
        rw [e1, e2]
        unfold f_M_finish_92
        rw [show (0 : Int32) = nI 0 from rfl, e3]
        unfold f_M_finish_119
        rw [show (0 : Int32) = nI 0 from rfl, e4]
        unfold f_M_finish_151
        rw [e5]
        unfold f_M_finish_181
        rw [show (0 : Int32) = nI 0 from rfl, e6]
      · unfold fin'
        rw [← hk2]
        rw [← hA, ← hC] at q6
        cases lf with
        | true =>
          have := of_decide_eq_true hlf.symm
          rw [if_pos this]
          rw [if_neg (by simp), if_neg (by simp), if_pos rfl, List.nil_append, List.append_nil] at q6
          exact q6
        | false =>
          have := of_decide_eq_false hlf.symm
          rw [if_neg this]
          cases zf with
          | true =>
            rw [if_neg (by simp), if_pos ⟨rfl, rfl⟩, if_neg (by decide), List.nil_append, List.append_nil] at q6
            rw [if_pos rfl]
            exact q6
          | false =>
            rw [if_pos ⟨rfl, rfl⟩, if_neg (by simp), if_neg (by decide), List.append_nil, List.append_nil] at q6
            rw [if_neg (by decide), ← List.append_assoc, ← List.append_assoc]
            exact q6
    unfold f_M_finish_30
    rw [ite_c (and1 fl hfl)]
    by_cases c : fl % 2 = 1
    · rw [if_pos c]
      exact go true (by rw [decide_eq_true c])
    · rw [if_neg c]
      exact go false (by rw [decide_eq_false c])
  have m13 : ∀ z, z = (sgl sg).length → ∃ sz' out', f_M_finish_13 wr bs body out (nI fl) (nI w) (nI sg) (nI fr.length) (bz zf) bs (nI z) = some (sz', sz', out') ∧ Pt sz' out' (fin' fl w zf (sgl sg) fr rs) := by
    intro z hz
    have hsl : (sgl sg).length ≤ 1 := by unfold sgl; split <;> simp
    have hlen : (sgl sg ++ fr ++ rs).length = (fr ++ rs).length + z := by
      rw [List.append_assoc, List.length_append, hz]
      omega
    unfold f_M_finish_13
    rw [bd_s, hP.1, nI_add, ite_c (propext (nI_leI (by omega) (by omega)))]
    rw [← hP.1]
    by_cases c : w ≤ (fr ++ rs).length + z
    · rw [if_pos c]
      exact main 0 (by omega) (by omega)
    · rw [if_neg c, pk_sub (by omega)]
      exact main _ (by omega) (by omega)
  unfold f_M_finish
  rw [ite_c (nI_eq0 (by omega))]
  by_cases c : sg = 0
  · rw [if_pos c]
    exact m13 0 (by unfold sgl; rw [if_pos c]; rfl)
  · rw [if_neg c]
    exact m13 1 (by unfold sgl; rw [if_neg c]; rfl)

/-! words: nan, inf, 0x, .0 -/
def tx (i : Nat) : List Nat := match i with
  | 2 => [110, 97, 110]
  | 3 => [78, 65, 78]
  | 4 => [105, 110, 102]
  | 5 => [73, 78, 70]
  | 6 => [48, 88]
  | 7 => [48, 120]
  | 8 => [46, 48]
  | _ => []
theorem tx_slen : ∀ i, i < 9 → 2 ≤ i → f_String_length i = some (nI (tx i).length) := by decide +kernel
theorem tx_char : ∀ i, i < 9 → 2 ≤ i → ∀ j, j < (tx i).length → f_String_charAt i (nI j) = some (nI ((tx i).getD j 0)) := by decide +kernel
theorem tx_len : ∀ i, i < 9 → (tx i).length ≤ 3 := by decide +kernel
theorem tx_b : ∀ i, i < 9 → ∀ j, j < (tx i).length → (tx i).getD j 0 < 128 := by decide +kernel
theorem tx_By {i : Nat} (h : i < 9) : By (tx i) := tx_b i h
theorem text2 {i : Nat} (hi : i < 9) (hi2 : 2 ≤ i) : ∀ (m k f : Nat) (sz : Int32) (a : Nat → Int32) (l : List Nat), k + m = (tx i).length → m < f → Pt sz a l → l.length + m ≤ 420 →
    ∃ sz' a', f_Page_putText_2 f sz a i (nI k) = some (sz', a') ∧ Pt sz' a' (l ++ (tx i).drop k) := by
  have hl3 := tx_len i hi
  intro m
  induction m with
  | zero =>
    intro k f sz a l h hf hP hl
    obtain ⟨f, rfl⟩ : ∃ j, f = j + 1 := ⟨f - 1, by omega⟩
    refine ⟨sz, a, ?_, by rw [List.drop_eq_nil_of_le (by omega), List.append_nil]; exact hP⟩
    show f_Page_putText_2b _ _ _ _ _ = _
    unfold f_Page_putText_2b
    rw [ck_s hi, tx_slen i hi hi2, bi1_s, if_pos (nI_le (by omega) (by omega))]
  | succ m ih =>
    intro k f sz a l h hf hP hl
    obtain ⟨f, rfl⟩ : ∃ j, f = j + 1 := ⟨f - 1, by omega⟩
    obtain ⟨s1, a1, e1, h1⟩ := cput (b := (tx i).getD k 0) hP (by omega) (tx_b i hi k (by omega))
    obtain ⟨s2, a2, e2, h2⟩ := ih (k + 1) f s1 a1 (l ++ [(tx i).getD k 0]) (by omega) (by omega) h1 (by rw [List.length_append, List.length_singleton]; omega)
    have hd : (tx i).drop k = (tx i).getD k 0 :: (tx i).drop (k + 1) := by
      rw [List.drop_eq_getElem_cons (by omega)]
      congr 1
      rw [List.getD_eq_getElem?_getD, List.getElem?_eq_getElem (by omega)]
      rfl
    rw [List.append_assoc, List.singleton_append, ← hd] at h2
    refine ⟨s2, a2, ?_, h2⟩
    show f_Page_putText_2b _ _ _ _ _ = _
    unfold f_Page_putText_2b
    rw [ck_s hi, tx_slen i hi hi2, bi1_s, if_neg (nI_ge (by omega) (by omega)), ck_s hi, tx_char i hi hi2 k (by omega), bi1_s, e1, bi2_s, bd_s, nI_1]
    exact e2
theorem text_eq {i : Nat} (hi : i < 9) (hi2 : 2 ≤ i) {sz : Int32} {a : Nat → Int32} {l : List Nat} (hP : Pt sz a l) (hl : l.length + 3 ≤ 420) :
    ∃ sz' a', f_Page_putText sz a i = some (sz', a') ∧ Pt sz' a' (l ++ tx i) := by
  have hl3 := tx_len i hi
  have := text2 hi hi2 (tx i).length 0 fu sz a l (by omega) (by unfold fu; omega) hP (by omega)
  rw [List.drop_zero] at this
  exact this
theorem fin_w (fl w : Nat) (s t : List Nat) : fin' fl w false [] [] (s ++ t) = fin' fl w false s [] t := by
  unfold fin'
  simp only [List.nil_append, List.append_nil]
  by_cases c : fl % 2 = 1
  · rw [if_pos c, if_pos c]
  · rw [if_neg c, if_neg c]
    rfl
theorem cword {lc : Nat} (hlc : lc < 65536) {fl w : Nat} (hfl : fl < 32) (hw : w ≤ 99) {i j : Nat} (hi : i < 9) (hi2 : 2 ≤ i) (hj : j < 9) (hj2 : 2 ≤ j) (neg : Bool) (pl : Int32) (prow : Nat → Int32) :
    ∃ sz' a', f_Writer_writeWord (nI lc) (nI fl) (nI w) pl prow i j (bz neg) = some (sz', a') ∧ Pt sz' a' (fin' fl w false (sgl (sgc fl neg)) [] (tx (if lc < 97 then j else i))) := by
  obtain ⟨s1, a1, e1, q1⟩ := csign hfl neg prow
  have hsl := sgl_len (sgc fl neg)
  have go : ∀ k, k < 9 → 2 ≤ k → ∃ sz' a', f_Writer_writeWord_28 (nI lc) (nI fl) (nI w) s1 a1 k = some (sz', a') ∧ Pt sz' a' (fin' fl w false (sgl (sgc fl neg)) [] (tx k)) := by
    intro k hk hk2
    have hl3 := tx_len k hk
    obtain ⟨s2, a2, e2, q2⟩ := text_eq hk hk2 q1 (by omega)
    obtain ⟨s3, a3, e3, q3⟩ := fill_eq hfl hw (zf := false) By_nil By_nil (By_app (sgl_By (sgc_lt fl neg)) (tx_By hk)) (by simp only [List.nil_append, List.length_append]; omega) (sg := []) (fr := []) q2 (st := 0) rfl
    rw [Bool.and_false, fin_w] at q3
    refine ⟨s3, a3, ?_, q3⟩
    unfold f_Writer_writeWord_28
    rw [e2, bi2_s, show f_Writer_fill (nI fl) (nI w) s2 a2 0 0 = some (s3, a3) from e3, bi2_s]
  unfold f_Writer_writeWord f_Page_clear
  rw [bi1_s, e1, bi2_s, great_eq hlc, bi1_s, ite_c (bz_f _)]
  by_cases g : lc < 97
  · rw [if_neg (by simp [g]), if_pos g]
    exact go j hj hj2
  · rw [if_pos (by simp [g]), if_neg g]
    exact go i hi hi2
theorem mthree {gr : Bool} {x y z : Nat} (hx : 32 ≤ x ∧ x < 128) (hy : 32 ≤ y ∧ y < 128) (hz : 32 ≤ z ∧ z < 128) (body : Nat → Int32) :
    ∃ sz' a', f_M_three 0 body (nI x) (nI y) (nI z) (bz gr) = some (sz', a') ∧ Pt sz' a' (if gr then [x - 32, y - 32, z - 32] else [x, y, z]) := by
  have go : ∀ d, d ≤ 32 → ∃ sz' a', f_M_three_11 0 body (nI x) (nI y) (nI z) (nI d) = some (sz', a') ∧ Pt sz' a' [x - d, y - d, z - d] := by
    intro d hd
    obtain ⟨s1, a1, e1, q1⟩ := mput (b := x - d) (Pt_nil body) (by decide) (by omega)
    obtain ⟨s2, a2, e2, q2⟩ := mput (b := y - d) q1 (by simp) (by omega)
    obtain ⟨s3, a3, e3, q3⟩ := mput (b := z - d) q2 (by simp) (by omega)
    refine ⟨s3, a3, ?_, q3⟩
    unfold f_M_three_11
    rw [pk_sub (by omega), pk_sub (by omega), pk_sub (by omega), e1, bi2_s, e2, bi2_s, e3, bi2_s]
  unfold f_M_three
  rw [ite_c (bz_f _)]
  cases gr
  · rw [if_pos rfl]
    exact go 0 (by decide)
  · rw [if_neg (by decide)]
    exact go 32 (by decide)

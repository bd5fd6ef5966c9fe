/-! what is written: rows of bytes as lists -/
def Pt (sz : Int32) (a : Nat → Int32) (l : List Nat) : Prop := sz = nI l.length ∧ ∀ i, i < l.length → a i = nI (l.getD i 0)
def By (l : List Nat) : Prop := ∀ i, i < l.length → l.getD i 0 < 128
theorem gA (l m : List Nat) (i : Nat) : (l ++ m).getD i 0 = if i < l.length then l.getD i 0 else m.getD (i - l.length) 0 := by
  rw [List.getD_eq_getElem?_getD, List.getD_eq_getElem?_getD, List.getD_eq_getElem?_getD, List.getElem?_append]
  split <;> rfl
theorem gR (b k i : Nat) (h : i < k) : (List.replicate k b).getD i 0 = b := by
  rw [List.getD_eq_getElem?_getD, List.getElem?_replicate, if_pos h]
  rfl
theorem gT (l : List Nat) (n i : Nat) (h : i < n) : (l.take n).getD i 0 = l.getD i 0 := by
  rw [List.getD_eq_getElem?_getD, List.getD_eq_getElem?_getD, List.getElem?_take, if_pos h]
theorem gD (l : List Nat) (n i : Nat) : (l.drop n).getD i 0 = l.getD (n + i) 0 := by
  rw [List.getD_eq_getElem?_getD, List.getD_eq_getElem?_getD, List.getElem?_drop]
theorem By_app {l m : List Nat} (h1 : By l) (h2 : By m) : By (l ++ m) := by
  intro i hi
  rw [gA]
  rw [List.length_append] at hi
  split
  · exact h1 i (by omega)
  · exact h2 _ (by omega)
theorem By_nil : By [] := fun i hi => absurd hi (by simp)
theorem By_one {b : Nat} (h : b < 128) : By [b] := by
  intro i hi
  have : i = 0 := by simpa using hi
  subst this
  exact h
theorem By_rep {b k : Nat} (h : b < 128) : By (List.replicate k b) := by
  intro i hi
  rw [List.length_replicate] at hi
  rw [gR b k i hi]
  exact h
theorem byte7 : ∀ b : Nat, b < 128 → ((nI b).toInt8.toInt32).toInt8.toInt32 = nI b := by decide +kernel
theorem Pt_app {sz : Int32} {a : Nat → Int32} {l : List Nat} {b : Nat} (h : Pt sz a l) : Pt (nI (l.length + 1)) (upd a l.length (nI b)) (l ++ [b]) := by
  refine ⟨by rw [List.length_append]; rfl, ?_⟩
  intro i hi
  rw [List.length_append, List.length_singleton] at hi
  unfold upd
  rw [gA]
  by_cases c : i = l.length
  · rw [if_pos c, if_neg (by omega), c, Nat.sub_self]
    rfl
  · rw [if_neg c, if_pos (by omega)]
    exact h.2 i (by omega)
theorem Pt_nil (a : Nat → Int32) : Pt 0 a [] := ⟨rfl, fun i hi => absurd hi (by simp)⟩
theorem cput {sz : Int32} {a : Nat → Int32} {l : List Nat} {b : Nat} (h : Pt sz a l) (hl : l.length < 420) (hb : b < 128) : ∃ sz' a', f_Page_put sz a (nI b) = some (sz', a') ∧ Pt sz' a' (l ++ [b]) := by
  refine ⟨_, _, ?_, Pt_app h⟩
  unfold f_Page_put
  rw [h.1, if_neg (nI_pos (by omega)), if_neg (show ¬ (420 : Int32) ≤ nI l.length from nI_ge (b := 420) hl (by decide)), ck_s (gin_nI hl (by decide)), bd_s, bd_s, nI_clamp (by omega), byte7 b hb, nI_1]
theorem mput {sz : Int32} {a : Nat → Int32} {l : List Nat} {b : Nat} (h : Pt sz a l) (hl : l.length < 700) (hb : b < 128) : ∃ sz' a', f_M_put sz a (nI b) = some (sz', a') ∧ Pt sz' a' (l ++ [b]) := by
  refine ⟨_, _, ?_, Pt_app h⟩
  unfold f_M_put
  rw [h.1, ck_s (gin_nI hl (by decide)), bd_s, bd_s, nI_clamp (by omega), byte7 b hb, nI_1]
theorem mwrite {sz : Int32} {a : Nat → Int32} {l : List Nat} {b : Nat} (h : Pt sz a l) (hl : l.length < 700) (hb : b < 128) : ∃ sz' a', f_M_write sz a (nI b) = some (sz', a') ∧ Pt sz' a' (l ++ [b]) := by
  refine ⟨_, _, ?_, Pt_app h⟩
  unfold f_M_write
  rw [h.1, ck_s (gin_nI hl (by decide)), bd_s, bd_s, nI_clamp (by omega), byte7 b hb, nI_1]
theorem rep_s (b k : Nat) : List.replicate (k + 1) b = b :: List.replicate k b := rfl
theorem app_rep (l : List Nat) (b k : Nat) : l ++ [b] ++ List.replicate k b = l ++ List.replicate (k + 1) b := by
  rw [List.append_assoc]
  rfl
theorem many2 {b : Nat} (hb : b < 128) {n : Nat} (hn : n < 1000000) : ∀ (m k f : Nat) (sz : Int32) (a : Nat → Int32) (l : List Nat), k + m = n → m < f → Pt sz a l → l.length + m ≤ 420 →
    ∃ sz' a', f_Page_putMany_2 f sz a (nI b) (nI n) (nI k) = some (sz', a') ∧ Pt sz' a' (l ++ List.replicate m b) := by
  intro m
  induction m with
  | zero =>
    intro k f sz a l h hf hP hl
    obtain ⟨f, rfl⟩ : ∃ j, f = j + 1 := ⟨f - 1, by omega⟩
    have : k = n := by omega
    subst this
    refine ⟨sz, a, ?_, by rw [List.replicate_zero, List.append_nil]; exact hP⟩
    show f_Page_putMany_2b _ _ _ _ _ _ = _
    unfold f_Page_putMany_2b
    rw [if_pos (Int32.le_refl _)]
  | succ m ih =>
    intro k f sz a l h hf hP hl
    obtain ⟨f, rfl⟩ : ∃ j, f = j + 1 := ⟨f - 1, by omega⟩
    obtain ⟨s1, a1, e1, h1⟩ := cput hP (by omega) hb
    obtain ⟨s2, a2, e2, h2⟩ := ih (k + 1) f s1 a1 (l ++ [b]) (by omega) (by omega) h1 (by rw [List.length_append, List.length_singleton]; omega)
    refine ⟨s2, a2, ?_, by rw [app_rep] at h2; exact h2⟩
    show f_Page_putMany_2b _ _ _ _ _ _ = _
    unfold f_Page_putMany_2b
    rw [if_neg (nI_ge (by omega) (by omega)), e1, bi2_s, bd_s, nI_1]
    exact e2
theorem many_eq {b : Nat} (hb : b < 128) {sz : Int32} {a : Nat → Int32} {l : List Nat} (hP : Pt sz a l) {n : Int} (hn : n < 1000000) (hn2 : -1000000 ≤ n) (hl : l.length + n.toNat ≤ 420) :
    ∃ sz' a', f_Page_putMany sz a (nI b) (iI n) = some (sz', a') ∧ Pt sz' a' (l ++ List.replicate n.toNat b) := by
  unfold f_Page_putMany
  by_cases c : 0 ≤ n
  · obtain ⟨k, rfl⟩ : ∃ k : Nat, n = k := ⟨n.toNat, by omega⟩
    rw [← iI_nI]
    exact many2 hb (by omega) k 0 fu sz a l (by omega) (by unfold fu; omega) hP (by omega)
  · rw [show n.toNat = 0 from by omega, List.replicate_zero, List.append_nil]
    refine ⟨sz, a, ?_, hP⟩
    show f_Page_putMany_2b _ _ _ _ _ _ = _
    unfold f_Page_putMany_2b
    rw [if_pos (by rw [iI_lek 0 (by decide) (by omega) (by omega) (by decide) (by decide)]; omega)]
/-- what insert makes -/
def ins (l : List Nat) (p b k : Nat) : List Nat := l.take p ++ List.replicate k b ++ l.drop p
theorem ins_len {l : List Nat} {p b k : Nat} (hp : p ≤ l.length) : (ins l p b k).length = l.length + k := by
  unfold ins
  rw [List.length_append, List.length_append, List.length_take, List.length_replicate, List.length_drop]
  omega
theorem ins_get {l : List Nat} {p b k : Nat} (hp : p ≤ l.length) {i : Nat} (hi : i < l.length + k) : (ins l p b k).getD i 0 = if i < p then l.getD i 0 else if i < p + k then b else l.getD (i - k) 0 := by
  unfold ins
  rw [gA, gA, List.length_append, List.length_take, List.length_replicate, Nat.min_eq_left hp]
  by_cases c : i < p
  · rw [if_pos (by omega), if_pos c, if_pos c, gT _ _ _ c]
  · rw [if_neg c, if_neg c]
    by_cases d : i < p + k
    · rw [if_pos d, if_pos d, gR _ _ _ (by omega)]
    · rw [if_neg d, if_neg d, gD]
      congr 1
      omega
theorem ins20 {l : List Nat} (hB : By l) {p b k : Nat} (hp : p ≤ l.length) (hb : b < 128) (hk : 0 < k) (hlk : l.length + k ≤ 420) : ∀ (t f : Nat) (a : Nat → Int32), t ≤ l.length + k → t < f → (∀ i, i < l.length + k → a i = nI (if t ≤ i then (ins l p b k).getD i 0 else (l ++ List.replicate k b).getD i 0)) →
    ∃ a', f_Page_insert_20 f (nI (l.length + k)) a (nI p) (nI b) (nI k) (nI l.length) (iI ((t : Int) - 1)) = some (nI (l.length + k), a') ∧ (∀ i, i < l.length + k → a' i = nI ((ins l p b k).getD i 0)) := by
  intro t
  induction t with
  | zero =>
    intro f a ht hf ha
    obtain ⟨f, rfl⟩ : ∃ j, f = j + 1 := ⟨f - 1, by omega⟩
    refine ⟨a, ?_, ?_⟩
    · show f_Page_insert_20b _ _ _ _ _ _ _ _ = _
      unfold f_Page_insert_20b
      rw [iI_nI p, if_pos (by rw [iI_lt (by omega) (by omega) (by omega) (by omega)]; omega)]
    · intro i hi
      rw [ha i hi, if_pos (by omega)]
  | succ t ih =>
    intro f a ht hf ha
    obtain ⟨f, rfl⟩ : ∃ j, f = j + 1 := ⟨f - 1, by omega⟩
    show ∃ a', f_Page_insert_20b _ _ _ _ _ _ _ _ = _ ∧ _
    unfold f_Page_insert_20b
    rw [show ((t + 1 : Nat) : Int) - 1 = (t : Int) from by omega, ← iI_nI, ite_c (propext (nI_ltI (by omega) (by omega)))]
    by_cases c : t < p
    · rw [if_pos c]
      refine ⟨a, rfl, ?_⟩
      intro i hi
      rw [ha i hi]
      by_cases d : t + 1 ≤ i
      · rw [if_pos d]
      · rw [if_neg d, gA, if_pos (by omega), ins_get hp hi, if_pos (by omega)]
    · have step : ∀ v, v < 128 → v = (ins l p b k).getD t 0 → ∃ a', f_Page_insert_76 (f_Page_insert_20 f) (nI (l.length + k)) a (nI p) (nI b) (nI k) (nI l.length) (nI t) (nI t) (nI v) = some (nI (l.length + k), a') ∧ (∀ i, i < l.length + k → a' i = nI ((ins l p b k).getD i 0)) := by
        intro v hv hv2
        unfold f_Page_insert_76
        rw [ck_s (gin_nI (by omega) (by decide)), bd_s, bd_s, nI_clamp (by omega), byte7 v hv, show nI t + (-1 : Int32) = iI ((t : Int) - 1) from by rw [show (-1 : Int32) = iI (-1) from by decide, iI_nI, iI_add]; congr 1]
        refine ih f _ (by omega) (by omega) ?_
        intro i hi
        unfold upd
        by_cases q : i = t
        · rw [if_pos q, if_pos (by omega), q, hv2]
        · rw [if_neg q, ha i hi]
          by_cases d : t + 1 ≤ i
          · rw [if_pos d, if_pos (by omega)]
          · rw [if_neg d, if_neg (by omega)]
      rw [if_neg c, if_neg (nI_pos (by omega)), if_neg (show ¬ (420 : Int32) ≤ nI t from nI_ge (b := 420) (by omega) (by decide)), bd_s, show nI t - nI k = iI ((t : Int) - k) from by rw [iI_nI, iI_nI, iI_sub], iI_nI p, ite_c (iI_lt (by omega) (by omega) (by omega) (by omega)), ← iI_nI p]
      by_cases d : (t : Int) - k < p
      · rw [if_pos d]
        exact step b hb (by rw [ins_get hp (by omega), if_neg c, if_pos (by omega)])
      · rw [if_neg d, iI_nI l.length, ite_c (iI_le (by omega) (by omega) (by omega) (by omega)), ← iI_nI l.length, if_neg (by omega)]
        have hat : f_Page_at (nI (l.length + k)) a (iI ((t : Int) - k)) = some (nI (l.getD (t - k) 0)) := by
          rw [show ((t : Int) - k) = ((t - k : Nat) : Int) from by omega, ← iI_nI]
          unfold f_Page_at
          rw [if_neg (nI_pos (by omega)), if_neg (nI_ge (by omega) (by omega)), if_pos (show nI (t - k) < (420 : Int32) from nI_lt (b := 420) (by omega) (by decide)), ck_s (gin_nI (by omega) (by decide)), nI_clamp (by omega), ha (t - k) (by omega), if_neg (by omega), gA, if_pos (by omega)]
        rw [hat, bi1_s]
        exact step _ (hB _ (by omega)) (by rw [ins_get hp (by omega), if_neg c, if_neg (by omega)])
theorem insert_eq {sz : Int32} {a : Nat → Int32} {l : List Nat} (hP : Pt sz a l) (hB : By l) {p b k : Nat} (hp : p ≤ l.length) (hb : b < 128) (hk : 0 < k) (hlk : l.length + k ≤ 420) :
    ∃ sz' a', f_Page_insert sz a (nI p) (nI b) (nI k) = some (sz', a') ∧ Pt sz' a' (ins l p b k) := by
  unfold f_Page_insert
  obtain ⟨s1, a1, e1, h1⟩ := many_eq hb hP (n := (k : Int)) (by omega) (by omega) (by omega)
  rw [← iI_nI, Int.toNat_natCast] at *
  have hl1 : (l ++ List.replicate k b).length = l.length + k := by rw [List.length_append, List.length_replicate]
  have hs1 : s1 = nI (l.length + k) := by rw [h1.1, hl1]
  obtain ⟨a2, e2, h2⟩ := ins20 hB hp hb hk hlk (l.length + k) fu a1 (Nat.le_refl _) (by unfold fu; omega) (by
    intro i hi
    rw [if_neg (by omega)]
    exact h1.2 i (by rw [hl1]; exact hi))
  refine ⟨nI (l.length + k), a2, ?_, by rw [ins_len hp], fun i hi => h2 i (by rw [ins_len hp] at hi; exact hi)⟩
  rw [e1, bi2_s, bd_s, hs1, hP.1, show nI (l.length + k) - (1 : Int32) = iI (((l.length + k : Nat) : Int) - 1) from by rw [iI_nI, show (1 : Int32) = iI 1 from by decide, iI_sub]]
  exact e2

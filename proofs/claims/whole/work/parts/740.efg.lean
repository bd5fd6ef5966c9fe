/-! forms e, f, g: class -/
def elt (lc : Nat) : Nat := if 97 ≤ lc then 101 else 69
theorem great_eq {lc : Nat} (h : lc < 65536) : f_Writer_isGreat (nI lc) = some (bz (decide (lc < 97))) := by
  unfold f_Writer_isGreat
  rw [ite_c (show ((97 : Int32) ≤ nI lc) = (97 ≤ lc) from propext (nI_leI (a := 97) (by decide) (by omega)))]
  by_cases c : 97 ≤ lc
  · rw [if_pos c, decide_eq_false (by omega)]; rfl
  · rw [if_neg c, decide_eq_true (by omega)]; rfl
def cE (R : Nat) (t : Int) (b : Nat) (al : Bool) (lt : Nat) (n : Nat) : List Nat := dn R t 1 ++ ppt b al ++ dn R (t - 1) b ++ [lt] ++ pw t n
theorem cpowerform {ex : Nat → Int32} {F L R : Nat} (hR : Rw ex R) (hT : Tr F L R) {t : Int} (ht : Tp R t) (htl : -1200 ≤ t) {c : Nat} (hc : Dc t.natAbs c) {fl : Nat} (hfl : fl < 32) {lc : Nat} (hlc : lc < 65536) {b : Nat} (hb : b ≤ 102) (vc : Int32) (dgs : Nat → Int32) {sz : Int32} {a : Nat → Int32} {l : List Nat} (hP : Pt sz a l) (hl : l.length ≤ 3) :
    ∃ c' dgs' sz' a', f_Writer_putPowerForm vc (nI lc) (nI fl) dgs (nI F) sz ex a (nI b) = some (c', dgs', sz', a') ∧ Pt sz' a' (l ++ cE R t b (decide (fl / 8 % 2 = 1)) (elt lc) (max 2 c)) := by
  have hr := Tp_range ht
  obtain ⟨t', ht', e0⟩ := topPlace_t hR hT
  have := Tp_uniq ht ht'
  subst this
  have hd := dgZ_lt R t
  obtain ⟨s1, a1, e1, q1⟩ := cput (b := 48 + dgZ R t) hP (by omega) (by omega)
  obtain ⟨s2, a2, e2, q2⟩ := cbehind hR hfl (p := t - 1) (b := b) (by omega) (by omega) (by omega) q1 (by rw [List.length_append, List.length_singleton]; omega)
  have hpl := ppt_len b (decide (fl / 8 % 2 = 1))
  have go : ∀ lt, lt = elt lc → ∃ c' dgs' sz' a', f_Writer_putPowerForm_52 vc (nI lc) (nI fl) dgs (nI F) s2 ex a2 (iI t) (nI lt) = some (c', dgs', sz', a') ∧ Pt sz' a' (l ++ cE R t b (decide (fl / 8 % 2 = 1)) (elt lc) (max 2 c)) := by
    intro lt hlt
    have h128 : lt < 128 := by rw [hlt]; unfold elt; split <;> decide
    obtain ⟨s3, a3, e3, q3⟩ := cput (b := lt) q2 (by simp only [List.length_append, dn_len, List.length_singleton]; omega) h128
    obtain ⟨c4, d4, s4, a4, e4, q4⟩ := cpower (t := t) (by omega) (by omega) hc (ls := 2) (by decide) vc dgs q3 (by simp only [List.length_append, dn_len, List.length_singleton]; omega)
    refine ⟨c4, d4, s4, a4, ?_, ?_⟩
    · unfold f_Writer_putPowerForm_52
      rw [e3, bi2_s, show (2 : Int32) = nI 2 from rfl, e4, bi4_s]
    · unfold cE
      rw [← hlt]
      simp only [List.append_assoc] at q4 ⊢
      exact q4
  unfold f_Writer_putPowerForm
  rw [e0, bi1_s, digit_Z hR (by omega) (by omega), bi1_s, add48, e1, bi2_s, show iI t - (1 : Int32) = iI (t - 1) from by rw [show (1 : Int32) = iI 1 from by decide, iI_sub], e2, bi2_s, great_eq hlc, bi1_s, ite_c (bz_f _)]
  by_cases g : lc < 97
  · rw [if_neg (by simp [g])]
    exact go 69 (by unfold elt; rw [if_neg (by omega)])
  · rw [if_pos (by simp [g])]
    exact go 101 (by unfold elt; rw [if_pos (by omega)])
/-- without the 0s at the end -/
def need (R : Nat) (p : Int) : Nat → Nat
  | 0 => 0
  | k + 1 => if dgZ R (p - k) = 0 then need R p k else k + 1
theorem need_le (R : Nat) (p : Int) : ∀ k, need R p k ≤ k := by
  intro k
  induction k with
  | zero => exact Nat.le_refl _
  | succ k ih =>
    unfold need
    split <;> omega
theorem need_zero (R : Nat) (p : Int) : ∀ k j, need R p k ≤ j → j < k → dgZ R (p - j) = 0 := by
  intro k
  induction k with
  | zero => intro j _ h; omega
  | succ k ih =>
    intro j h1 h2
    unfold need at h1
    by_cases c : dgZ R (p - k) = 0
    · rw [if_pos c] at h1
      by_cases q : j = k
      · rw [q]; exact c
      · exact ih j h1 (by omega)
    · rw [if_neg c] at h1
      omega
theorem cneeded {ex : Nat → Int32} {R : Nat} (hR : Rw ex R) {fl : Nat} (hfl : fl < 32) {p : Int} (hp2 : p < 324) : ∀ (b f : Nat), -1548 ≤ p - b → b < 1000 → b < f →
    f_Writer_needed_2 f (nI fl) ex (iI p) (nI b) = some (nI (if decide (fl / 8 % 2 = 1) then b else need R p b)) := by
  intro b
  induction b with
  | zero =>
    intro f hp hb hf
    obtain ⟨f, rfl⟩ : ∃ j, f = j + 1 := ⟨f - 1, by omega⟩
    show f_Writer_needed_2b _ _ _ _ _ = _
    unfold f_Writer_needed_2b
    rw [if_pos (by decide)]
    split <;> rfl
  | succ b ih =>
    intro f hp hb hf
    obtain ⟨f, rfl⟩ : ∃ j, f = j + 1 := ⟨f - 1, by omega⟩
    have hd := dgZ_lt R (p - b)
    show f_Writer_needed_2b _ _ _ _ _ = _
    unfold f_Writer_needed_2b
    rw [if_neg (nI_nle (by omega) (by omega)), has8 fl hfl, bi1_s, ite_c (bz_f _)]
    by_cases c : fl / 8 % 2 = 1
    · rw [if_neg (by simp [c]), if_pos (decide_eq_true c)]
    · rw [if_pos (by simp [c]), if_neg (by simp [c]), show iI p - nI (b + 1) + (1 : Int32) = iI (p - b) from by rw [iI_nI, show (1 : Int32) = iI 1 from by decide, iI_sub, iI_add]; congr 1; omega, digit_Z hR (by omega) (by omega), bi1_s, ite_c (nI_eq0 (by omega))]
      unfold need
      by_cases d : dgZ R (p - b) = 0
      · rw [if_pos d, if_pos d, bd_s, show nI (b + 1) + (-1 : Int32) = nI b from by rw [sub_one _ (by omega), iI_nI]; congr 1; omega, ih f (by omega) (by omega) (by omega), if_neg (by simp [c])]
      · rw [if_neg d, if_neg d]
/-! the reference -/
theorem mpoint {sz : Int32} {a : Nat → Int32} {l : List Nat} (hP : Pt sz a l) (hl : l.length < 700) {b : Nat} (hb : b < 1000) (al : Bool) :
    ∃ sz' a', f_M_putPoint sz a (nI b) (bz al) = some (sz', a') ∧ Pt sz' a' (l ++ ppt b al) := by
  unfold f_M_putPoint f_M_putPoint_8
  obtain ⟨s1, a1, e1, h1⟩ := mput (b := 46) hP hl (by decide)
  rw [show (46 : Int32) = nI 46 from rfl, e1, bi2_s, ite_c (bz_f _)]
  unfold ppt
  by_cases c : 0 < b
  · rw [if_pos (show (0 : Int32) < nI b from nI_lt (a := 0) c (by omega)), if_pos (Or.inl c)]
    exact ⟨s1, a1, rfl, h1⟩
  · have : b = 0 := by omega
    subst this
    rw [if_neg (by decide)]
    cases al
    · rw [if_pos rfl, if_neg (by simp), List.append_nil]
      exact ⟨sz, a, rfl, hP⟩
    · rw [if_neg (by decide), if_pos (Or.inr rfl)]
      exact ⟨s1, a1, rfl, h1⟩
theorem mfix112 {R : Nat} {rl : Int32} {rp : Int} {rd : Nat → Int32} (hRt : Rt R rl rp rd) (vl vp rpI : Int32) (ex : Nat → Int32) {w s : Int} {b : Nat} (hws : -2000 ≤ w + s) (hws2 : w + s ≤ 2000) (hb : b ≤ 1000) : ∀ (m k f : Nat) (sz : Int32) (a : Nat → Int32) (l : List Nat), k + m = b → m < f → Pt sz a (l ++ dn R (rp - 1 - (w + s)) k) → l.length + b < 700 →
    ∃ sz' a', f_M_fixed_112 f vl vp rl rpI sz a ex rd (nI b) (iI w) (iI s) (nI k) = some (rl, rpI, sz', a', rd) ∧ Pt sz' a' (l ++ dn R (rp - 1 - (w + s)) b) := by
  intro m
  induction m with
  | zero =>
    intro k f sz a l h hf hP hl
    obtain ⟨f, rfl⟩ : ∃ j, f = j + 1 := ⟨f - 1, by omega⟩
    have : k = b := by omega
    subst this
    refine ⟨sz, a, ?_, hP⟩
    show f_M_fixed_112b _ _ _ _ _ _ _ _ _ _ _ _ _ = _
    unfold f_M_fixed_112b
    rw [if_pos (Int32.le_refl _)]
  | succ m ih =>
    intro k f sz a l h hf hP hl
    obtain ⟨f, rfl⟩ : ∃ j, f = j + 1 := ⟨f - 1, by omega⟩
    have hd := dgZ_lt R (rp - 1 - (w + s) - k)
    obtain ⟨s1, a1, e1, h1⟩ := mput (b := 48 + dgZ R (rp - 1 - (w + s) - k)) hP (by rw [List.length_append, dn_len]; omega) (by omega)
    rw [List.append_assoc, dn_succ] at h1
    obtain ⟨s2, a2, e2, h2⟩ := ih (k + 1) f s1 a1 l (by omega) (by omega) h1 hl
    refine ⟨s2, a2, ?_, h2⟩
    show f_M_fixed_112b _ _ _ _ _ _ _ _ _ _ _ _ _ = _
    unfold f_M_fixed_112b
    rw [if_neg (nI_ge (by omega) (by omega)), show iI w + iI s + nI k = iI (w + s + k) from by rw [iI_nI, iI_add, iI_add], hRt _ (by omega) (by omega), bi1_s, show rp - 1 - (w + s + (k : Int)) = rp - 1 - (w + s) - k from by omega, add48, e1, bi2_s, bd_s, nI_1]
    exact e2
theorem mfix75 {R : Nat} {rl : Int32} {rp : Int} {rd : Nat → Int32} (hRt : Rt R rl rp rd) (vl vp rpI b2 b1 : Int32) (ex : Nat → Int32) {w : Nat} {s : Int} (hs : -2000 ≤ s) (hs2 : s ≤ 2000) (hw : w ≤ 330) : ∀ (m k f : Nat) (sz : Int32) (a : Nat → Int32) (l : List Nat), k + m = w → m < f → Pt sz a (l ++ dn R (rp - 1 - s) k) → l.length + w < 700 →
    ∃ sz' a', f_M_fixed_75 f vl vp rl rpI sz a ex rd b1 b2 (nI w) (iI s) (nI k) = f_M_fixed_103 vl vp rl rpI sz' a' ex rd b1 b2 (nI w) (iI s) ∧ Pt sz' a' (l ++ dn R (rp - 1 - s) w) := by
  intro m
  induction m with
  | zero =>
    intro k f sz a l h hf hP hl
    obtain ⟨f, rfl⟩ : ∃ j, f = j + 1 := ⟨f - 1, by omega⟩
    have : k = w := by omega
    subst this
    refine ⟨sz, a, ?_, hP⟩
    show f_M_fixed_75b _ _ _ _ _ _ _ _ _ _ _ _ _ _ = _
    unfold f_M_fixed_75b
    rw [if_pos (Int32.le_refl _)]
  | succ m ih =>
    intro k f sz a l h hf hP hl
    obtain ⟨f, rfl⟩ : ∃ j, f = j + 1 := ⟨f - 1, by omega⟩
    have hd := dgZ_lt R (rp - 1 - s - k)
    obtain ⟨s1, a1, e1, h1⟩ := mput (b := 48 + dgZ R (rp - 1 - s - k)) hP (by rw [List.length_append, dn_len]; omega) (by omega)
    rw [List.append_assoc, dn_succ] at h1
    obtain ⟨s2, a2, e2, h2⟩ := ih (k + 1) f s1 a1 l (by omega) (by omega) h1 hl
    refine ⟨s2, a2, ?_, h2⟩
    show f_M_fixed_75b _ _ _ _ _ _ _ _ _ _ _ _ _ _ = _
    unfold f_M_fixed_75b
    rw [if_neg (nI_ge (by omega) (by omega)), show nI k + iI s = iI (k + s) from by rw [iI_nI, iI_add], hRt _ (by omega) (by omega), bi1_s, show rp - 1 - ((k : Int) + s) = rp - 1 - s - k from by omega, add48, e1, bi2_s, bd_s, nI_1]
    exact e2
theorem Xp_L0 {V : Nat} {ex : Nat → Int32} {L : Nat} {pt : Int} (h : Xp V ex L pt) : L = 0 ↔ V = 0 := by
  obtain ⟨-, -, -, W, z, hV, -, hW, -, hW1⟩ := h
  constructor
  · intro q
    rw [q, Nat.pow_zero] at hW
    rw [hV, Nat.lt_one_iff.mp hW, Nat.zero_mul]
  · intro q
    rcases hW1 with w | w
    · exact w
    · have h1 := ten_pos (L - 1)
      have h2 := ten_pos z
      have : W * 10 ^ z ≠ 0 := Nat.mul_ne_zero (by omega) (by omega)
      exact absurd (hV ▸ q) this
theorem rdE_0 (E : Nat) : rdE 0 E = 0 := rdE_dvd (Nat.dvd_zero _)
theorem Tp_of {R : Nat} {rp : Int} (h1 : R < 10 ^ (1548 + rp).toNat) (h2 : 10 ^ (1547 + rp).toNat ≤ R) (h3 : -1547 ≤ rp) (h4 : rp ≤ 324) : Tp R (rp - 1) := by
  have := ten_pos (1547 + rp).toNat
  refine Or.inr ⟨by omega, by omega, by omega, ?_, ?_⟩
  · rw [show (rp - 1 + 1548).toNat = (1547 + rp).toNat from by omega]; exact h2
  · rw [show (rp - 1 + 1549).toNat = (1548 + rp).toNat from by omega]; exact h1
theorem mfixed {V L : Nat} {ex : Nat → Int32} {pt : Int} (hX : Xp V ex L pt) (hpt : pt ≤ 310) (hpt2 : -1200 ≤ pt) {b : Nat} (hb : b ≤ 102) (al : Bool) {t : Int} (ht : Tp (rdE V (1548 - b)) t) (rl0 rp0 : Int32) (rd : Nat → Int32) {sz : Int32} {a : Nat → Int32} {l : List Nat} (hP : Pt sz a l) (hl : l.length ≤ 100) :
    ∃ (rl : Int32) (rp : Int32) (rd' : Nat → Int32) (sz' : Int32) (a' : Nat → Int32), f_M_fixed (nI L) (iI pt) rl0 rp0 sz a ex rd (nI b) (bz al) = some (rl, rp, sz', a', rd') ∧ Pt sz' a' (l ++ cF (rdE V (1548 - b)) t b al) := by
  have hL := hX.1
  have fin : ∀ (R : Nat) (rl : Int32) (rp : Int) (rd' : Nat → Int32), R = rdE V (1548 - b) → Rt R rl rp rd' → ∀ (w : Nat) (s : Int), -2000 ≤ s → s ≤ 1600 → w ≤ 330 → dn R (rp - 1 - s) w = dn R (max 0 t) ((max 0 t).toNat + 1) → dn R (rp - 1 - (w + s)) b = dn R (-1) b →
      ∃ (rl2 : Int32) (rp2 : Int32) (rd2 : Nat → Int32) (sz' : Int32) (a' : Nat → Int32), f_M_fixed_70 (nI L) (iI pt) rl (iI rp) sz a ex rd' (nI b) (bz al) (nI w) (iI s) = some (rl2, rp2, sz', a', rd2) ∧ Pt sz' a' (l ++ cF (rdE V (1548 - b)) t b al) := by
    intro R rl rp rd' hR hRt w s hs1 hs2 hw h1 h2
    obtain ⟨s1, a1, e1, q1⟩ := mfix75 hRt (nI L) (iI pt) (iI rp) (bz al) (nI b) ex hs1 (by omega) hw w 0 fu sz a l (by omega) (by unfold fu; omega) (by
      show Pt sz a (l ++ [])
      rw [List.append_nil]; exact hP) (by omega)
    obtain ⟨s2, a2, e2, q2⟩ := mpoint q1 (by rw [List.length_append, dn_len]; omega) (b := b) (by omega) al
    have hpl := ppt_len b al
    obtain ⟨s3, a3, e3, q3⟩ := mfix112 hRt (nI L) (iI pt) (iI rp) ex (w := w) (s := s) (by omega) (by omega) (b := b) (by omega) b 0 fu s2 a2 _ (by omega) (by unfold fu; omega) (by
      show Pt s2 a2 (_ ++ [])
      rw [List.append_nil]; exact q2) (by simp only [List.length_append, dn_len]; omega)
    refine ⟨rl, iI rp, rd', s3, a3, ?_, ?_⟩
    · unfold f_M_fixed_70
      rw [show (0 : Int32) = nI 0 from rfl, e1]
      unfold f_M_fixed_103
      rw [e2, bi2_s, iI_nI w, show (0 : Int32) = nI 0 from rfl]
      exact e3
    · unfold cF
      rw [h1, h2] at q3
      rw [← hR]
      simp only [List.append_assoc] at q3 ⊢
      exact q3
  by_cases c : L = 0
  · have hV := (Xp_L0 hX).mp c
    obtain ⟨rl, rp, rd', e1, hRt, -, -, hrp1, hrp2⟩ := roundTo_V hX (n := 0) (by omega) (by omega) (Er := (1548 + pt).toNat) (by omega) rl0 rp0 rd
    have hR0 : rdE V (1548 - b) = 0 := by rw [hV, rdE_0]
    have hR1 : rdE V (1548 + pt).toNat = 0 := by rw [hV, rdE_0]
    rw [hR1] at hRt
    have ht0 : t = 0 := by
      rw [hR0] at ht
      exact Tp_uniq ht (Or.inl ⟨rfl, rfl⟩)
    obtain ⟨rl2, rp2, rd2, s2, a2, e2, q2⟩ := fin 0 rl rp rd' hR0.symm hRt 1 (rp - 1) (by omega) (by omega) (by omega) (by
      rw [ht0]
      exact dn_zero 1 _ _) (dn_zero b _ _)
    refine ⟨rl2, rp2, rd2, s2, a2, ?_, q2⟩
    unfold f_M_fixed f_M_fixed_18 f_M_fixed_36 f_M_fixed_44 f_M_fixed_60
    rw [if_pos (by rw [c]; rfl), show (0 : Int32) = iI 0 from by decide, e1, bi3_s, if_pos (by rw [c]; decide), if_pos (by rw [c]; decide), show iI rp - (1 : Int32) = iI (rp - 1) from by rw [show (1 : Int32) = iI 1 from by decide, iI_sub]]
    exact e2
  · have hV : V ≠ 0 := fun q => c ((Xp_L0 hX).mpr q)
    obtain ⟨rl, rp, rd', e1, hRt, hR1, hR2, hrp1, hrp2⟩ := roundTo_V hX (n := pt + b) (by omega) (by omega) (Er := 1548 - b) (by omega) rl0 rp0 rd
    unfold f_M_fixed f_M_fixed_18 f_M_fixed_36 f_M_fixed_44 f_M_fixed_60
    have hc0 : ¬ nI L = 0 := nI_ne0 (by omega) (by omega)
    rw [if_neg hc0, show iI pt + nI b = iI (pt + b) from by rw [iI_nI, iI_add], e1, bi3_s, if_neg hc0, ite_c (iI_kle 1 (by decide) (by omega) (by omega) (by decide) (by decide)), if_neg hc0, if_neg hc0, ite_c (iI_kle 1 (by decide) (by omega) (by omega) (by decide) (by decide))]
    by_cases g : 1 ≤ rp
    · have htp := Tp_of hR1 (hR2 (by omega) hV) (by omega) (by omega)
      have := Tp_uniq ht htp
      subst this
      obtain ⟨k, hk⟩ : ∃ k : Nat, rp = k := ⟨_, (Int.toNat_of_nonneg (by omega)).symm⟩
      obtain ⟨rl2, rp2, rd2, s2, a2, e2, q2⟩ := fin _ rl rp rd' rfl hRt k 0 (by omega) (by omega) (by omega) (by
        rw [show rp - 1 - 0 = max 0 (rp - 1) from by omega, show (max 0 (rp - 1)).toNat + 1 = k from by omega]) (by
        rw [show rp - 1 - ((k : Int) + 0) = -1 from by omega])
      refine ⟨rl2, rp2, rd2, s2, a2, ?_, q2⟩
      rw [if_pos g, if_pos g]
      rw [hk, ← iI_nI] at e2 ⊢
      rw [show (0 : Int32) = iI 0 from by decide]
      exact e2
    · have ht0 : max 0 t = 0 := by
        rcases ht with ⟨-, h⟩ | ⟨-, -, -, h, -⟩
        · omega
        · have : 10 ^ (t + 1548).toNat < 10 ^ (1548 + rp).toNat := by omega
          have := (Nat.pow_lt_pow_iff_right (show 1 < 10 by decide)).mp this
          omega
      obtain ⟨rl2, rp2, rd2, s2, a2, e2, q2⟩ := fin _ rl rp rd' rfl hRt 1 (rp - 1) (by omega) (by omega) (by omega) (by
        rw [ht0, show rp - 1 - (rp - 1) = 0 from by omega]
        rfl) (by
        rw [show rp - 1 - (((1 : Nat) : Int) + (rp - 1)) = -1 from by omega])
      refine ⟨rl2, rp2, rd2, s2, a2, ?_, q2⟩
      rw [if_neg g, if_neg (by rw [iI_kle 1 (by decide) (by omega) (by omega) (by decide) (by decide)]; exact g), show iI rp - (1 : Int32) = iI (rp - 1) from by rw [show (1 : Int32) = iI 1 from by decide, iI_sub]]
      exact e2

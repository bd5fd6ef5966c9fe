/-! the small calls: type, whole, special, written -/
theorem byte_same (y : Int64) (j : Nat) (hj : j < 8) : (((lus y (iI ((8 * j : Nat) : Int))).toInt32 &&& 255).toInt8.toInt32).toInt8.toInt32 = (((lsr y (iI ((8 * j : Nat) : Int))).toInt32).toInt8.toInt32).toInt8.toInt32 := by
  have e1 : (lus y (iI ((8 * j : Nat) : Int))).toInt8 = (lsr y (iI ((8 * j : Nat) : Int))).toInt8 := by
    apply Int8.toBitVec_inj.mp
    rw [Int64.toBitVec_toInt8, Int64.toBitVec_toInt8]
    unfold lus lsr
    show ((y.toUInt64 >>> ((iI ((8 * j : Nat) : Int)).toInt64.toUInt64 &&& Int64.toUInt64 63)).toBitVec).signExtend 8 = _
    rw [UInt64.toBitVec_shiftRight, BitVec.ushiftRight_eq', sh6u (8 * j) (by omega), Int64.toBitVec_shiftRight, BitVec.sshiftRight_eq', sh6 (8 * j) (by omega)]
    rw [BitVec.signExtend_eq_setWidth_of_le _ (by decide), BitVec.signExtend_eq_setWidth_of_le _ (by decide)]
    apply BitVec.eq_of_getLsbD_eq
    intro i hi
    rw [BitVec.getLsbD_setWidth, BitVec.getLsbD_setWidth, BitVec.getLsbD_ushiftRight, BitVec.getLsbD_sshiftRight]
    have h1 : 8 * j + i < 64 := by omega
    have h2 : i < 64 := by omega
    simp [h1, h2, hi]
  have e2 : ((lus y (iI ((8 * j : Nat) : Int))).toInt32 &&& 255).toInt8 = (lus y (iI ((8 * j : Nat) : Int))).toInt8 := by
    rw [Int32.toInt8_and, Int64.toInt8_toInt32]
    have : (255 : Int32).toInt8 = -1 := by decide
    rw [this, Int8.and_neg_one]
  rw [e2, e1, Int64.toInt8_toInt32]
theorem gin_nI {n N : Nat} (h : n < N) (hN : N < 2147483648) : gin (nI n) N := nI_in h (by omega)
theorem tape_add {n : Nat} (a : Nat → Int32) (p : Int32) (hn : n < 1200) : f_Tape_add (nI n) a p = some (nI (n + 1), upd a n ((p.toInt8.toInt32).toInt8.toInt32)) := by
  unfold f_Tape_add
  rw [if_neg (nI_pos (by omega)), if_neg (show ¬ (1200 : Int32) ≤ nI n from nI_ge hn (by decide))]
  unfold ck
  rw [if_pos (gin_nI hn (by decide))]
  unfold bd
  rw [nI_clamp (by omega), nI_1]
theorem type_loop (y : Int64) : ∀ (j n f1 f2 : Nat) (ac am : Nat → Int32), j ≤ 8 → n + j ≤ 1200 → j < f1 → j < f2 → (∀ i, i < n → ac i = am i) →
    ∃ ac' am' : Nat → Int32, f_N_type_32 f1 (nI n) ac y (iI ((j : Int) - 1)) = some (nI (n + j), nI (n + j), ac') ∧ f_M_type_33 f2 (nI n) am y (iI ((j : Int) - 1)) = some (nI (n + j), nI (n + j), am') ∧ ∀ i, i < n + j → ac' i = am' i := by
  intro j
  induction j with
  | zero =>
    intro n f1 f2 ac am _ hn h1 h2 hr
    obtain ⟨f1, rfl⟩ : ∃ k, f1 = k + 1 := ⟨f1 - 1, by omega⟩
    obtain ⟨f2, rfl⟩ : ∃ k, f2 = k + 1 := ⟨f2 - 1, by omega⟩
    refine ⟨ac, am, ?_, ?_, hr⟩
    · show f_N_type_32b _ _ _ _ _ = _
      unfold f_N_type_32b
      rw [if_pos (by decide)]
      rfl
    · show f_M_type_33b _ _ _ _ _ = _
      unfold f_M_type_33b
      rw [if_pos (by decide)]
      rfl
  | succ j ih =>
    intro n f1 f2 ac am hj hn h1 h2 hr
    obtain ⟨f1, rfl⟩ : ∃ k, f1 = k + 1 := ⟨f1 - 1, by omega⟩
    obtain ⟨f2, rfl⟩ : ∃ k, f2 = k + 1 := ⟨f2 - 1, by omega⟩
    have e1 : iI (((j + 1 : Nat) : Int) - 1) = nI j := by rw [iI_nI]; congr 1; omega
    have e2 : (8 : Int32) * nI j = iI ((8 * j : Nat) : Int) := by rw [← iI_nI]; exact pk_mul 8 j
    have e3 : nI j + (-1 : Int32) = iI ((j : Int) - 1) := by
      rw [iI_nI, show (-1 : Int32) = iI (-1) from by decide, iI_add]; rfl
    obtain ⟨b, hb⟩ : ∃ b : Int32, b = (((lsr y (iI ((8 * j : Nat) : Int))).toInt32).toInt8.toInt32).toInt8.toInt32 := ⟨_, rfl⟩
    obtain ⟨ac', am', g1, g2, g3⟩ := ih (n + 1) f1 f2 (upd ac n b) (upd am n b) (by omega) (by omega) (by omega) (by omega) (by
      intro i hi
      by_cases hin : i = n
      · subst hin; rw [pk_us, pk_us]
      · rw [pk_un hin, pk_un hin]; exact hr i (by omega))
    have e4 : n + 1 + j = n + (j + 1) := by omega
    rw [e4] at g1 g2 g3
    refine ⟨ac', am', ?_, ?_, g3⟩
    · show f_N_type_32b _ _ _ _ _ = _
      unfold f_N_type_32b
      rw [e1, if_neg (nI_pos (by omega)), e2, tape_add _ _ (by omega), byte_same y j (by omega), ← hb]
      unfold bi2 bd
      rw [e3]
      exact g1
    · show f_M_type_33b _ _ _ _ _ = _
      unfold f_M_type_33b
      rw [e1, if_neg (nI_pos (by omega)), e2, ← hb]
      unfold ck bd
      rw [if_pos (gin_nI (by omega) (by decide)), nI_clamp (by omega), nI_1, e3]
      exact g2
/-- type answers alike, and the tapes stay alike -/
theorem type_same {n : Nat} {ac am : Nat → Int32} (hn : n ≤ 1200) (hr : ∀ i, i < n → ac i = am i) (y : Int64) (p : Int32) :
    ∃ (r : Int32) (n' : Nat) (ac' am' : Nat → Int32), f_N_type (nI n) ac y p = some (r, nI n', ac') ∧ f_M_type (nI n) am y p = some (r, nI n', am') ∧ n' ≤ 1200 ∧ ∀ i, i < n' → ac' i = am' i := by
  unfold f_N_type f_M_type
  by_cases c1 : p < 1
  · rw [if_pos c1, if_pos c1]
    exact ⟨-1, n, ac, am, rfl, rfl, hn, hr⟩
  · rw [if_neg c1, if_neg c1]
    by_cases c2 : p ≤ 8
    · rw [if_pos c2, if_pos c2]
      obtain ⟨j, hj, hp⟩ := nI_of2 (n := 8) (M := 8) (by decide) (fun h => c1 (by
        rw [Int32.lt_iff_toInt_lt] at h ⊢
        have a : (0 : Int32).toInt = 0 := by decide
        have b : (1 : Int32).toInt = 1 := by decide
        omega)) c2
      have hj1 : 1 ≤ j := by
        rcases Nat.lt_or_ge j 1 with q | q
        · exact absurd (by rw [hp, show j = 0 from by omega]; decide) c1
        · exact q
      subst hp
      have e0 : f_Tape_hasRoomFor (nI n) (nI j) = some (if n + j ≤ 1200 then 1 else 0) := by
        unfold f_Tape_hasRoomFor
        rw [show (1200 : Int32) - nI n = nI (1200 - n) from pk_sub hn]
        by_cases q : n + j ≤ 1200
        · rw [if_neg (nI_nlt (by omega) (by omega)), if_pos q]
        · rw [if_pos (nI_lt (by omega) (by omega)), if_neg q]
      have e1 : nI j - (1 : Int32) = iI ((j : Int) - 1) := by
        rw [iI_nI, show (1 : Int32) = iI 1 from by decide, iI_sub]
      rw [e0]
      unfold bi1 bd
      by_cases q : n + j ≤ 1200
      · rw [if_pos q, nI_add, if_pos (show nI (n + j) ≤ (1200 : Int32) from nI_le q (by decide)), e1]
        obtain ⟨ac', am', g1, g2, g3⟩ := type_loop y j n fu fu ac am hj q (by unfold fu; omega) (by unfold fu; omega) hr
        exact ⟨nI (n + j), n + j, ac', am', g1, g2, q, g3⟩
      · rw [if_neg q, nI_add, if_neg (show ¬ nI (n + j) ≤ (1200 : Int32) from nI_ge (a := 1200) (by omega) (by omega))]
        exact ⟨-3, n, ac, am, rfl, rfl, hn, hr⟩
    · rw [if_neg c2, if_neg c2]
      exact ⟨-1, n, ac, am, rfl, rfl, hn, hr⟩
theorem set_plain (k : Int32) (hk : ¬ k = 2) (vk : Int32) (vn : Int64) (ve : Int32) (m : Int64) : f_M_set vk vn ve k m 0 = some (k, k, m, 0) := by
  unfold f_M_set f_M_set_23
  have h : f_M_set_26 fu k m 0 k = some (k, k, m, 0) := by
    show f_M_set_26b _ _ _ _ _ = _
    unfold f_M_set_26b
    rw [if_neg hk]
  by_cases c : m = 0
  · rw [if_pos c]; exact h
  · rw [if_neg c]; exact h
theorem whole_same (ck1 : Int32) (cn1 : Int64) (ce1 : Int32) (mk1 : Int32) (mn1 : Int64) (me1 : Int32) (v : Int64) : f_N_whole ck1 cn1 ce1 v = some (1, v, 0) ∧ f_M_whole mk1 mn1 me1 v = some (1, v, 0) := by
  constructor
  · rfl
  · unfold f_M_whole
    rw [set_plain 1 (by decide)]
    rfl
theorem special_same (k : Int32) (n : Int64) (e : Int32) (p : Int32) : ∃ (r k' : Int32) (n' : Int64) (e' : Int32), f_N_special k n e p = some (r, k', n', e') ∧ f_M_special k n e p = some (r, k', n', e') ∧ ((k' = k ∧ n' = n ∧ e' = e) ∨ (k' = p ∧ ¬ p < 3 ∧ p ≤ 5 ∧ n' = 0 ∧ e' = 0)) := by
  unfold f_N_special f_M_special
  by_cases c1 : p < 3
  · rw [if_pos c1, if_pos c1]; exact ⟨_, _, _, _, rfl, rfl, Or.inl ⟨rfl, rfl, rfl⟩⟩
  · rw [if_neg c1, if_neg c1]
    by_cases c2 : p ≤ 5
    · rw [if_pos c2, if_pos c2, set_plain p (fun q => c1 (by rw [q]; decide))]
      exact ⟨_, _, _, _, rfl, rfl, Or.inr ⟨rfl, c1, c2, rfl, rfl⟩⟩
    · rw [if_neg c2, if_neg c2]; exact ⟨_, _, _, _, rfl, rfl, Or.inl ⟨rfl, rfl, rfl⟩⟩
/-- what was written: alike, each a byte below 128 -/
def Wr (n : Nat) (ac am : Nat → Int32) : Prop := n ≤ 420 ∧ ∀ i, i < n → ∃ b : Nat, b < 128 ∧ ac i = nI b ∧ am i = nI b
theorem written_same {n : Nat} {ac am : Nat → Int32} (h : Wr n ac am) (p : Int32) : ∃ r : Int32, f_N_written (nI n) ac p = some r ∧ f_M_written (nI n) am p = some r := by
  obtain ⟨hn, hw⟩ := h
  unfold f_N_written f_M_written f_Page_at f_Page_at_21 bi1
  by_cases c1 : p < 0
  · rw [if_pos c1, if_pos c1]; exact ⟨_, rfl, rfl⟩
  · rw [if_neg c1, if_neg c1]
    by_cases c2 : nI n ≤ p
    · rw [if_pos c2, if_pos c2]; exact ⟨_, rfl, rfl⟩
    · rw [if_neg c2, if_neg c2]
      obtain ⟨j, hj, hp⟩ := nI_of c1
      subst hp
      have hjn : j < n := by
        rcases Nat.lt_or_ge j n with q | q
        · exact q
        · exact absurd (nI_le q hj) c2
      obtain ⟨b, hb, e1, e2⟩ := hw j hjn
      unfold ck
      rw [if_pos (show nI j < (420 : Int32) from nI_lt (b := 420) (by omega) (by decide)), if_pos (gin_nI (by omega) (by decide)), if_pos (gin_nI (by omega) (by decide)), nI_clamp hj, e1, e2]
      refine ⟨nI b, rfl, ?_⟩
      rw [show (255 : Int32) = nI 255 from rfl, pk_andN (n := b) (by omega) 8 (by decide), Nat.mod_eq_of_lt (by omega)]

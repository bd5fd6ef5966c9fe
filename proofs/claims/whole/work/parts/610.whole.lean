/-! whole numbers out of digits g 0 .. g (D-1) -/
def hv (g : Nat → Nat) : Nat → Nat
  | 0 => 0
  | k + 1 => 16 * hv g k + g k
/-- the decimal fold, as long as it stays below 2^63 -/
def fwo (g : Nat → Nat) : Nat → Nat → Nat → Option Nat
  | 0, _, V => some V
  | m + 1, k, V => if 922337203685477580 < V ∨ (V = 922337203685477580 ∧ 7 < g k) then none else fwo g m (k + 1) (10 * V + g k)
theorem lsl_or (x : Nat) {d : Nat} (hd : d < 16) : (lsl (jJ x) (4 : Int32) ||| jJ d) = jJ ((16 * x + d : Nat) : Int) := by
  have e1 : lsl (jJ x) (4 : Int32) = jJ ((x : Int) * ((2 ^ 4 : Nat) : Int)) := jJ_lsl (x : Int) (k := 4) (by decide)
  rw [e1]
  apply Int64.toBitVec_inj.mp
  apply BitVec.eq_of_toNat_eq
  rw [Int64.toBitVec_or, BitVec.toNat_or, jJ_bits, jJ_bits, jJ_bits]
  have a1 : ((x : Int) * ((2 ^ 4 : Nat) : Int) % 18446744073709551616).toNat = 2 ^ 4 * (x % 1152921504606846976) := by omega
  have a2 : ((d : Int) % 18446744073709551616).toNat = d := by omega
  have a3 : (((16 * x + d : Nat) : Int) % 18446744073709551616).toNat = 2 ^ 4 * (x % 1152921504606846976) + d := by omega
  rw [a1, a2, a3, Nat.two_pow_add_eq_or_of_lt (by omega)]
theorem lsl_add (x : Nat) (d : Nat) : (lsl (jJ x) (4 : Int32) + jJ d) = jJ ((16 * x + d : Nat) : Int) := by
  have e1 : lsl (jJ x) (4 : Int32) = jJ ((x : Int) * ((2 ^ 4 : Nat) : Int)) := jJ_lsl (x : Int) (k := 4) (by decide)
  rw [e1, jJ_add]
  congr 1
  omega
theorem nI_lj {d : Nat} (h : d < 2147483648) : (nI d).toInt64 = jJ (d : Int) := by rw [iI_nI, iI_l (by omega) (by omega)]
/-- the class, with 16 -/
theorem find16 {n : Nat} (hn : n ≤ 1200) (a : Nat → Int32) (fr : Int32) (g : Nat → Nat) {s D : Nat} (hD : s + D ≤ n) (hg : ∀ j, j < D → dv true (bt8 a (s + j)) = some (g j)) : ∀ (m k f : Nat), k + m = D → m < f →
    f_Numeral_findWhole_26 f 1 0 0 fr (nI (s + D)) (jJ (hv g k)) (nI n) a (nI (s + k)) = some (1, jJ (hv g D)) := by
  intro m
  induction m with
  | zero =>
    intro k f h hf
    obtain ⟨f, rfl⟩ : ∃ j, f = j + 1 := ⟨f - 1, by omega⟩
    have : k = D := by omega
    subst this
    show f_Numeral_findWhole_26b _ _ _ _ _ _ _ _ _ _ = _
    unfold f_Numeral_findWhole_26b
    rw [if_pos (nI_le (by omega) (by omega))]
  | succ m ih =>
    intro k f h hf
    obtain ⟨f, rfl⟩ : ∃ j, f = j + 1 := ⟨f - 1, by omega⟩
    have hd := hg k (by omega)
    have hb := bt8_lt a (s + k)
    have hdg : f_Numeral_digitOf (nI (bt8 a (s + k))) 1 = some (nI (g k)) := by
      have := digitOf_eq _ hb true
      rw [hd] at this
      exact this
    have hd16 := (dv_lt _ hb true _ hd).1
    show f_Numeral_findWhole_26b _ _ _ _ _ _ _ _ _ _ = _
    unfold f_Numeral_findWhole_26b
    rw [if_neg (nI_ge (by omega) (by omega)), tape_at hn a (by omega), if_pos (by omega), bi1_s, hdg, bi1_s, if_neg (by decide), bd_s]
    unfold f_Numeral_findWhole_118
    rw [bd_s, nI_1, nI_lj (by omega), lsl_add]
    exact ih (k + 1) f (by omega) (by omega)
/-- the reference, with 16 -/
theorem wrap16 (vk : Int32) (vn : Int64) (ve : Int32) (ls : Int32) (da : Nat → Int32) (g : Nat → Nat) {D : Nat} (hD : D ≤ 1200) (hg : ∀ j, j < D → da j = nI (g j) ∧ g j < 16) : ∀ (m k f : Nat), k + m = D → m < f →
    f_M_readWrapping_4 f vk vn ve (nI D) ls da (jJ (hv g k)) (nI k) = f_M_readWrapping_30 vk vn ve (nI D) ls da (jJ (hv g D)) := by
  intro m
  induction m with
  | zero =>
    intro k f h hf
    obtain ⟨f, rfl⟩ : ∃ j, f = j + 1 := ⟨f - 1, by omega⟩
    have : k = D := by omega
    subst this
    show f_M_readWrapping_4b _ _ _ _ _ _ _ _ _ = _
    unfold f_M_readWrapping_4b
    rw [if_pos (nI_le (by omega) (by omega))]
  | succ m ih =>
    intro k f h hf
    obtain ⟨f, rfl⟩ : ∃ j, f = j + 1 := ⟨f - 1, by omega⟩
    obtain ⟨hda, h16⟩ := hg k (by omega)
    show f_M_readWrapping_4b _ _ _ _ _ _ _ _ _ = _
    unfold f_M_readWrapping_4b
    rw [if_neg (nI_ge (by omega) (by omega)), ck_s (gin_nI (by omega) (by decide)), nI_clamp (by omega), hda, nI_lj (by omega), lsl_or _ h16, bd_s, bd_s, nI_1]
    exact ih (k + 1) f (by omega) (by omega)
/-- the class, with 10 -/
theorem find10 {n : Nat} (hn : n ≤ 1200) (a : Nat → Int32) (fr : Int32) (g : Nat → Nat) {s D : Nat} (hD : s + D ≤ n) (hg : ∀ j, j < D → dv false (bt8 a (s + j)) = some (g j)) : ∀ (m k f V : Nat), k + m = D → m < f → V < 9223372036854775808 →
    ∃ x, f_Numeral_findWhole_26 f 0 0 0 fr (nI (s + D)) (lN V) (nI n) a (nI (s + k)) = some (match fwo g m k V with | some W => (1, lN W) | none => (0, x)) := by
  intro m
  induction m with
  | zero =>
    intro k f V h hf hV
    obtain ⟨f, rfl⟩ : ∃ j, f = j + 1 := ⟨f - 1, by omega⟩
    have : k = D := by omega
    subst this
    refine ⟨0, ?_⟩
    show f_Numeral_findWhole_26b _ _ _ _ _ _ _ _ _ _ = _
    unfold f_Numeral_findWhole_26b
    rw [if_pos (nI_le (by omega) (by omega))]
    rfl
  | succ m ih =>
    intro k f V h hf hV
    obtain ⟨f, rfl⟩ : ∃ j, f = j + 1 := ⟨f - 1, by omega⟩
    have hd := hg k (by omega)
    have hb := bt8_lt a (s + k)
    have hdg : f_Numeral_digitOf (nI (bt8 a (s + k))) 0 = some (nI (g k)) := by
      have := digitOf_eq _ hb false
      rw [hd] at this
      exact this
    have hd10 := (dv_lt _ hb false _ hd).2 rfl
    have L1 : ((922337203685477580 : Int64) < lN V) = (922337203685477580 < V) := propext (pk_lLT (a := 922337203685477580) (b := V) (by decide) (by omega))
    have L2 : (lN V = (922337203685477580 : Int64)) = (V = 922337203685477580) := propext (pk_lEQ (a := V) (b := 922337203685477580) (by omega) (by decide))
    have L3 : (nI (g k) ≤ (7 : Int32)) = (g k ≤ 7) := propext (nI_leI (a := g k) (b := 7) (by omega) (by decide))
    have go : ¬ (922337203685477580 < V ∨ (V = 922337203685477580 ∧ 7 < g k)) → ∃ x, f_Numeral_findWhole_103 (f_Numeral_findWhole_26 f) 0 0 0 fr (nI (s + D)) (lN V) (nI n) a (nI (s + k)) (nI (g k)) = some (match fwo g (m + 1) k V with | some W => (1, lN W) | none => (0, x)) := by
      intro hok
      have hV2 : 10 * V + g k < 9223372036854775808 := by omega
      obtain ⟨x, hx⟩ := ih (k + 1) f (10 * V + g k) (by omega) (by omega) hV2
      refine ⟨x, ?_⟩
      unfold f_Numeral_findWhole_103 f_Numeral_findWhole_118
      rw [bd_s, bd_s, nI_1, show (nI (g k)).toInt64 = lN (g k) from nI_l (by omega), show (10 : Int64) = lN 10 from rfl, lN_mul, lN_add, show V * 10 + g k = 10 * V + g k from by omega]
      rw [show fwo g (m + 1) k V = fwo g m (k + 1) (10 * V + g k) from by show (if _ then _ else _) = _; rw [if_neg hok]]
      exact hx
    show ∃ x, f_Numeral_findWhole_26b _ _ _ _ _ _ _ _ _ _ = _
    unfold f_Numeral_findWhole_26b
    rw [if_neg (nI_ge (by omega) (by omega)), tape_at hn a (by omega), if_pos (by omega), bi1_s, hdg, bi1_s, if_pos rfl, ite_c L1, ite_c L2, ite_c L3]
    by_cases c1 : 922337203685477580 < V
    · refine ⟨lN V, ?_⟩
      rw [if_pos c1, show fwo g (m + 1) k V = none from by show (if _ then _ else _) = _; rw [if_pos (Or.inl c1)]]
    · rw [if_neg c1]
      by_cases c2 : V = 922337203685477580
      · rw [if_pos c2]
        by_cases c3 : g k ≤ 7
        · rw [if_pos c3]; exact go (by omega)
        · refine ⟨lN V, ?_⟩
          rw [if_neg c3, show fwo g (m + 1) k V = none from by show (if _ then _ else _) = _; rw [if_pos (Or.inr ⟨c2, by omega⟩)]]
      · rw [if_neg c2]; exact go (by omega)
/-- the reference, with 10 -/
theorem fits10 (vk : Int32) (vn : Int64) (ve : Int32) (ls : Int32) (da : Nat → Int32) (g : Nat → Nat) {D : Nat} (hD : D ≤ 1200) (hg : ∀ j, j < D → da j = nI (g j) ∧ g j < 10) : ∀ (m k f V : Nat), k + m = D → m < f → V < 9223372036854775808 →
    f_M_fitsWhole_4 f vk vn ve (nI D) ls da (lN V) (nI k) = (match fwo g m k V with | some W => f_M_fitsWhole_61 vk vn ve (nI D) ls da (lN W) | none => some (0, vk, vn, ve)) := by
  intro m
  induction m with
  | zero =>
    intro k f V h hf hV
    obtain ⟨f, rfl⟩ : ∃ j, f = j + 1 := ⟨f - 1, by omega⟩
    have : k = D := by omega
    subst this
    show f_M_fitsWhole_4b _ _ _ _ _ _ _ _ _ = _
    unfold f_M_fitsWhole_4b
    rw [if_pos (nI_le (by omega) (by omega))]
    rfl
  | succ m ih =>
    intro k f V h hf hV
    obtain ⟨f, rfl⟩ : ∃ j, f = j + 1 := ⟨f - 1, by omega⟩
    obtain ⟨hda, hd10⟩ := hg k (by omega)
    have L1 : ((922337203685477580 : Int64) < lN V) = (922337203685477580 < V) := propext (pk_lLT (a := 922337203685477580) (b := V) (by decide) (by omega))
    have L2 : (lN V = (922337203685477580 : Int64)) = (V = 922337203685477580) := propext (pk_lEQ (a := V) (b := 922337203685477580) (by omega) (by decide))
    have hdk : da (nI k).toNatClampNeg = nI (g k) := by rw [nI_clamp (by omega), hda]
    have L3 : (nI (g k) ≤ (7 : Int32)) = (g k ≤ 7) := propext (nI_leI (a := g k) (b := 7) (by omega) (by decide))
    have go : ¬ (922337203685477580 < V ∨ (V = 922337203685477580 ∧ 7 < g k)) → f_M_fitsWhole_41 (f_M_fitsWhole_4 f) vk vn ve (nI D) ls da (lN V) (nI k) = (match fwo g (m + 1) k V with | some W => f_M_fitsWhole_61 vk vn ve (nI D) ls da (lN W) | none => some (0, vk, vn, ve)) := by
      intro hok
      have hV2 : 10 * V + g k < 9223372036854775808 := by omega
      unfold f_M_fitsWhole_41
      rw [ck_s (gin_nI (by omega) (by decide)), bd_s, bd_s, hdk, nI_1, show (nI (g k)).toInt64 = lN (g k) from nI_l (by omega), show (10 : Int64) = lN 10 from rfl, lN_mul, lN_add, ih (k + 1) f (10 * V + g k) (by omega) (by omega) hV2]
      rw [show fwo g (m + 1) k V = fwo g m (k + 1) (10 * V + g k) from by show (if _ then _ else _) = _; rw [if_neg hok]]
    show f_M_fitsWhole_4b _ _ _ _ _ _ _ _ _ = _
    unfold f_M_fitsWhole_4b
    rw [if_neg (nI_ge (by omega) (by omega)), ck_s (gin_nI (by omega) (by decide)), hdk, ite_c L1, ite_c L2, ite_c L3]
    by_cases c1 : 922337203685477580 < V
    · rw [if_pos c1, show fwo g (m + 1) k V = none from by show (if _ then _ else _) = _; rw [if_pos (Or.inl c1)]]
    · rw [if_neg c1]
      by_cases c2 : V = 922337203685477580
      · rw [if_pos c2]
        by_cases c3 : g k ≤ 7
        · rw [if_pos c3]; exact go (by omega)
        · rw [if_neg c3, show fwo g (m + 1) k V = none from by show (if _ then _ else _) = _; rw [if_pos (Or.inr ⟨c2, by omega⟩)]]
      · rw [if_neg c2]; exact go (by omega)

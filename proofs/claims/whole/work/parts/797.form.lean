/-! form -/
theorem letW {lc : Nat} (h : lc < 65536) : ((lc = 100 ∨ lc = 111 ∨ lc = 120 ∨ lc = 88) → f_N_isLetterOfWholes (nI lc) = some 1) ∧ (¬ (lc = 100 ∨ lc = 111 ∨ lc = 120 ∨ lc = 88) → f_N_isLetterOfWholes (nI lc) = some 0) := by
  constructor
  · intro q
    rcases q with rfl | rfl | rfl | rfl <;> decide
  · intro q
    unfold f_N_isLetterOfWholes
    rw [if_neg (by rw [nI_k 100 (c := 100) rfl (by omega) (by decide)]; omega), if_neg (by rw [nI_k 120 (c := 120) rfl (by omega) (by decide)]; omega), if_neg (by rw [nI_k 88 (c := 88) rfl (by omega) (by decide)]; omega), if_neg (by rw [nI_k 111 (c := 111) rfl (by omega) (by decide)]; omega)]
theorem letR {lc : Nat} (h : lc < 65536) : (Lr lc → f_N_isLetterOfReals (nI lc) = some 1 ∧ f_M_isRealLetter (nI lc) = some 1) ∧ (¬ Lr lc → f_N_isLetterOfReals (nI lc) = some 0 ∧ f_M_isRealLetter (nI lc) = some 0) := by
  constructor
  · intro q
    rcases q with rfl | rfl | rfl | rfl | rfl | rfl | rfl | rfl <;> decide
  · intro q
    have q' : lc ≠ 101 ∧ lc ≠ 69 ∧ lc ≠ 102 ∧ lc ≠ 70 ∧ lc ≠ 103 ∧ lc ≠ 71 ∧ lc ≠ 97 ∧ lc ≠ 65 := by
      unfold Lr at q
      omega
    have z23 : ∀ x, x < 65536 → x ≠ 97 → (x < 101 ∨ 103 < x) → f_N_isLetterOfReals_23 (nI x) = some 0 := by
      intro x hx h97 hor
      unfold f_N_isLetterOfReals_23
      rw [if_neg (by rw [nI_k 97 (c := 97) rfl (by omega) (by decide)]; omega), ite_c (show (nI x < (101 : Int32)) = (x < 101) from propext (nI_ltI (b := 101) (by omega) (by decide))), ite_c (show ((103 : Int32) < nI x) = (103 < x) from propext (nI_ltI (a := 103) (by decide) (by omega)))]
      by_cases c : x < 101
      · rw [if_pos c]
      · rw [if_neg c, if_pos (by omega)]
    constructor
    · unfold f_N_isLetterOfReals f_N_isLetterOfReals_22
      rw [ite_c (show (nI lc < (65 : Int32)) = (lc < 65) from propext (nI_ltI (b := 65) (by omega) (by decide))), ite_c (show ((90 : Int32) < nI lc) = (90 < lc) from propext (nI_ltI (a := 90) (by decide) (by omega)))]
      by_cases c : lc < 65
      · rw [if_pos c]
        exact z23 lc (by omega) (by omega) (by omega)
      · rw [if_neg c]
        by_cases d : 90 < lc
        · rw [if_pos d]
          exact z23 lc (by omega) (by omega) (by omega)
        · rw [if_neg d, show nI lc - (65 : Int32) + (97 : Int32) = nI (lc - 65 + 97) from by rw [show nI lc - (65 : Int32) = nI (lc - 65) from pk_sub (b := 65) (by omega)]; exact nI_add _ 97]
          exact z23 _ (by omega) (by omega) (by omega)
    · unfold f_M_isRealLetter
      rw [if_neg (by rw [nI_k 101 (c := 101) rfl (by omega) (by decide)]; omega), if_neg (by rw [nI_k 69 (c := 69) rfl (by omega) (by decide)]; omega), if_neg (by rw [nI_k 102 (c := 102) rfl (by omega) (by decide)]; omega), if_neg (by rw [nI_k 70 (c := 70) rfl (by omega) (by decide)]; omega), if_neg (by rw [nI_k 103 (c := 103) rfl (by omega) (by decide)]; omega), if_neg (by rw [nI_k 71 (c := 71) rfl (by omega) (by decide)]; omega), if_neg (by rw [nI_k 97 (c := 97) rfl (by omega) (by decide)]; omega), if_neg (by rw [nI_k 65 (c := 65) rfl (by omega) (by decide)]; omega)]
/-- a shift up and down again -/
theorem shift_back {x : Int} (hx : -9223372036854775808 ≤ x) (hx2 : x < 9223372036854775808) {k : Nat} (hk : k < 64) : (lsr (lsl (jJ x) (iI k)) (iI k) = jJ x) = (-9223372036854775808 ≤ x * (2 ^ k : Nat) ∧ x * (2 ^ k : Nat) < 9223372036854775808) := by
  have hp : 0 < 2 ^ k := Nat.two_pow_pos k
  have hpl : 2 ^ k ≤ 2 ^ 63 := Nat.pow_le_pow_right (by decide) (by omega)
  rw [jJ_lsl _ hk]
  obtain ⟨Y, hY⟩ : ∃ Y : Int, Y = (jJ (x * (2 ^ k : Nat))).toInt := ⟨_, rfl⟩
  have hYr := j_range (jJ (x * (2 ^ k : Nat)))
  have hYe : jJ (x * (2 ^ k : Nat)) = jJ Y := by rw [hY]; exact jJ_of _
  rw [← hY] at hYr
  have hdvlo : Y / ((2 ^ k : Nat) : Int) * ((2 ^ k : Nat) : Int) ≤ Y := Int.ediv_mul_le _ (by omega)
  have hdvhi : Y < (Y / ((2 ^ k : Nat) : Int) + 1) * ((2 ^ k : Nat) : Int) := Int.lt_ediv_add_one_mul_self _ (by omega)
  have hq1 : -9223372036854775808 ≤ Y / ((2 ^ k : Nat) : Int) := by
    rcases (by omega : Y / ((2 ^ k : Nat) : Int) < -9223372036854775808 ∨ -9223372036854775808 ≤ Y / ((2 ^ k : Nat) : Int)) with z | z
    · exfalso
      have h9 : (Y / ((2 ^ k : Nat) : Int) + 1) * ((2 ^ k : Nat) : Int) ≤ (-9223372036854775808) * ((2 ^ k : Nat) : Int) := Int.mul_le_mul_of_nonneg_right (by omega) (by omega)
      omega
    · exact z
  have hq2 : Y / ((2 ^ k : Nat) : Int) < 9223372036854775808 := by
    rcases (by omega : Y / ((2 ^ k : Nat) : Int) < 9223372036854775808 ∨ 9223372036854775808 ≤ Y / ((2 ^ k : Nat) : Int)) with z | z
    · exact z
    · exfalso
      have h9 : 9223372036854775808 * ((2 ^ k : Nat) : Int) ≤ Y / ((2 ^ k : Nat) : Int) * ((2 ^ k : Nat) : Int) := Int.mul_le_mul_of_nonneg_right z (by omega)
      omega
  rw [hYe, jJ_lsr hYr.1 hYr.2 hk, jJ_eq hq1 hq2 hx hx2]
  have hbits : (Y % 18446744073709551616).toNat = (x * ((2 ^ k : Nat) : Int) % 18446744073709551616).toNat := by
    rw [← jJ_bits, ← jJ_bits, hYe]
  apply propext
  constructor
  · intro q
    rw [q] at hdvlo hdvhi
    rw [Int.add_mul, Int.one_mul] at hdvhi
    generalize x * ((2 ^ k : Nat) : Int) = X at *
    omega
  · intro ⟨w1, w2⟩
    have : Y = x * ((2 ^ k : Nat) : Int) := by
      generalize x * ((2 ^ k : Nat) : Int) = X at *
      omega
    rw [this]
    exact Int.mul_ediv_cancel _ (by omega)
theorem whole64 {K : Int32} {N : Int64} {E : Int32} (hV : Vl K N E) :
    (∃ (v : Int64) (k1 : Int32) (e1 : Int32), f_N_isWhole64 K N E = some 1 ∧ f_N_toWhole64 K N E = some v ∧ f_M_becomesWhole K N E = some (1, k1, v, e1)) ∨ (f_N_isWhole64 K N E = some 0 ∧ f_M_becomesWhole K N E = some (0, K, N, E)) := by
  rcases hV with ⟨hK, hE0⟩ | ⟨m, Ei, ng, hRl, hK, hN, hE⟩ | ⟨hK, hN, hE⟩
  · left
    subst hK hE0
    exact ⟨N, 1, 0, rfl, rfl, rfl⟩
  · have hm := hRl.1
    have hEr := Rl_E hRl
    have hbl : bl m ≤ 53 := bl_le_iff.mpr hm
    subst hK
    have hx1 : -9223372036854775808 ≤ (if ng then -(m : Int) else (m : Int)) ∧ (if ng then -(m : Int) else (m : Int)) < 9223372036854775808 := by split <;> omega
    have hE0 : ((0 : Int32) ≤ E) = (0 ≤ Ei) := by rw [hE]; exact iI_kle 0 (by decide) (by omega) (by omega) (by decide) (by decide)
    have hElt : (E < (0 : Int32)) = (Ei < 0) := by rw [hE]; exact iI_ltk 0 (by decide) (by omega) (by omega) (by decide) (by decide)
    have hE63 : (E ≤ (63 : Int32)) = (Ei ≤ 63) := by rw [hE]; exact iI_lek 63 (by decide) (by omega) (by omega) (by decide) (by decide)
    have hEe : (E = (63 : Int32)) = (Ei = 63) := by rw [hE, show (63 : Int32) = iI 63 from by decide, iI_eq (by omega) (by omega) (by decide) (by decide)]
    have hN1 : (N = (-1 : Int64)) = ((if ng then -(m : Int) else (m : Int)) = -1) := by rw [hN, show (-1 : Int64) = jJ (-1) from by decide, jJ_eq hx1.1 hx1.2 (by decide) (by decide)]
    have cls : f_N_isWhole64 2 N E = some (bz (decide (0 ≤ Ei ∧ ((bl m : Int) + Ei ≤ 63 ∨ ((if ng then -(m : Int) else (m : Int)) = -1 ∧ Ei = 63))))) := by
      unfold f_N_isWhole64
      rw [if_neg (by decide), if_pos rfl, ite_c hE0]
      by_cases c0 : 0 ≤ Ei
      · have x48 : f_N_isWhole64_48 2 N E (lN m) = some (bz (decide (0 ≤ Ei ∧ ((bl m : Int) + Ei ≤ 63 ∨ ((if ng then -(m : Int) else (m : Int)) = -1 ∧ Ei = 63))))) := by
          unfold f_N_isWhole64_48 f_N_isWhole64_83
          rw [bitsOf_eq (by omega), bi1_s, ite_c (show (iI (bl m) + E ≤ (63 : Int32)) = ((bl m : Int) + Ei ≤ 63) from by rw [hE, iI_add]; exact iI_lek 63 (by decide) (by omega) (by omega) (by decide) (by decide)), ite_c hN1, ite_c hEe]
          by_cases d1 : (bl m : Int) + Ei ≤ 63
          · rw [if_pos d1, decide_eq_true ⟨c0, Or.inl d1⟩]; rfl
          · rw [if_neg d1]
            by_cases d2 : (if ng then -(m : Int) else (m : Int)) = -1
            · rw [if_pos d2]
              by_cases d3 : Ei = 63
              · rw [if_pos d3, decide_eq_true ⟨c0, Or.inr ⟨d2, d3⟩⟩]; rfl
              · rw [if_neg d3, decide_eq_false (fun w => by rcases w.2 with y | y; exact d1 y; exact d3 y.2)]; rfl
            · rw [if_neg d2, decide_eq_false (fun w => by rcases w.2 with y | y; exact d1 y; exact d2 y.1)]; rfl
        rw [if_pos c0]
        have cs : ((0 : Int64) ≤ N) = ((0 : Int) ≤ (if ng then -(m : Int) else (m : Int))) := by
          rw [hN, show (0 : Int64) = jJ 0 from by decide, jJ_le (by decide) (by decide) hx1.1 hx1.2]
        rw [ite_c cs]
        cases ng
        · rw [show (if false = true then -(m : Int) else (m : Int)) = m from rfl] at *
          rw [if_pos (by omega)]
          rw [show f_N_isWhole64_48 2 N E N = f_N_isWhole64_48 2 N E (lN m) from by rw [show lN m = N from by rw [hN, jJ_lN]]]
          exact x48
        · rw [show (if true = true then -(m : Int) else (m : Int)) = -(m : Int) from rfl] at *
          by_cases z : m = 0
          · rw [if_pos (by omega), show f_N_isWhole64_48 2 N E N = f_N_isWhole64_48 2 N E (lN m) from by rw [show lN m = N from by rw [hN, jJ_lN, z]; rfl]]
            exact x48
          · rw [if_neg (by omega), show -N = lN m from by rw [hN, jJ_neg, Int.neg_neg, jJ_lN]]
            exact x48
      · rw [if_neg c0, decide_eq_false (fun w => c0 w.1)]; rfl
    by_cases fits : 0 ≤ Ei ∧ ((bl m : Int) + Ei ≤ 63 ∨ ((if ng then -(m : Int) else (m : Int)) = -1 ∧ Ei = 63))
    · left
      rw [decide_eq_true fits] at cls
      obtain ⟨f0, f1⟩ := fits
      obtain ⟨k, hk⟩ : ∃ k : Nat, Ei = k := ⟨Ei.toNat, by omega⟩
      have hk63 : k ≤ 63 := by rcases f1 with y | y <;> omega
      have hback : (lsr (lsl N E) E = N) := by
        rw [hN, hE, hk, shift_back hx1.1 hx1.2 (by omega)]
        rcases f1 with y | ⟨y1, y2⟩
        · have h1 := bl_lt m
          have h2 : m * 2 ^ k < 2 ^ bl m * 2 ^ k := Nat.mul_lt_mul_of_pos_right h1 (Nat.two_pow_pos k)
          rw [← Nat.pow_add] at h2
          have h3 : 2 ^ (bl m + k) ≤ 2 ^ 63 := Nat.pow_le_pow_right (by decide) (by omega)
          have h4 : ((m : Int) * ((2 ^ k : Nat) : Int)) = ((m * 2 ^ k : Nat) : Int) := by rw [Int.natCast_mul]
          cases ng
          · rw [show (if false = true then -(m : Int) else (m : Int)) = m from rfl, h4]
            omega
          · rw [show (if true = true then -(m : Int) else (m : Int)) = -(m : Int) from rfl, Int.neg_mul, h4]
            omega
        · rw [y1, show k = 63 from by omega]
          decide
      refine ⟨lsl N E, 1, 0, cls, ?_, ?_⟩
      · unfold f_N_toWhole64
        rw [if_pos rfl]
      · unfold f_M_becomesWhole
        rw [if_neg (by decide), if_pos rfl, ite_c hElt, if_neg (by omega), ite_c hE63, if_pos (by omega), if_pos hback, bd_s]
    · right
      rw [decide_eq_false fits] at cls
      refine ⟨cls, ?_⟩
      unfold f_M_becomesWhole
      rw [if_neg (by decide), if_pos rfl, ite_c hElt]
      by_cases c0 : Ei < 0
      · rw [if_pos c0]
      · rw [if_neg c0, ite_c hE63]
        by_cases c63 : Ei ≤ 63
        · obtain ⟨k, hk⟩ : ∃ k : Nat, Ei = k := ⟨Ei.toNat, by omega⟩
          rw [if_pos c63, if_neg]
          rw [hN, hE, hk, shift_back hx1.1 hx1.2 (by omega)]
          intro ⟨w1, w2⟩
          apply fits
          refine ⟨by omega, ?_⟩
          by_cases d1 : (bl m : Int) + Ei ≤ 63
          · exact Or.inl d1
          · right
            have hm0 : m ≠ 0 := by
              intro z
              rcases hRl.2 with ⟨y1, -, -⟩ | ⟨y1, y2⟩
              · omega
              · rw [z, bl_0] at d1
                omega
            have h1 := bl_le hm0
            have h2 : 2 ^ (bl m - 1) * 2 ^ k ≤ m * 2 ^ k := Nat.mul_le_mul_right _ h1
            rw [← Nat.pow_add] at h2
            have h3 : 2 ^ 63 ≤ 2 ^ (bl m - 1 + k) := Nat.pow_le_pow_right (by decide) (by omega)
            have h4 : ((m : Int) * ((2 ^ k : Nat) : Int)) = ((m * 2 ^ k : Nat) : Int) := by rw [Int.natCast_mul]
            cases ng
            · rw [show (if false = true then -(m : Int) else (m : Int)) = m from rfl, h4] at w2
              omega
            · rw [show (if true = true then -(m : Int) else (m : Int)) = -(m : Int) from rfl, Int.neg_mul, h4] at w1
              have hmk : m * 2 ^ k = 2 ^ 63 := by omega
              have hodd : m % 2 = 1 := by
                rcases hRl.2 with ⟨y1, -, -⟩ | ⟨y1, y2⟩
                · exact y1
                · exact absurd y1 hm0
              have huniq := odd_uniq (a := k) (b := 63) (q := m / 2) (r := 0) (by
                rw [show 2 * (m / 2) + 1 = m from by omega, Nat.mul_comm, hmk])
              refine ⟨?_, by omega⟩
              rw [show (if true = true then -(m : Int) else (m : Int)) = -(m : Int) from rfl]
              omega
        · rw [if_neg c63]
  · right
    subst hN hE
    rcases hK with rfl | rfl | rfl
    · exact ⟨rfl, rfl⟩
    · exact ⟨rfl, rfl⟩
    · exact ⟨rfl, rfl⟩
/-- whole numbers: both write the same -/
theorem as_whole (v : Int64) {lc : Nat} (hlc : lc = 100 ∨ lc = 111 ∨ lc = 120 ∨ lc = 88) {fl w : Nat} (hfl : fl < 32) (hw : w ≤ 99) {P : Int} (hP1 : -1 ≤ P) (hP2 : P ≤ 99) :
    ∃ l : List Nat, By l ∧ l.length ≤ 420 ∧
    (∀ (vc pl : Int32) (dgs prow : Nat → Int32), ∃ c' dgs' sz' a', f_Writer_writeWhole vc (nI lc) (nI fl) (nI w) (iI P) dgs pl prow v = some (c', dgs', sz', a') ∧ Pt sz' a' l) ∧
    (∀ (wr bs : Int32) (body out : Nat → Int32), ∃ sz' bs' body' out', f_M_formWhole v wr bs body out (nI lc) (nI fl) (nI w) (iI P) = some (sz', sz', bs', body', out') ∧ Pt sz' out' l) := by
  have hlc128 : lc < 128 := by rcases hlc with rfl | rfl | rfl | rfl <;> decide
  have hmd : 0 < wmd lc ∧ wmd lc ≤ 16 := by rcases hlc with rfl | rfl | rfl | rfl <;> decide
  obtain ⟨neg, u, hv, hneg, hneg2⟩ : ∃ (neg : Bool) (u : Nat), Wv lc v neg u ∧ (lc = 100 → ((0 : Int64) ≤ v) = (neg = false)) ∧ (lc ≠ 100 → neg = false) := by
    by_cases c : lc = 100
    · obtain ⟨neg, s, h1, h2, h3, h4, h5⟩ := v_split v
      refine ⟨neg, s, ⟨?_, by omega, fun _ => ⟨h2, h3, h4⟩⟩, fun _ => h5, fun w => absurd c w⟩
      rw [c, h1]
      show _ = jJ (sgI neg (s / 10 ^ 0))
      rw [Nat.pow_zero, Nat.div_one]
    · refine ⟨false, v.toBitVec.toNat, ⟨?_, v.toBitVec.isLt, fun w => absurd w c⟩, fun w => absurd w c, fun _ => rfl⟩
      unfold wX wmd
      rw [if_neg c, if_neg (by split <;> decide), Nat.pow_zero, Nat.div_one, jJ_lN]
      exact jJ_ofBits rfl
  obtain ⟨c, hc2, hc⟩ : ∃ c, c ≤ 22 ∧ Wc (wmd lc) u c := by
    have hu := hv.2.1
    rcases hlc with rfl | rfl | rfl | rfl
    · have := (hv.2.2 rfl).1
      obtain ⟨c, h1, h2⟩ := Wc_ex (md := 10) (by decide) (u := u) 20 (by omega)
      exact ⟨c, by omega, h2⟩
    · exact Wc_ex (md := 8) (by decide) (u := u) 22 (by omega)
    · obtain ⟨c, h1, h2⟩ := Wc_ex (md := 16) (by decide) (u := u) 17 (by omega)
      exact ⟨c, by omega, h2⟩
    · obtain ⟨c, h1, h2⟩ := Wc_ex (md := 16) (by decide) (u := u) 17 (by omega)
      exact ⟨c, by omega, h2⟩
  have hls : lsP P ≤ 99 := by unfold lsP; split <;> omega
  have hwl := wl_len (wmd lc) (decide (lc < 97)) u c (lsP P)
  have hml := wmk_len lc fl u (lsP P - c)
  have hsl := sgl_len (sgW lc fl neg)
  have hsB : By (sgl (sgW lc fl neg)) := sgl_By (by unfold sgW; split; exact sgc_lt fl neg; decide)
  refine ⟨fin' fl w (decide (fl / 16 % 2 = 1) && decide (P = -1)) (sgl (sgW lc fl neg)) (wmk lc fl u (lsP P - c)) (wl (wmd lc) (decide (lc < 97)) u c (lsP P)), fin_By hsB (wmk_By hlc128 fl u _) (wl_By hmd.1 hmd.2 _ u c _), fin_420 hw (by simp only [List.length_append]; omega), ?_, ?_⟩
  · intro vc pl dgs prow
    exact cwhole hlc hv hc hc2 hfl hw hP1 hP2 hneg vc pl dgs prow
  · intro wr bs body out
    exact mform hlc hv hc hc2 hfl hw hP1 hP2 hneg hneg2 wr bs body out
theorem ckC_nI {lc : Nat} (h : lc < 65536) : ckC (nI lc) := by
  show i2ch (nI lc) = nI lc
  unfold i2ch
  apply Int32.toBitVec_inj.mp
  apply BitVec.eq_of_toNat_eq
  rw [pk_tn (by omega)]
  show ((nI lc).toUInt32 % 65536).toBitVec.toNat = lc
  rw [UInt32.toBitVec_mod, BitVec.toNat_umod]
  show (nI lc).toBitVec.toNat % 65536 = lc
  rw [pk_tn (by omega), Nat.mod_eq_of_lt h]
theorem form_same {K : Int32} {N : Int64} {E : Int32} (hV : Vl K N E) {lc : Nat} (hlc : lc < 65536) (p2 p3 p4 : Int32) {l0 : List Nat} (hB0 : By l0) (hl0 : l0.length ≤ 420) {F Ll W : Nat} {er prow : Nat → Int32} (hR : Rw er W) (hT : Tr F Ll W) {pl : Int32} (hPc : Pt pl prow l0) (sf : Int64) (sp si vc vle vfl vwi vpr : Int32) (dgs : Nat → Int32) {wr : Int32} {out : Nat → Int32} (hPm : Pt wr out l0) (lcn vl vp vrl vrp bs : Int32) (body ex lm rd : Nat → Int32) :
    ∃ (r : Int32) (l : List Nat) (F' L' W' : Nat) (pl' : Int32) (sf' : Int64) (sp' si' vc' vle' vfl' vwi' vpr' : Int32) (er' prow' dgs' : Nat → Int32) (lcn' vl' vp' vrl' vrp' wr' bs' : Int32) (body' ex' lm' out' rd' : Nat → Int32), By l ∧ l.length ≤ 420 ∧ Rw er' W' ∧ Tr F' L' W' ∧ Pt pl' prow' l ∧ Pt wr' out' l ∧
    f_N_form K N E (nI F) (nI Ll) pl sf sp si vc vle vfl vwi vpr er prow dgs (nI lc) p2 p3 p4 = some (r, nI F', nI L', pl', sf', sp', si', vc', vle', vfl', vwi', vpr', er', prow', dgs') ∧
    f_M_form K N E lcn vl vp vrl vrp wr bs body ex lm out rd (nI lc) p2 p3 p4 = some (r, K, N, E, lcn', vl', vp', vrl', vrp', wr', bs', body', ex', lm', out', rd') := by
  have bad : (f_N_form K N E (nI F) (nI Ll) pl sf sp si vc vle vfl vwi vpr er prow dgs (nI lc) p2 p3 p4 = some (-1, nI F, nI Ll, pl, sf, sp, si, vc, vle, vfl, vwi, vpr, er, prow, dgs)) → (f_M_form K N E lcn vl vp vrl vrp wr bs body ex lm out rd (nI lc) p2 p3 p4 = some (-1, K, N, E, lcn, vl, vp, vrl, vrp, wr, bs, body, ex, lm, out, rd)) → ∃ (r : Int32) (l : List Nat) (F' L' W' : Nat) (pl' : Int32) (sf' : Int64) (sp' si' vc' vle' vfl' vwi' vpr' : Int32) (er' prow' dgs' : Nat → Int32) (lcn' vl' vp' vrl' vrp' wr' bs' : Int32) (body' ex' lm' out' rd' : Nat → Int32), By l ∧ l.length ≤ 420 ∧ Rw er' W' ∧ Tr F' L' W' ∧ Pt pl' prow' l ∧ Pt wr' out' l ∧ f_N_form K N E (nI F) (nI Ll) pl sf sp si vc vle vfl vwi vpr er prow dgs (nI lc) p2 p3 p4 = some (r, nI F', nI L', pl', sf', sp', si', vc', vle', vfl', vwi', vpr', er', prow', dgs') ∧ f_M_form K N E lcn vl vp vrl vrp wr bs body ex lm out rd (nI lc) p2 p3 p4 = some (r, K, N, E, lcn', vl', vp', vrl', vrp', wr', bs', body', ex', lm', out', rd') := by
    intro h1 h2
    exact ⟨-1, l0, F, Ll, W, pl, sf, sp, si, vc, vle, vfl, vwi, vpr, er, prow, dgs, lcn, vl, vp, vrl, vrp, wr, bs, body, ex, lm, out, rd, hB0, hl0, hR, hT, hPc, hPm, h1, h2⟩
  have i100 := nI_k (n := lc) 100 (c := (100 : Int32)) rfl (by omega) (by decide)
  have i111 := nI_k (n := lc) 111 (c := (111 : Int32)) rfl (by omega) (by decide)
  have i120 := nI_k (n := lc) 120 (c := (120 : Int32)) rfl (by omega) (by decide)
  have i88 := nI_k (n := lc) 88 (c := (88 : Int32)) rfl (by omega) (by decide)
  -- the bounds
  have bounds : (p2 < 0 ∨ (31 : Int32) < p2 ∨ p3 < 0 ∨ (99 : Int32) < p3 ∨ p4 < (-1 : Int32) ∨ (99 : Int32) < p4) ∨ ∃ (fl w : Nat) (P : Int), fl < 32 ∧ w ≤ 99 ∧ -1 ≤ P ∧ P ≤ 99 ∧ p2 = nI fl ∧ p3 = nI w ∧ p4 = iI P := by
    have h2 := i_range p2
    have h3 := i_range p3
    have h4 := i_range p4
    have e2 := iI_of p2
    have e3 := iI_of p3
    have e4 := iI_of p4
    generalize p2.toInt = a2 at h2 e2
    generalize p3.toInt = a3 at h3 e3
    generalize p4.toInt = a4 at h4 e4
    subst e2 e3 e4
    rw [iI_ltk 0 (c := 0) (by decide) h2.1 h2.2 (by decide) (by decide), iI_klt 31 (c := 31) (by decide) h2.1 h2.2 (by decide) (by decide), iI_ltk 0 (c := 0) (by decide) h3.1 h3.2 (by decide) (by decide), iI_klt 99 (c := 99) (by decide) h3.1 h3.2 (by decide) (by decide), iI_ltk (-1) (c := -1) (by decide) h4.1 h4.2 (by decide) (by decide), iI_klt 99 (c := 99) (by decide) h4.1 h4.2 (by decide) (by decide)]
    by_cases c : a2 < 0 ∨ 31 < a2 ∨ a3 < 0 ∨ 99 < a3 ∨ a4 < -1 ∨ 99 < a4
    · exact Or.inl c
    · refine Or.inr ⟨a2.toNat, a3.toNat, a4, by omega, by omega, by omega, by omega, ?_, ?_, rfl⟩
      · rw [iI_nI]; congr 1; omega
      · rw [iI_nI]; congr 1; omega
  have bad32 : (p2 < 0 ∨ (31 : Int32) < p2 ∨ p3 < 0 ∨ (99 : Int32) < p3 ∨ p4 < (-1 : Int32) ∨ (99 : Int32) < p4) → ∀ y5 : Int32, f_N_form_32 K N E (nI F) (nI Ll) pl sf sp si vc vle vfl vwi vpr er prow dgs (nI lc) p2 p3 p4 y5 = some (-1, nI F, nI Ll, pl, sf, sp, si, vc, vle, vfl, vwi, vpr, er, prow, dgs) ∧ f_M_form_43 K N E lcn vl vp vrl vrp wr bs body ex lm out rd (nI lc) p2 p3 p4 y5 = some (-1, K, N, E, lcn, vl, vp, vrl, vrp, wr, bs, body, ex, lm, out, rd) := by
    intro h y5
    unfold f_N_form_32 f_M_form_43
    by_cases c1 : p2 < 0
    · rw [if_pos c1, if_pos c1]; exact ⟨rfl, rfl⟩
    rw [if_neg c1, if_neg c1]
    by_cases c2 : (31 : Int32) < p2
    · rw [if_pos c2, if_pos c2]; exact ⟨rfl, rfl⟩
    rw [if_neg c2, if_neg c2]
    by_cases c3 : p3 < 0
    · rw [if_pos c3, if_pos c3]; exact ⟨rfl, rfl⟩
    rw [if_neg c3, if_neg c3]
    by_cases c4 : (99 : Int32) < p3
    · rw [if_neg (Int32.not_le.mpr c4), if_pos c4]; exact ⟨rfl, rfl⟩
    rw [if_pos (Int32.not_lt.mp c4), if_neg c4]
    by_cases c5 : p4 < (-1 : Int32)
    · rw [if_pos c5, if_pos c5]; exact ⟨rfl, rfl⟩
    rw [if_neg c5, if_neg c5]
    have c6 : (99 : Int32) < p4 := by
      rcases h with q | q | q | q | q | q
      · exact absurd q c1
      · exact absurd q c2
      · exact absurd q c3
      · exact absurd q c4
      · exact absurd q c5
      · exact q
    rw [if_neg (Int32.not_le.mpr c6), if_neg (Int32.not_le.mpr c6)]
    exact ⟨rfl, rfl⟩
  by_cases hw : lc = 100 ∨ lc = 111 ∨ lc = 120 ∨ lc = 88
  · have xN : f_N_form K N E (nI F) (nI Ll) pl sf sp si vc vle vfl vwi vpr er prow dgs (nI lc) p2 p3 p4 = f_N_form_18 K N E (nI F) (nI Ll) pl sf sp si vc vle vfl vwi vpr er prow dgs (nI lc) p2 p3 p4 1 := by
      unfold f_N_form
      rw [(letW hlc).1 hw, bi1_s, if_neg (by decide)]
    have xM : f_M_form K N E lcn vl vp vrl vrp wr bs body ex lm out rd (nI lc) p2 p3 p4 = f_M_form_43 K N E lcn vl vp vrl vrp wr bs body ex lm out rd (nI lc) p2 p3 p4 1 := by
      unfold f_M_form f_M_form_24 f_M_form_29
      rw [ite_c i100, ite_c i120, ite_c i88, ite_c i111, if_neg (show ¬ (1 : Int32) = 0 from by decide)]
      rcases hw with rfl | rfl | rfl | rfl
      · rw [if_pos rfl]
      · rw [if_neg (by decide), if_neg (by decide), if_neg (by decide), if_pos rfl]
      · rw [if_neg (by decide), if_pos rfl]
      · rw [if_neg (by decide), if_neg (by decide), if_pos rfl]
    rcases whole64 hV with ⟨v, k1, e1, w1, w2, w3⟩ | ⟨w1, w3⟩
    · have x18 : f_N_form_18 K N E (nI F) (nI Ll) pl sf sp si vc vle vfl vwi vpr er prow dgs (nI lc) p2 p3 p4 1 = f_N_form_32 K N E (nI F) (nI Ll) pl sf sp si vc vle vfl vwi vpr er prow dgs (nI lc) p2 p3 p4 1 := by
        unfold f_N_form_18
        rw [if_neg (by decide), w1, bi1_s, if_neg (by decide)]
      rcases bounds with hb | ⟨fl, w, P, hfl, hw99, hP1, hP2, rfl, rfl, rfl⟩
      · obtain ⟨y1, y2⟩ := bad32 hb 1
        exact bad (by rw [xN, x18]; exact y1) (by rw [xM]; exact y2)
      · obtain ⟨l, lB, ll, hcl, hrf⟩ := as_whole v hw hfl hw99 hP1 hP2
        obtain ⟨c', d', s', a', y1, q1⟩ := hcl vc pl dgs prow
        obtain ⟨s2, b2, y2b, o2, y2, q2⟩ := hrf wr bs body out
        have hs : s' = s2 := by rw [q1.1, q2.1]
        subst hs
        have P99 : iI P ≤ (99 : Int32) := by rw [iI_lek 99 (c := 99) (by decide) (by omega) (by omega) (by decide) (by decide)]; exact hP2
        have P1 : ¬ iI P < (-1 : Int32) := by rw [iI_ltk (-1) (c := -1) (by decide) (by omega) (by omega) (by decide) (by decide)]; omega
        refine ⟨s', l, F, Ll, W, s', sf, sp, si, c', nI lc, nI fl, nI w, iI P, er, a', d', lcn, vl, vp, vrl, vrp, s', b2, y2b, ex, lm, o2, rd, lB, ll, hR, hT, q1, q2, ?_, ?_⟩
        · rw [xN, x18]
          unfold f_N_form_32 f_Writer_begin f_N_form_104 f_Page_length
          rw [if_neg (nI_pos (by omega)), if_neg (show ¬ (31 : Int32) < nI fl from nI_nlt (a := 31) (by omega) (by decide)), if_neg (nI_pos (by omega)), if_pos (show nI w ≤ (99 : Int32) from nI_le (b := 99) hw99 (by decide)), if_neg P1, if_pos P99, ck_s (ckC_nI hlc), bi4_s, if_neg (by decide), w2, bi1_s, y1, bi4_s, bi1_s]
        · rw [xM]
          unfold f_M_form_43 f_M_form_154
          rw [if_neg (nI_pos (by omega)), if_neg (show ¬ (31 : Int32) < nI fl from nI_nlt (a := 31) (by omega) (by decide)), if_neg (nI_pos (by omega)), if_neg (show ¬ (99 : Int32) < nI w from nI_nlt (a := 99) hw99 (by decide)), if_neg P1, if_pos P99, if_neg (by decide), w3, bi4_s, if_neg (by decide), y2, bi5_s]
    · have x18 : f_N_form_18 K N E (nI F) (nI Ll) pl sf sp si vc vle vfl vwi vpr er prow dgs (nI lc) p2 p3 p4 1 = some (-1, nI F, nI Ll, pl, sf, sp, si, vc, vle, vfl, vwi, vpr, er, prow, dgs) := by
        unfold f_N_form_18
        rw [if_neg (by decide), w1, bi1_s, if_pos rfl]
      refine bad (by rw [xN]; exact x18) ?_
      rw [xM]
      rcases bounds with hb | ⟨fl, w, P, hfl, hw99, hP1, hP2, rfl, rfl, rfl⟩
      · exact (bad32 hb 1).2
      · have P99 : iI P ≤ (99 : Int32) := by rw [iI_lek 99 (c := 99) (by decide) (by omega) (by omega) (by decide) (by decide)]; exact hP2
        have P1 : ¬ iI P < (-1 : Int32) := by rw [iI_ltk (-1) (c := -1) (by decide) (by omega) (by omega) (by decide) (by decide)]; omega
        unfold f_M_form_43 f_M_form_154
        rw [if_neg (nI_pos (by omega)), if_neg (show ¬ (31 : Int32) < nI fl from nI_nlt (a := 31) (by omega) (by decide)), if_neg (nI_pos (by omega)), if_neg (show ¬ (99 : Int32) < nI w from nI_nlt (a := 99) hw99 (by decide)), if_neg P1, if_pos P99, if_neg (by decide), w3, bi4_s, if_pos rfl]
  · have xM : f_M_form K N E lcn vl vp vrl vrp wr bs body ex lm out rd (nI lc) p2 p3 p4 = f_M_form_29 K N E lcn vl vp vrl vrp wr bs body ex lm out rd (nI lc) p2 p3 p4 0 := by
      unfold f_M_form
      rw [ite_c i100, ite_c i120, ite_c i88, ite_c i111, if_neg (by omega), if_neg (by omega), if_neg (by omega), if_neg (by omega)]
    by_cases hr : Lr lc
    · obtain ⟨r1, r2⟩ := (letR hlc).1 hr
      have xN : f_N_form K N E (nI F) (nI Ll) pl sf sp si vc vle vfl vwi vpr er prow dgs (nI lc) p2 p3 p4 = f_N_form_32 K N E (nI F) (nI Ll) pl sf sp si vc vle vfl vwi vpr er prow dgs (nI lc) p2 p3 p4 0 := by
        unfold f_N_form f_N_form_18
        rw [(letW hlc).2 hw, bi1_s, if_pos rfl, r1, bi1_s, if_neg (by decide), if_pos rfl]
      have xM2 : f_M_form K N E lcn vl vp vrl vrp wr bs body ex lm out rd (nI lc) p2 p3 p4 = f_M_form_43 K N E lcn vl vp vrl vrp wr bs body ex lm out rd (nI lc) p2 p3 p4 0 := by
        rw [xM]
        unfold f_M_form_29
        rw [if_pos rfl, r2, bi1_s, if_neg (by decide)]
      rcases bounds with hb | ⟨fl, w, P, hfl, hw99, hP1, hP2, rfl, rfl, rfl⟩
      · obtain ⟨y1, y2⟩ := bad32 hb 0
        exact bad (by rw [xN]; exact y1) (by rw [xM2]; exact y2)
      · obtain ⟨l, lB, ll, -, hcl, hrf⟩ := as_real hV hr hfl hw99 hP1 hP2
        obtain ⟨c', d', F', L', W', s', er', a', sf', sp', si', y1, z1, z2, q1⟩ := hcl vc pl dgs prow F Ll W er sf sp si hR hT
        obtain ⟨lcn', vl', vp', vrl', vrp', s2, bs', body', ex', lm', out', rd', y2, q2⟩ := hrf lcn vl vp vrl vrp wr bs body ex lm out rd K N E
        have hs : s' = s2 := by rw [q1.1, q2.1]
        subst hs
        have P99 : iI P ≤ (99 : Int32) := by rw [iI_lek 99 (c := 99) (by decide) (by omega) (by omega) (by decide) (by decide)]; exact hP2
        have P1 : ¬ iI P < (-1 : Int32) := by rw [iI_ltk (-1) (c := -1) (by decide) (by omega) (by omega) (by decide) (by decide)]; omega
        refine ⟨s', l, F', L', W', s', sf', sp', si', c', nI lc, nI fl, nI w, iI P, er', a', d', lcn', vl', vp', vrl', vrp', s', bs', body', ex', lm', out', rd', lB, ll, z1, z2, q1, q2, ?_, ?_⟩
        · rw [xN]
          unfold f_N_form_32 f_Writer_begin f_N_form_104 f_Page_length
          rw [if_neg (nI_pos (by omega)), if_neg (show ¬ (31 : Int32) < nI fl from nI_nlt (a := 31) (by omega) (by decide)), if_neg (nI_pos (by omega)), if_pos (show nI w ≤ (99 : Int32) from nI_le (b := 99) hw99 (by decide)), if_neg P1, if_pos P99, ck_s (ckC_nI hlc), bi4_s, if_pos rfl, y1, bi10_s, bi1_s]
        · rw [xM2]
          unfold f_M_form_43
          rw [if_neg (nI_pos (by omega)), if_neg (show ¬ (31 : Int32) < nI fl from nI_nlt (a := 31) (by omega) (by decide)), if_neg (nI_pos (by omega)), if_neg (show ¬ (99 : Int32) < nI w from nI_nlt (a := 99) hw99 (by decide)), if_neg P1, if_pos P99, if_pos rfl]
          exact y2
    · obtain ⟨r1, r2⟩ := (letR hlc).2 hr
      refine bad ?_ ?_
      · unfold f_N_form
        rw [(letW hlc).2 hw, bi1_s, if_pos rfl, r1, bi1_s, if_pos rfl]
      · rw [xM]
        unfold f_M_form_29
        rw [if_pos rfl, r2, bi1_s, if_pos rfl]

/-! reals written: reference -/
theorem neg_eq {m : Nat} (hm : m < 9007199254740992) {neg : Bool} (hneg : neg = true → m ≠ 0) : ((0 : Int64) ≤ jJ (if neg then -(m : Int) else m)) = (neg = false) := by
  rw [show (0 : Int64) = jJ 0 from by decide, jJ_le (by decide) (by decide) (by split <;> omega) (by split <;> omega)]
  apply propext
  cases neg
  · rw [if_neg (by decide)]
    constructor
    · intro _; rfl
    · intro _; omega
  · have := hneg rfl
    rw [if_pos rfl]
    constructor
    · intro q; omega
    · intro q; exact absurd q (by decide)
theorem m250 (vk : Int32) (vn : Int64) (ve lcn vl vp vrl vrp wr : Int32) {bs : Int32} {body : Nat → Int32} (ex lm out rd : Nat → Int32) {fl w : Nat} (hfl : fl < 32) (hw : w ≤ 99) (neg : Bool) {fr rs : List Nat} (h2 : By fr) (h3 : By rs) (hl : (fr ++ rs).length ≤ 500) (hPt : Pt bs body (fr ++ rs)) :
    ∃ sz' out', f_M_formReal_250 vk vn ve lcn vl vp vrl vrp wr bs body ex lm out rd (nI fl) (nI w) (nI fr.length) (bz neg) = some (sz', lcn, vl, vp, vrl, vrp, sz', bs, body, ex, lm, out', rd) ∧ Pt sz' out' (fin' fl w (decide (fl / 16 % 2 = 1) && decide (vk = 2)) (sgl (sgc fl neg)) fr rs) := by
  obtain ⟨s1, o1, e1, q1⟩ := finish_eq hfl hw (zf := decide (fl / 16 % 2 = 1) && decide (vk = 2)) h2 h3 (sgc_lt fl neg) hl hPt wr out
  refine ⟨s1, o1, ?_, q1⟩
  unfold f_M_formReal_250 f_M_formReal_281 f_M_formReal_282
  rw [msign fl hfl neg, bi1_s, ite_c (and16f fl hfl)]
  by_cases g : fl / 16 % 2 = 1
  · rw [decide_eq_true g, Bool.true_and] at e1
    rw [if_neg (by simp [g])]
    by_cases z : vk = 2
    · rw [decide_eq_true z] at e1
      rw [if_pos z, show (1 : Int32) = bz true from rfl, e1, bi3_s]
    · rw [decide_eq_false z] at e1
      rw [if_neg z, show (0 : Int32) = bz false from rfl, e1, bi3_s]
  · rw [decide_eq_false g, Bool.false_and] at e1
    rw [if_pos (by simp [g]), show (0 : Int32) = bz false from rfl, e1, bi3_s]
theorem mreal {m : Nat} {E : Int} (h : Rl m E) {neg : Bool} (hneg : neg = true → m ≠ 0) {lc : Nat} (hlc : Lr lc) {fl w : Nat} (hfl : fl < 32) (hw : w ≤ 99) {P : Int} (hP1 : -1 ≤ P) (hP2 : P ≤ 99) {fr rs : List Nat} (hC : Cn m E lc fl P fr rs) (hfrB : By fr) (hrsB : By rs) (hfl2 : fr.length ≤ 2) (hlen : (fr ++ rs).length ≤ 415) (lcn vl vp vrl vrp wr bs : Int32) (body ex lm out rd : Nat → Int32) :
    ∃ (lcn' vl' vp' vrl' vrp' sz' bs' : Int32) (body' ex' lm' out' rd' : Nat → Int32), f_M_formReal 2 (jJ (if neg then -(m : Int) else m)) (iI E) lcn vl vp vrl vrp wr bs body ex lm out rd (nI lc) (nI fl) (nI w) (iI P) = some (sz', lcn', vl', vp', vrl', vrp', sz', bs', body', ex', lm', out', rd') ∧ Pt sz' out' (fin' fl w (decide (fl / 16 % 2 = 1)) (sgl (sgc fl neg)) fr rs) := by
  have hlt := Lr_lt hlc
  have hb : bP P ≤ 99 := by unfold bP; split <;> omega
  have hlsl : lsm lc < 2147483648 := by unfold lsm; split <;> omega
  have i97 : (nI (lsm lc) = (97 : Int32)) = (lsm lc = 97) := nI_k 97 rfl hlsl (by decide)
  have i102 : (nI (lsm lc) = (102 : Int32)) = (lsm lc = 102) := nI_k 102 rfl hlsl (by decide)
  have i101 : (nI (lsm lc) = (101 : Int32)) = (lsm lc = 101) := nI_k 101 rfl hlsl (by decide)
  have i103 : (nI (lsm lc) = (103 : Int32)) = (lsm lc = 103) := nI_k 103 rfl hlsl (by decide)
  obtain ⟨c1, L, pt, ex1, lm1, x1, hX, h1, h2⟩ := mexp h neg lcn vl vp ex lm
  have hvneg := neg_eq h.1 hneg
  generalize hvn : jJ (if neg then -(m : Int) else m) = vn at *
  -- down to the small letter
  have top : f_M_formReal 2 vn (iI E) lcn vl vp vrl vrp wr bs body ex lm out rd (nI lc) (nI fl) (nI w) (iI P) = f_M_formReal_144 2 vn (iI E) c1 (nI L) (iI pt) vrl vrp wr 0 body ex1 lm1 out rd (nI lc) (nI fl) (nI w) (iI P) (bz (decide (lc < 97))) (bz neg) (bz (decide (fl / 8 % 2 = 1))) (nI (lsm lc)) (nI (bP P)) := by
    have y65 : ∀ (gr : Bool), gr = decide (lc < 97) → ∀ al : Bool, f_M_formReal_65 2 vn (iI E) lcn vl vp vrl vrp wr 0 body ex lm out rd (nI lc) (nI fl) (nI w) (iI P) (bz gr) 0 (bz neg) (bz al) = f_M_formReal_144 2 vn (iI E) c1 (nI L) (iI pt) vrl vrp wr 0 body ex1 lm1 out rd (nI lc) (nI fl) (nI w) (iI P) (bz gr) (bz neg) (bz al) (nI (lsm lc)) (nI (bP P)) := by
      intro gr hgr al
      have y130 : f_M_formReal_130 2 vn (iI E) c1 (nI L) (iI pt) vrl vrp wr 0 body ex1 lm1 out rd (nI lc) (nI fl) (nI w) (iI P) (bz gr) (bz neg) (bz al) (nI (lsm lc)) = f_M_formReal_144 2 vn (iI E) c1 (nI L) (iI pt) vrl vrp wr 0 body ex1 lm1 out rd (nI lc) (nI fl) (nI w) (iI P) (bz gr) (bz neg) (bz al) (nI (lsm lc)) (nI (bP P)) := by
        unfold f_M_formReal_130
        rw [ite_c (show ((0 : Int32) ≤ iI P) = (0 ≤ P) from by rw [iI_kle 0 (by decide) (by omega) (by omega) (by decide) (by decide)])]
        unfold bP
        by_cases z : P = -1
        · rw [if_neg (by omega), if_pos z]; rfl
        · rw [if_pos (by omega), if_neg z, show nI P.toNat = iI P from by rw [iI_nI]; congr 1; omega]
      unfold f_M_formReal_65
      rw [if_neg (by decide), if_pos rfl, x1, bi5_s, ite_c (bz_f _), ← y130]
      unfold lsm
      by_cases g : lc < 97
      · rw [if_neg (by rw [hgr, decide_eq_true g]; decide), if_pos g, show nI lc + (32 : Int32) = nI (lc + 32) from nI_add _ 32]
      · rw [if_pos (by rw [hgr, decide_eq_false g]), if_neg g]
    have y51 : ∀ gr : Bool, gr = decide (lc < 97) → f_M_formReal_51 2 vn (iI E) lcn vl vp vrl vrp wr 0 body ex lm out rd (nI lc) (nI fl) (nI w) (iI P) (bz gr) 0 (bz neg) = f_M_formReal_144 2 vn (iI E) c1 (nI L) (iI pt) vrl vrp wr 0 body ex1 lm1 out rd (nI lc) (nI fl) (nI w) (iI P) (bz (decide (lc < 97))) (bz neg) (bz (decide (fl / 8 % 2 = 1))) (nI (lsm lc)) (nI (bP P)) := by
      intro gr hgr
      unfold f_M_formReal_51
      rw [ite_c (and8f fl hfl), ← hgr]
      by_cases g : fl / 8 % 2 = 1
      · rw [if_neg (by simp [g]), decide_eq_true g]
        exact y65 gr hgr true
      · rw [if_pos (by simp [g]), decide_eq_false g]
        exact y65 gr hgr false
    have y16 : ∀ gr : Bool, gr = decide (lc < 97) → f_M_formReal_16 2 vn (iI E) lcn vl vp vrl vrp wr 0 body ex lm out rd (nI lc) (nI fl) (nI w) (iI P) (bz gr) = f_M_formReal_144 2 vn (iI E) c1 (nI L) (iI pt) vrl vrp wr 0 body ex1 lm1 out rd (nI lc) (nI fl) (nI w) (iI P) (bz (decide (lc < 97))) (bz neg) (bz (decide (fl / 8 % 2 = 1))) (nI (lsm lc)) (nI (bP P)) := by
      intro gr hgr
      rw [← y51 gr hgr]
      unfold f_M_formReal_16 f_M_formReal_46 f_M_formReal_50
      rw [if_neg (by decide), if_pos rfl, ite_c hvneg]
      cases neg
      · rw [if_pos rfl]; rfl
      · rw [if_neg (by decide)]; rfl
    unfold f_M_formReal
    rw [ite_c (show ((97 : Int32) ≤ nI lc) = (97 ≤ lc) from propext (nI_leI (a := 97) (by decide) (by omega)))]
    by_cases g : 97 ≤ lc
    · rw [if_pos g]
      exact y16 false (by rw [decide_eq_false (by omega)])
    · rw [if_neg g]
      exact y16 true (by rw [decide_eq_true (by omega)])
  rw [top]
  -- from the body on
  have fin0 : ∀ (rl2 rp2 s2 : Int32) (a2 rd2 : Nat → Int32), Pt s2 a2 (fr ++ rs) → ∃ (lcn' vl' vp' vrl' vrp' sz' bs' : Int32) (body' ex' lm' out' rd' : Nat → Int32), f_M_formReal_236 2 vn (iI E) c1 (nI L) (iI pt) rl2 rp2 wr s2 a2 ex1 lm1 out rd2 (nI fl) (nI w) (bz neg) (nI (lsm lc)) = some (sz', lcn', vl', vp', vrl', vrp', sz', bs', body', ex', lm', out', rd') ∧ Pt sz' out' (fin' fl w (decide (fl / 16 % 2 = 1)) (sgl (sgc fl neg)) fr rs) := by
    intro rl2 rp2 s2 a2 rd2 q2
    obtain ⟨s3, o3, e3, q3⟩ := m250 2 vn (iI E) c1 (nI L) (iI pt) rl2 rp2 wr ex1 lm1 out rd2 hfl hw neg hfrB hrsB (by omega) q2
    rw [decide_eq_true (show (2 : Int32) = 2 from rfl), Bool.and_true] at q3
    refine ⟨c1, nI L, iI pt, rl2, rp2, s3, s2, a2, ex1, lm1, o3, rd2, ?_, q3⟩
    · unfold f_M_formReal_236 f_M_formReal_248
      rw [ite_c i97]
      rcases hC with ⟨hs, hf0, -⟩ | ⟨hs, hf0, -⟩ | ⟨hs, hf0, -⟩ | ⟨hs, hf0, -⟩
      · rw [if_neg (by omega)]
        rw [hf0] at e3
        exact e3
      · rw [if_neg (by omega)]
        rw [hf0] at e3
        exact e3
      · rw [if_neg (by omega)]
        rw [hf0] at e3
        exact e3
      · rw [if_pos hs]
        rw [hf0] at e3
        exact e3
  have hC' := hC
  rcases hC' with ⟨hs, hf0, t, ht, hrs⟩ | ⟨hs, hf0, tv, t, c, htv, ht, hc, hrs⟩ | ⟨hs, hf0, tv, t, c, htv, ht, hc, hrs⟩ | ⟨hs, hf0, c, hc, hrs⟩
  · -- f
    obtain ⟨rl2, rp2, rd2, s2, a2, e2, q2⟩ := mfixed hX (by omega) (by omega) (b := bP P) (by omega) (decide (fl / 8 % 2 = 1)) ht vrl vrp rd (Pt_nil body) (by simp)
    rw [List.nil_append, ← hrs] at q2
    unfold f_M_formReal_144 f_M_formReal_161 f_M_formReal_176 f_M_formReal_192 f_M_formReal_219
    rw [ite_c i102, if_pos hs, e2, bi5_s, ite_c i101, if_neg (by omega), ite_c i101, if_neg (by omega), ite_c i103, if_neg (by omega), ite_c i97, if_neg (by omega)]
    exact fin0 rl2 rp2 s2 a2 rd2 (by rw [hf0, List.nil_append]; exact q2)
  · -- e
    have hvr := Vv_top h htv
    have hr := Tp_rng h htv (by omega) ht
    obtain ⟨rl2, rp2, rd2, e2, hRt, hrp, hp1, hp2⟩ := ref_round hX h1 h2 htv (by omega) ht vrl vrp rd
    have helt : nI lc = nI (elt lc) := by
      rcases hlc with rfl | rfl | rfl | rfl | rfl | rfl | rfl | rfl
      · rfl
      · rfl
      all_goals exact absurd hs (by decide)
    obtain ⟨s3, a3, e3, q3⟩ := mpowerf hRt (by omega) (by omega) hX.1 (rp := rp2) hrp hc (b := bP P) (by omega) (decide (fl / 8 % 2 = 1)) (elt_lt lc) (Pt_nil body) (by simp)
    rw [List.nil_append, ← hrs] at q3
    unfold f_M_formReal_144 f_M_formReal_161 f_M_formReal_176 f_M_formReal_192 f_M_formReal_219
    rw [ite_c i102, if_neg (by omega), ite_c i101, if_pos hs, nI_1, e2, bi3_s, ite_c i101, if_pos hs]
    rw [helt]
    rw [e3, bi2_s, ite_c i103, if_neg (by omega), ite_c i97, if_neg (by omega)]
    exact fin0 rl2 (iI rp2) s3 a3 rd2 (by rw [hf0, List.nil_append]; exact q3)
  · -- g
    obtain ⟨rl2, rp2, s2, a2, rd2, e2, q2⟩ := ref_g hX h1 h2 htv (q := bP P - 1) (by omega) ht hc (decide (fl / 8 % 2 = 1)) (elt_lt lc) vrl vrp rd (Pt_nil body) (by simp)
    rw [List.nil_append, ← hrs] at q2
    have x18 : f_M_general (nI L) (iI pt) vrl vrp 0 body ex1 rd (iI P) (bz (decide (fl / 8 % 2 = 1))) (nI (elt lc)) = f_M_general_18 (nI L) (iI pt) vrl vrp 0 body ex1 rd (bz (decide (fl / 8 % 2 = 1))) (nI (elt lc)) (nI (bP P - 1 + 1)) := by
      unfold f_M_general
      rw [ite_c (show ((0 : Int32) ≤ iI P) = (0 ≤ P) from by rw [iI_kle 0 (by decide) (by omega) (by omega) (by decide) (by decide)]), ite_c (show (iI P = (0 : Int32)) = (P = 0) from by rw [show (0 : Int32) = iI 0 from by decide, iI_eq (by omega) (by omega) (by decide) (by decide)])]
      unfold bP
      by_cases z : P = -1
      · rw [if_neg (by omega), if_pos z]; rfl
      · rw [if_pos (by omega), if_neg z]
        by_cases z0 : P = 0
        · rw [if_pos z0, z0]; rfl
        · rw [if_neg z0, show nI (P.toNat - 1 + 1) = iI P from by rw [iI_nI]; congr 1; omega]
    rw [← x18] at e2
    unfold f_M_formReal_144 f_M_formReal_161 f_M_formReal_176 f_M_formReal_192 f_M_formReal_216
    rw [ite_c i102, if_neg (by omega), ite_c i101, if_neg (by omega), ite_c i101, if_neg (by omega), ite_c i103, if_pos hs, ite_c (bz_f _)]
    have e219 : ∃ (lcn' vl' vp' vrl' vrp' sz' bs' : Int32) (body' ex' lm' out' rd' : Nat → Int32), f_M_formReal_219 2 vn (iI E) c1 (nI L) (iI pt) rl2 rp2 wr s2 a2 ex1 lm1 out rd2 (nI fl) (nI w) (iI P) (bz (decide (lc < 97))) (bz neg) (bz (decide (fl / 8 % 2 = 1))) (nI (lsm lc)) = some (sz', lcn', vl', vp', vrl', vrp', sz', bs', body', ex', lm', out', rd') ∧ Pt sz' out' (fin' fl w (decide (fl / 16 % 2 = 1)) (sgl (sgc fl neg)) fr rs) := by
      unfold f_M_formReal_219
      rw [ite_c i97, if_neg (by omega)]
      exact fin0 rl2 rp2 s2 a2 rd2 (by rw [hf0, List.nil_append]; exact q2)
    unfold elt at e2
    by_cases g : lc < 97
    · rw [if_neg (show ¬ 97 ≤ lc by omega)] at e2
      rw [if_neg (by simp [g]), show (69 : Int32) = nI 69 from rfl, e2, bi5_s]
      exact e219
    · rw [if_pos (show 97 ≤ lc by omega)] at e2
      rw [if_pos (by simp [g]), show (101 : Int32) = nI 101 from rfl, e2, bi5_s]
      exact e219
  · -- a
    obtain ⟨s2, a2, e2, q2⟩ := mhex neg h hP1 hP2 (gr := decide (lc < 97)) (al := decide (fl / 8 % 2 = 1)) hc (Pt_nil body) (by simp)
    rw [hvn] at e2
    rw [List.nil_append, ← hrs, ← hf0] at q2
    unfold f_M_formReal_144 f_M_formReal_161 f_M_formReal_176 f_M_formReal_192 f_M_formReal_219
    rw [ite_c i102, if_neg (by omega), ite_c i101, if_neg (by omega), ite_c i101, if_neg (by omega), ite_c i103, if_neg (by omega), ite_c i97, if_pos hs, e2, bi2_s]
    exact fin0 vrl vrp s2 a2 rd q2

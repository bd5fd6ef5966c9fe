/-! whole numbers written: reference -/
theorem and16f (fl : Nat) (h : fl < 32) : ((nI fl &&& (16 : Int32)) = 0) = ((decide (fl / 16 % 2 = 1)) = false) := by
  have : ∀ fl, fl < 32 → decide ((nI fl &&& (16 : Int32)) = 0) = decide ((decide (fl / 16 % 2 = 1)) = false) := by decide +kernel
  exact propext (decide_eq_decide.mp (this fl h))
theorem and8f (fl : Nat) (h : fl < 32) : ((nI fl &&& (8 : Int32)) = 0) = ((decide (fl / 8 % 2 = 1)) = false) := by
  have : ∀ fl, fl < 32 → decide ((nI fl &&& (8 : Int32)) = 0) = decide ((decide (fl / 8 % 2 = 1)) = false) := by decide +kernel
  exact propext (decide_eq_decide.mp (this fl h))
theorem nI_k {n : Nat} (k : Nat) {c : Int32} (hc : c = nI k) (hn : n < 2147483648) (hk : k < 2147483648) : (nI n = c) = (n = k) := by
  rw [hc]
  exact propext (nI_eq hn hk)
theorem m210 {lc : Nat} (hlc : lc < 65536) (v : Int64) (wr : Int32) {bs : Int32} {body : Nat → Int32} (out : Nat → Int32) {fl w : Nat} (hfl : fl < 32) (hw : w ≤ 99) {P : Int} (hP1 : -1 ≤ P) (hP2 : P ≤ 99) (neg : Bool) {fr rs : List Nat} (h2 : By fr) (h3 : By rs) (hl : (fr ++ rs).length ≤ 500) (hPt : Pt bs body (fr ++ rs)) :
    ∃ sz' out', f_M_formWhole_210 v wr bs body out (nI lc) (nI fl) (nI w) (iI P) (nI fr.length) (bz neg) = some (sz', sz', bs, body, out') ∧ Pt sz' out' (fin' fl w (decide (fl / 16 % 2 = 1) && decide (P = -1)) (sgl (sgW lc fl neg)) fr rs) := by
  have fin0 : ∀ sg, sg < 128 → sg = sgW lc fl neg → ∃ sz' out', f_M_formWhole_230 v wr bs body out (nI fl) (iI P) (nI fr.length) (nI fl) (nI w) (nI sg) = some (sz', sz', bs, body, out') ∧ Pt sz' out' (fin' fl w (decide (fl / 16 % 2 = 1) && decide (P = -1)) (sgl (sgW lc fl neg)) fr rs) := by
    intro sg hsg hs
    obtain ⟨s1, o1, e1, q1⟩ := finish_eq hfl hw (zf := decide (fl / 16 % 2 = 1) && decide (P = -1)) h2 h3 hsg hl hPt wr out
    refine ⟨s1, o1, ?_, by rw [← hs]; exact q1⟩
    unfold f_M_formWhole_230 f_M_formWhole_248 f_M_formWhole_249
    rw [ite_c (and16f fl hfl), ite_c (show ((0 : Int32) ≤ iI P) = (0 ≤ P) from by rw [iI_kle 0 (by decide) (by omega) (by omega) (by decide) (by decide)])]
    by_cases g : fl / 16 % 2 = 1
    · rw [decide_eq_true g, Bool.true_and] at e1
      rw [if_neg (by simp [g])]
      by_cases z : P = -1
      · rw [decide_eq_true z] at e1
        rw [if_neg (by omega), show (1 : Int32) = bz true from rfl, e1, bi3_s]
      · rw [decide_eq_false z] at e1
        rw [if_pos (by omega), show (0 : Int32) = bz false from rfl, e1, bi3_s]
    · rw [decide_eq_false g, Bool.false_and] at e1
      rw [if_pos (by simp [g]), show (0 : Int32) = bz false from rfl, e1, bi3_s]
  unfold f_M_formWhole_210
  rw [ite_c (nI_k 100 (c := 100) rfl (by omega) (by decide))]
  by_cases c : lc = 100
  · rw [if_pos c, msign fl hfl neg, bi1_s]
    exact fin0 _ (sgc_lt fl neg) (by unfold sgW; rw [if_pos c])
  · rw [if_neg c]
    exact fin0 0 (by decide) (by unfold sgW; rw [if_neg c])
theorem m175 (v : Int64) (wr bs : Int32) (out : Nat → Int32) (y1 y2 y3 y4 y5 y8 : Int32) {B : List Nat} (hB : By B) (hl : B.length < 600) : ∀ (t f : Nat) (a : Nat → Int32), t ≤ B.length → t < f → (∀ i, i < B.length + 1 → a i = nI (if i ≤ t then (B ++ [48]).getD i 0 else B.getD (i - 1) 0)) →
    ∃ a', f_M_formWhole_175 f v wr bs a out y1 y2 y3 y4 y5 y8 (nI t) = f_M_formWhole_202 v wr bs a' out y1 y2 y3 y4 y5 y8 ∧ (∀ i, 1 ≤ i → i < B.length + 1 → a' i = nI (B.getD (i - 1) 0)) := by
  intro t
  induction t with
  | zero =>
    intro f a ht hf ha
    obtain ⟨f, rfl⟩ : ∃ j, f = j + 1 := ⟨f - 1, by omega⟩
    refine ⟨a, ?_, ?_⟩
    · show f_M_formWhole_175b _ _ _ _ _ _ _ _ _ _ _ _ _ = _
      unfold f_M_formWhole_175b
      rw [if_pos (by decide)]
    · intro i h1 h2
      rw [ha i h2, if_neg (by omega)]
  | succ t ih =>
    intro f a ht hf ha
    obtain ⟨f, rfl⟩ : ∃ j, f = j + 1 := ⟨f - 1, by omega⟩
    have hat : a t = nI (B.getD t 0) := by
      rw [ha t (by omega), if_pos (by omega), gA, if_pos (by omega)]
    show ∃ a', f_M_formWhole_175b _ _ _ _ _ _ _ _ _ _ _ _ _ = _ ∧ _
    unfold f_M_formWhole_175b
    rw [if_neg (nI_nle (by omega) (by omega)), nI_pred, ck_s (gin_nI (by omega) (by decide)), ck_s (gin_nI (by omega) (by decide)), bd_s, bd_s, nI_clamp (by omega), nI_clamp (by omega), hat, byte1 _ (hB t (by omega)), show nI (t + 1) + (-1 : Int32) = nI t from by rw [sub_one _ (by omega), iI_nI]; congr 1; omega]
    refine ih f _ (by omega) (by omega) ?_
    intro i hi
    unfold upd
    by_cases c : i = t + 1
    · rw [if_pos c, if_neg (by omega), c]
      rfl
    · rw [if_neg c, ha i hi]
      by_cases d : i ≤ t
      · rw [if_pos (by omega), if_pos d]
      · rw [if_neg (by omega), if_neg d]
theorem m161 {lc : Nat} (hlc : lc < 65536) (v : Int64) (wr : Int32) {bs : Int32} {body : Nat → Int32} (out : Nat → Int32) {fl w : Nat} (hfl : fl < 32) (hw : w ≤ 99) {P : Int} (hP1 : -1 ≤ P) (hP2 : P ≤ 99) (neg : Bool) {rs : List Nat} (h3 : By rs) (hl : rs.length ≤ 300) (hPt : Pt bs body rs) :
    ∃ sz' bs' body' out', f_M_formWhole_161 v wr bs body out (nI lc) (nI fl) (nI w) (iI P) 0 (bz neg) = some (sz', sz', bs', body', out') ∧ Pt sz' out' (fin' fl w (decide (fl / 16 % 2 = 1) && decide (P = -1)) (sgl (sgW lc fl neg)) [] ([48] ++ rs)) := by
  obtain ⟨s1, a1, e1, q1⟩ := mput (b := 48) hPt (by omega) (by decide)
  have hs1 : s1 = nI (rs.length + 1) := by rw [q1.1, List.length_append]; rfl
  obtain ⟨a2, e2, h2⟩ := m175 v wr s1 out (nI lc) (nI fl) (nI w) (iI P) 0 (bz neg) h3 (by omega) rs.length fu a1 (Nat.le_refl _) (by unfold fu; omega) (by
    intro i hi
    rw [if_pos (by omega)]
    exact q1.2 i (by rw [List.length_append, List.length_singleton]; exact hi))
  have q3 : Pt s1 (upd a2 0 (nI 48)) ([] ++ ([48] ++ rs)) := by
    refine ⟨by rw [hs1, List.nil_append, List.length_append, List.length_singleton]; congr 1; omega, ?_⟩
    intro i hi
    rw [List.nil_append, List.length_append, List.length_singleton] at hi
    unfold upd
    rw [List.nil_append, gA, List.length_singleton]
    by_cases c : i = 0
    · rw [if_pos c, if_pos (by omega), c]
      rfl
    · rw [if_neg c, if_neg (by omega)]
      exact h2 i (by omega) (by omega)
  obtain ⟨s4, o4, e4, q4⟩ := m210 hlc v wr out hfl hw hP1 hP2 neg By_nil (By_app (By_one (b := 48) (by decide)) h3) (by rw [List.nil_append, List.length_append, List.length_singleton]; omega) q3
  refine ⟨s4, s1, upd a2 0 (nI 48), o4, ?_, q4⟩
  unfold f_M_formWhole_161
  rw [show (48 : Int32) = nI 48 from rfl, e1, bi2_s, bd_s, hs1, nI_pred, ← hs1, e2]
  unfold f_M_formWhole_202
  rw [ck_s (show gin (0 : Int32) 700 from gin_nI (n := 0) (by decide) (by decide)), bd_s]
  exact e4
theorem fin_o (fl w : Nat) (zf : Bool) (rs : List Nat) : fin' fl w zf [] [48] rs = fin' fl w zf [] [] ([48] ++ rs) := by
  unfold fin'
  simp only [List.nil_append, List.append_nil]
  split
  · rfl
  · split
    · generalize w - ([48] ++ rs).length = k
      rw [show ([48] : List Nat) ++ List.replicate k 48 = List.replicate k 48 ++ [48] from by rw [← List.replicate_succ', List.replicate_succ]; rfl, List.append_assoc]
    · rfl
theorem mform {lc : Nat} (hlc : lc = 100 ∨ lc = 111 ∨ lc = 120 ∨ lc = 88) {v : Int64} {neg : Bool} {u : Nat} (hv : Wv lc v neg u) {c : Nat} (hc : Wc (wmd lc) u c) (hc2 : c ≤ 22) {fl w : Nat} (hfl : fl < 32) (hw : w ≤ 99) {P : Int} (hP1 : -1 ≤ P) (hP2 : P ≤ 99) (hneg : lc = 100 → ((0 : Int64) ≤ v) = (neg = false)) (hneg2 : lc ≠ 100 → neg = false) (wr bs : Int32) (body out : Nat → Int32) :
    ∃ sz' bs' body' out', f_M_formWhole v wr bs body out (nI lc) (nI fl) (nI w) (iI P) = some (sz', sz', bs', body', out') ∧ Pt sz' out' (fin' fl w (decide (fl / 16 % 2 = 1) && decide (P = -1)) (sgl (sgW lc fl neg)) (wmk lc fl u (lsP P - c)) (wl (wmd lc) (decide (lc < 97)) u c (lsP P))) := by
  have hlc128 : lc < 128 := by rcases hlc with rfl | rfl | rfl | rfl <;> decide
  have hmd : 0 < wmd lc ∧ wmd lc ≤ 16 := by rcases hlc with rfl | rfl | rfl | rfl <;> decide
  have hmd3 : wmd lc = 10 ∨ wmd lc = 8 ∨ wmd lc = 16 := by rcases hlc with rfl | rfl | rfl | rfl <;> decide
  have hls : lsP P ≤ 99 := by unfold lsP; split <;> omega
  have h0 := Wv_0 hv
  obtain ⟨hv1, hv2, hv3⟩ := hv
  have hwl := wl_len (wmd lc) (decide (lc < 97)) u c (lsP P)
  have hwB := wl_By hmd.1 hmd.2 (decide (lc < 97)) u c (lsP P)
  have hmB := wmk_By hlc128 fl u (lsP P - c)
  have hml := wmk_len lc fl u (lsP P - c)
  have i100 := nI_k (n := lc) 100 (c := (100 : Int32)) rfl (by omega) (by decide)
  have i111 := nI_k (n := lc) 111 (c := (111 : Int32)) rfl (by omega) (by decide)
  have i88 := nI_k (n := lc) 88 (c := (88 : Int32)) rfl (by omega) (by decide)
  -- the mark of 16, then the digits
  have t123 : ∀ (s1 : Int32) (a1 : Nat → Int32) (fr : List Nat), fr.length ≤ 2 → By fr → Pt s1 a1 fr → (lc = 111 → fr = []) → ((fl / 8 % 2 = 1 ∧ lc = 111) ∨ fr = wmk lc fl u (lsP P - c)) → ∃ sz' bs' body' out', f_M_formWhole_98 v wr s1 a1 out (nI lc) (nI fl) (nI w) (iI P) (nI fr.length) (bz (decide (lc < 97))) (nI (lsP P)) (bz neg) = some (sz', sz', bs', body', out') ∧ Pt sz' out' (fin' fl w (decide (fl / 16 % 2 = 1) && decide (P = -1)) (sgl (sgW lc fl neg)) (wmk lc fl u (lsP P - c)) (wl (wmd lc) (decide (lc < 97)) u c (lsP P))) := by
    intro s1 a1 fr hfl2 hfrB q1 h111 hfr
    obtain ⟨s2, a2, e2, q2⟩ := mwhole hmd3 (gr := decide (lc < 97)) (neg := neg) hv2 (by
      intro z
      have : lc = 100 := by
        rcases hlc with rfl | rfl | rfl | rfl
        · rfl
        all_goals exact absurd z (by decide)
      exact ⟨(hv3 this).1, (hv3 this).2.1⟩) hc hc2 (ls := lsP P) hls q1 (by omega)
    rw [← hv1] at e2
    have x98 : f_M_formWhole_98 v wr s1 a1 out (nI lc) (nI fl) (nI w) (iI P) (nI fr.length) (bz (decide (lc < 97))) (nI (lsP P)) (bz neg) = f_M_formWhole_123 v wr s1 a1 out (nI lc) (nI fl) (nI w) (iI P) (nI fr.length) (bz (decide (lc < 97))) (nI (lsP P)) (bz neg) (nI (wmd lc)) := by
      unfold f_M_formWhole_98
      rw [ite_c i100, ite_c i111]
      rcases hlc with rfl | rfl | rfl | rfl
      · rw [if_pos rfl]; rfl
      · rw [if_neg (by decide), if_pos rfl]; rfl
      · rw [if_neg (by decide), if_neg (by decide)]; rfl
      · rw [if_neg (by decide), if_neg (by decide)]; rfl
    rw [x98]
    unfold f_M_formWhole_123
    rw [e2, bi2_s, ite_c (and8f fl hfl), ite_c i111]
    have plain : fr = wmk lc fl u (lsP P - c) → ∃ sz' bs' body' out', f_M_formWhole_210 v wr s2 a2 out (nI lc) (nI fl) (nI w) (iI P) (nI fr.length) (bz neg) = some (sz', sz', bs', body', out') ∧ Pt sz' out' (fin' fl w (decide (fl / 16 % 2 = 1) && decide (P = -1)) (sgl (sgW lc fl neg)) (wmk lc fl u (lsP P - c)) (wl (wmd lc) (decide (lc < 97)) u c (lsP P))) := by
      intro hf
      obtain ⟨s3, o3, e3, q3⟩ := m210 (lc := lc) (by omega) v wr out hfl hw hP1 hP2 neg hfrB hwB (by rw [List.length_append]; omega) q2
      rw [hf] at q3
      exact ⟨s3, s2, a2, o3, e3, q3⟩
    by_cases g : fl / 8 % 2 = 1
    · rw [if_neg (by simp [g])]
      by_cases o : lc = 111
      · rw [if_pos o]
        have hf0 := h111 o
        subst hf0
        rw [List.nil_append] at q2
        have hsg : sgW lc fl neg = 0 := by unfold sgW; rw [if_neg (by omega)]
        have mark : lsP P - c = 0 → ∃ sz' bs' body' out', f_M_formWhole_161 v wr s2 a2 out (nI lc) (nI fl) (nI w) (iI P) (nI ([] : List Nat).length) (bz neg) = some (sz', sz', bs', body', out') ∧ Pt sz' out' (fin' fl w (decide (fl / 16 % 2 = 1) && decide (P = -1)) (sgl (sgW lc fl neg)) (wmk lc fl u (lsP P - c)) (wl (wmd lc) (decide (lc < 97)) u c (lsP P))) := by
          intro hz
          obtain ⟨s4, b4, y4, o4, e4, q4⟩ := m161 (lc := lc) (by omega) v wr out hfl hw hP1 hP2 neg hwB (by omega) q2
          refine ⟨s4, b4, y4, o4, e4, ?_⟩
          have hmk : wmk lc fl u (lsP P - c) = [48] := by
            unfold wmk
            rw [if_pos g, if_neg (by omega), if_pos o, if_pos hz]
          rw [hmk, hsg, sgl_0, fin_o]
          rw [hsg, sgl_0] at q4
          exact q4
        rw [show s2 = nI (max c (lsP P)) from by rw [q2.1, hwl], ite_c (nI_eq0 (by omega))]
        rw [show nI (max c (lsP P)) = s2 from by rw [q2.1, hwl]]
        by_cases z : max c (lsP P) = 0
        · rw [if_pos z]
          exact mark (by omega)
        · rw [if_neg z, ck_s (show gin (0 : Int32) 700 from gin_nI (n := 0) (by decide) (by decide)), show (0 : Int32).toNatClampNeg = 0 from rfl, q2.2 0 (by rw [hwl]; omega)]
          by_cases y : lsP P - c = 0
          · have hc1 : 1 ≤ c := by omega
            obtain ⟨d, rfl⟩ : ∃ d, c = d + 1 := ⟨c - 1, by omega⟩
            have hm8 : wmd lc = 8 := by rw [o]; rfl
            have hw0 : (wl (wmd lc) (decide (lc < 97)) u (d + 1) (lsP P)).getD 0 0 = wg (wmd lc) (decide (lc < 97)) u d := by
              unfold wl
              rw [y]
              rfl
            have htop := Wc_top (md := wmd lc) (by omega) hc
            have hlt8 : wd (wmd lc) u d < 8 := by
              unfold wd
              rw [hm8]
              exact Nat.mod_lt _ (by decide)
            rw [hw0, if_neg (by
              rw [nI_k 48 (c := (48 : Int32)) rfl (by have := wg_lt hmd.1 hmd.2 (decide (lc < 97)) u d; omega) (by decide)]
              unfold wg
              rw [hxd_10 (by omega)]
              omega)]
            exact mark y
          · have hw0 : (wl (wmd lc) (decide (lc < 97)) u c (lsP P)).getD 0 0 = 48 := by
              unfold wl
              rw [gA, List.length_replicate, if_pos (by omega), gR _ _ _ (by omega)]
            rw [hw0, if_pos (show nI 48 = (48 : Int32) from rfl)]
            refine plain ?_
            unfold wmk
            rw [if_pos g, if_neg (by omega), if_pos o, if_neg y]
      · rw [if_neg o]
        refine plain ?_
        rcases hfr with ⟨-, w2⟩ | w2
        · exact absurd w2 o
        · exact w2
    · rw [if_pos (by simp [g])]
      refine plain ?_
      rcases hfr with ⟨w1, w2⟩ | w2
      · exact absurd w1 g
      · exact w2
  have t54 : ∃ sz' bs' body' out', f_M_formWhole_54 v wr 0 body out (nI lc) (nI fl) (nI w) (iI P) 0 (bz (decide (lc < 97))) (nI (lsP P)) (bz neg) = some (sz', sz', bs', body', out') ∧ Pt sz' out' (fin' fl w (decide (fl / 16 % 2 = 1) && decide (P = -1)) (sgl (sgW lc fl neg)) (wmk lc fl u (lsP P - c)) (wl (wmd lc) (decide (lc < 97)) u c (lsP P))) := by
    have empty : ((fl / 8 % 2 = 1 ∧ lc = 111) ∨ ([] : List Nat) = wmk lc fl u (lsP P - c)) → ∃ sz' bs' body' out', f_M_formWhole_98 v wr 0 body out (nI lc) (nI fl) (nI w) (iI P) 0 (bz (decide (lc < 97))) (nI (lsP P)) (bz neg) = some (sz', sz', bs', body', out') ∧ Pt sz' out' (fin' fl w (decide (fl / 16 % 2 = 1) && decide (P = -1)) (sgl (sgW lc fl neg)) (wmk lc fl u (lsP P - c)) (wl (wmd lc) (decide (lc < 97)) u c (lsP P))) := fun h => t123 0 body [] (by simp) By_nil (Pt_nil body) (fun _ => rfl) h
    unfold f_M_formWhole_54
    rw [ite_c (and8f fl hfl), ite_c i100, ite_c i111, ite_c h0]
    by_cases g : fl / 8 % 2 = 1
    · rw [if_neg (by simp [g])]
      by_cases o1 : lc = 100
      · rw [if_pos o1]
        refine empty (Or.inr ?_)
        unfold wmk
        rw [if_pos g, if_pos o1]
      · rw [if_neg o1]
        by_cases o2 : lc = 111
        · rw [if_pos o2]
          exact empty (Or.inl ⟨g, o2⟩)
        · rw [if_neg o2]
          by_cases z : u = 0
          · rw [if_pos z]
            refine empty (Or.inr ?_)
            unfold wmk
            rw [if_pos g, if_neg o1, if_neg o2, if_pos z]
          · rw [if_neg z]
            obtain ⟨s1, a1, e1, q1⟩ := mput (b := 48) (Pt_nil body) (by decide) (by decide)
            obtain ⟨s2, a2, e2, q2⟩ := mput (b := lc) q1 (by decide) hlc128
            rw [show (48 : Int32) = nI 48 from rfl, e1, bi2_s, e2, bi2_s]
            exact t123 s2 a2 [48, lc] (by simp) (By_app (l := [48]) (By_one (by decide)) (By_one hlc128)) q2 (fun w => absurd w o2) (Or.inr (by
              unfold wmk
              rw [if_pos g, if_neg o1, if_neg o2, if_neg z]))
    · rw [if_pos (by simp [g])]
      refine empty (Or.inr ?_)
      unfold wmk
      rw [if_neg g]
  have t32 : f_M_formWhole_32 v wr 0 body out (nI lc) (nI fl) (nI w) (iI P) 0 (bz (decide (lc < 97))) (nI (lsP P)) = f_M_formWhole_54 v wr 0 body out (nI lc) (nI fl) (nI w) (iI P) 0 (bz (decide (lc < 97))) (nI (lsP P)) (bz neg) := by
    unfold f_M_formWhole_32 f_M_formWhole_53
    rw [ite_c i100]
    by_cases o1 : lc = 100
    · rw [if_pos o1, ite_c (hneg o1)]
      cases neg
      · rw [if_pos rfl]; rfl
      · rw [if_neg (by decide)]; rfl
    · rw [if_neg o1, hneg2 o1]
      rfl
  have t19 : f_M_formWhole_19 v wr 0 body out (nI lc) (nI fl) (nI w) (iI P) 0 (bz (decide (lc < 97))) = f_M_formWhole_32 v wr 0 body out (nI lc) (nI fl) (nI w) (iI P) 0 (bz (decide (lc < 97))) (nI (lsP P)) := by
    unfold f_M_formWhole_19
    rw [ite_c (show ((0 : Int32) ≤ iI P) = (0 ≤ P) from by rw [iI_kle 0 (by decide) (by omega) (by omega) (by decide) (by decide)])]
    unfold lsP
    by_cases z : P = -1
    · rw [if_neg (by omega), if_pos z]
      rfl
    · rw [if_pos (by omega), if_neg z, show nI P.toNat = iI P from by rw [iI_nI]; congr 1; omega]
  have t0 : f_M_formWhole v wr bs body out (nI lc) (nI fl) (nI w) (iI P) = f_M_formWhole_19 v wr 0 body out (nI lc) (nI fl) (nI w) (iI P) 0 (bz (decide (lc < 97))) := by
    unfold f_M_formWhole
    rw [ite_c i88]
    rcases hlc with rfl | rfl | rfl | rfl
    · rw [if_neg (by decide)]; rfl
    · rw [if_neg (by decide)]; rfl
    · rw [if_neg (by decide)]; rfl
    · rw [if_pos rfl]; rfl
  rw [t0, t19, t32]
  exact t54

/-! whole numbers written: class and reference -/
def sgc (fl : Nat) (neg : Bool) : Nat := if neg then 45 else if fl / 2 % 2 = 1 then 43 else if fl / 4 % 2 = 1 then 32 else 0
theorem sgc_lt (fl : Nat) (neg : Bool) : sgc fl neg < 128 := by
  unfold sgc
  split
  · decide
  · split
    · decide
    · split <;> decide
theorem sgl_By {c : Nat} (h : c < 128) : By (sgl c) := by
  unfold sgl
  split
  · exact By_nil
  · exact By_one h
theorem sgl_len (c : Nat) : (sgl c).length ≤ 1 := by
  unfold sgl
  split <;> simp
theorem csign {fl : Nat} (hfl : fl < 32) (neg : Bool) (a : Nat → Int32) : ∃ sz' a', f_Writer_putSign (nI fl) 0 a (bz neg) = some (sz', a') ∧ Pt sz' a' (sgl (sgc fl neg)) := by
  have put : ∀ b, b < 128 → b ≠ 0 → ∃ sz' a', f_Page_put 0 a (nI b) = some (sz', a') ∧ Pt sz' a' (sgl b) := by
    intro b hb hb0
    obtain ⟨s, a1, e, h⟩ := cput (b := b) (Pt_nil a) (by decide) hb
    refine ⟨s, a1, e, ?_⟩
    unfold sgl
    rw [if_neg hb0]
    exact h
  unfold f_Writer_putSign sgc
  rw [ite_c (bz_f _), has2 fl hfl, has4 fl hfl, bi1_s, bi1_s, ite_c (bz_f _), ite_c (bz_f _)]
  cases neg
  · rw [if_pos rfl, if_neg (show ¬ (false = true) from by decide)]
    by_cases c : fl / 2 % 2 = 1
    · obtain ⟨s, a1, e, h⟩ := put 43 (by decide) (by decide)
      rw [if_neg (by simp [c]), if_pos c, show (43 : Int32) = nI 43 from rfl, e]
      exact ⟨s, a1, rfl, h⟩
    · rw [if_pos (by simp [c]), if_neg c]
      by_cases d : fl / 4 % 2 = 1
      · obtain ⟨s, a1, e, h⟩ := put 32 (by decide) (by decide)
        rw [if_neg (by simp [d]), if_pos d, show (32 : Int32) = nI 32 from rfl, e]
        exact ⟨s, a1, rfl, h⟩
      · rw [if_pos (by simp [d]), if_neg d]
        exact ⟨0, a, rfl, Pt_nil a⟩
  · obtain ⟨s, a1, e, h⟩ := put 45 (by decide) (by decide)
    rw [if_neg (by decide), if_pos rfl, show (45 : Int32) = nI 45 from rfl, e]
    exact ⟨s, a1, rfl, h⟩
theorem msign : ∀ fl, fl < 32 → ∀ neg : Bool, f_M_signOf (nI fl) (bz neg) = some (nI (sgc fl neg)) := by decide +kernel
def wmd (lc : Nat) : Nat := if lc = 100 then 10 else if lc = 111 then 8 else 16
def wmk (lc fl u zs : Nat) : List Nat := if fl / 8 % 2 = 1 then (if lc = 100 then [] else if lc = 111 then (if zs = 0 then [48] else []) else if u = 0 then [] else [48, lc]) else []
theorem wmk_By {lc : Nat} (h : lc < 128) (fl u zs : Nat) : By (wmk lc fl u zs) := by
  unfold wmk
  split
  · split
    · exact By_nil
    · split
      · split
        · exact By_one (by decide)
        · exact By_nil
      · split
        · exact By_nil
        · exact By_app (l := [48]) (By_one (by decide)) (By_one h)
  · exact By_nil
theorem wmk_len (lc fl u zs : Nat) : (wmk lc fl u zs).length ≤ 2 := by
  unfold wmk
  split
  · split
    · simp
    · split
      · split <;> simp
      · split <;> simp
  · simp
/-- v is the number with size u and sign neg -/
def Wv (lc : Nat) (v : Int64) (neg : Bool) (u : Nat) : Prop := v = wX (wmd lc) neg u 0 ∧ u < 18446744073709551616 ∧ (lc = 100 → u ≤ 9223372036854775808 ∧ (neg = false → u < 9223372036854775808) ∧ (neg = true → u ≠ 0))
theorem Wv_0 {lc : Nat} {v : Int64} {neg : Bool} {u : Nat} (h : Wv lc v neg u) : (v = 0) = (u = 0) := by
  obtain ⟨h1, h2, h3⟩ := h
  apply propext
  constructor
  · intro q
    rcases Nat.eq_zero_or_pos u with z | z
    · exact z
    · exfalso
      have := wX_ne (md := wmd lc) (neg := neg) (u := u) (k := 0) h2 (by
        intro w
        unfold wmd at w
        by_cases c : lc = 100
        · exact (h3 c).1
        · rw [if_neg c] at w
          split at w <;> omega) (by rw [Nat.pow_zero, Nat.div_one]; omega)
      exact this (h1 ▸ q)
  · intro q
    rw [h1, q]
    unfold wX
    rw [Nat.zero_div, Nat.zero_div]
    split
    · cases neg <;> decide
    · rfl
theorem cfind {lc : Nat} (hlc : lc = 100 ∨ lc = 111 ∨ lc = 120 ∨ lc = 88) {v : Int64} {neg : Bool} {u : Nat} (hv : Wv lc v neg u) {c : Nat} (hc : Wc (wmd lc) u c) (hc2 : c ≤ 22) (vc : Int32) (dgs : Nat → Int32) :
    ∃ d', f_Writer_findDigits vc (nI lc) dgs v = some (nI c, d') ∧ ∀ i, i < c → d' i = nI (wg (wmd lc) (decide (lc < 97)) u i) := by
  obtain ⟨h1, h2, h3⟩ := hv
  unfold f_Writer_findDigits f_Writer_findDigits_29
  rcases hlc with rfl | rfl | rfl | rfl
  · obtain ⟨w1, w2, w3⟩ := h3 rfl
    have hc' : Dc u c := hc
    have hc21 : c ≤ 21 := by
      obtain ⟨d, q1, q2⟩ := Dc_ex (v := u) (k := 20) (by omega)
      have := Dc_uniq hc' q2
      omega
    obtain ⟨d', e, q⟩ := tens7 w1 (neg := neg) w2 hc' hc21 c 0 fu dgs (by omega) (by unfold fu; omega) (fun i hi => absurd hi (by omega))
    refine ⟨d', ?_, ?_⟩
    · rw [if_pos (show nI 100 = (100 : Int32) from rfl)]
      unfold f_Writer_findTens
      rw [h1, show (0 : Int32) = nI 0 from rfl, show wX (wmd 100) neg u 0 = jJ (sgI neg (u / 10 ^ 0)) from rfl, e, bi2_s]
    · intro i hi
      rw [q i hi]
      show nI (48 + dg u i) = nI (hxd _ (dg u i))
      rw [hxd_10 (dg_lt u i)]
  · obtain ⟨d', e, q⟩ := find38 (lc := 111) (by decide) (b := 3) (md := 8) (Or.inl ⟨rfl, rfl⟩) h2 hc hc2 c 0 fu dgs (by omega) (by unfold fu; omega) (fun i hi => absurd hi (by omega))
    refine ⟨d', ?_, q⟩
    rw [if_neg (by decide), if_pos (show nI 111 = (111 : Int32) from rfl), h1]
    exact e
  · obtain ⟨d', e, q⟩ := find38 (lc := 120) (by decide) (b := 4) (md := 16) (Or.inr ⟨rfl, rfl⟩) h2 hc hc2 c 0 fu dgs (by omega) (by unfold fu; omega) (fun i hi => absurd hi (by omega))
    refine ⟨d', ?_, q⟩
    rw [if_neg (by decide), if_neg (by decide), h1]
    exact e
  · obtain ⟨d', e, q⟩ := find38 (lc := 88) (by decide) (b := 4) (md := 16) (Or.inr ⟨rfl, rfl⟩) h2 hc hc2 c 0 fu dgs (by omega) (by unfold fu; omega) (fun i hi => absurd hi (by omega))
    refine ⟨d', ?_, q⟩
    rw [if_neg (by decide), if_neg (by decide), h1]
    exact e
theorem cmark {lc : Nat} (hlc : lc = 100 ∨ lc = 111 ∨ lc = 120 ∨ lc = 88) {v : Int64} {neg : Bool} {u : Nat} (hv : Wv lc v neg u) {fl : Nat} (h8 : fl / 8 % 2 = 1) {zs : Nat} (hzs : zs ≤ 200) {sz : Int32} {a : Nat → Int32} {l : List Nat} (hP : Pt sz a l) (hl : l.length ≤ 3) :
    ∃ sz' a', f_Writer_putMarkOfBase (nI lc) sz a v (nI zs) = some (sz', a') ∧ Pt sz' a' (l ++ wmk lc fl u zs) := by
  have h0 := Wv_0 hv
  obtain ⟨s1, a1, e1, q1⟩ := cput (b := 48) hP (by omega) (by decide)
  unfold f_Writer_putMarkOfBase f_Writer_smallLetter f_Writer_putMarkOfBase_38 wmk
  rw [bi1_s, if_pos h8, ite_c h0, show (48 : Int32) = nI 48 from rfl, e1, bi2_s, bi2_s, ite_c (nI_eq0 (by omega))]
  rcases hlc with rfl | rfl | rfl | rfl
  · rw [if_neg (by decide), if_neg (show ¬ nI 100 = (111 : Int32) from by decide), if_pos (show (100 : Nat) = 100 from rfl), List.append_nil]
    exact ⟨sz, a, rfl, hP⟩
  · rw [if_neg (by decide), if_pos (show nI 111 = (111 : Int32) from rfl), if_neg (show ¬ (111 : Nat) = 100 from by decide), if_pos (show (111 : Nat) = 111 from rfl)]
    by_cases z : zs = 0
    · rw [if_pos z, if_pos z]
      exact ⟨s1, a1, rfl, q1⟩
    · rw [if_neg z, if_neg z, List.append_nil]
      exact ⟨sz, a, rfl, hP⟩
  · rw [if_pos (by decide), if_neg (show ¬ nI 120 = (111 : Int32) from by decide), if_neg (show ¬ (120 : Nat) = 100 from by decide), if_neg (show ¬ (120 : Nat) = 111 from by decide)]
    by_cases z : u = 0
    · rw [if_pos z, if_pos z, List.append_nil]
      exact ⟨sz, a, rfl, hP⟩
    · obtain ⟨s2, a2, e2, q2⟩ := cput (b := 120) q1 (by rw [List.length_append, List.length_singleton]; omega) (by decide)
      rw [if_neg z, if_neg z, e2, bi2_s]
      rw [List.append_assoc] at q2
      exact ⟨s2, a2, rfl, q2⟩
  · rw [if_pos (by decide), if_neg (show ¬ nI 88 = (111 : Int32) from by decide), if_neg (show ¬ (88 : Nat) = 100 from by decide), if_neg (show ¬ (88 : Nat) = 111 from by decide)]
    by_cases z : u = 0
    · rw [if_pos z, if_pos z, List.append_nil]
      exact ⟨sz, a, rfl, hP⟩
    · obtain ⟨s2, a2, e2, q2⟩ := cput (b := 88) q1 (by rw [List.length_append, List.length_singleton]; omega) (by decide)
      rw [if_neg z, if_neg z, e2, bi2_s]
      rw [List.append_assoc] at q2
      exact ⟨s2, a2, rfl, q2⟩
def lsP (P : Int) : Nat := if P = -1 then 1 else P.toNat
def sgW (lc fl : Nat) (neg : Bool) : Nat := if lc = 100 then sgc fl neg else 0
theorem sgl_0 : sgl 0 = [] := rfl
theorem cwhole {lc : Nat} (hlc : lc = 100 ∨ lc = 111 ∨ lc = 120 ∨ lc = 88) {v : Int64} {neg : Bool} {u : Nat} (hv : Wv lc v neg u) {c : Nat} (hc : Wc (wmd lc) u c) (hc2 : c ≤ 22) {fl w : Nat} (hfl : fl < 32) (hw : w ≤ 99) {P : Int} (hP1 : -1 ≤ P) (hP2 : P ≤ 99) (hneg : lc = 100 → ((0 : Int64) ≤ v) = (neg = false)) (vc pl : Int32) (dgs prow : Nat → Int32) :
    ∃ c' dgs' sz' a', f_Writer_writeWhole vc (nI lc) (nI fl) (nI w) (iI P) dgs pl prow v = some (c', dgs', sz', a') ∧ Pt sz' a' (fin' fl w (decide (fl / 16 % 2 = 1) && decide (P = -1)) (sgl (sgW lc fl neg)) (wmk lc fl u (lsP P - c)) (wl (wmd lc) (decide (lc < 97)) u c (lsP P))) := by
  have hlc128 : lc < 128 := by rcases hlc with rfl | rfl | rfl | rfl <;> decide
  have hmd : 0 < wmd lc ∧ wmd lc ≤ 16 := by rcases hlc with rfl | rfl | rfl | rfl <;> decide
  have hls : lsP P ≤ 99 := by unfold lsP; split <;> omega
  obtain ⟨d', e1, hd'⟩ := cfind hlc hv hc hc2 vc dgs
  have hmkl := wmk_len lc fl u (lsP P - c)
  have tail : ∀ (s1 : Int32) (a1 : Nat → Int32), Pt s1 a1 (sgl (sgW lc fl neg)) → ∃ c' dgs' sz' a', f_Writer_writeWhole_31 vc (nI lc) (nI fl) (nI w) (iI P) dgs s1 a1 v = some (c', dgs', sz', a') ∧ Pt sz' a' (fin' fl w (decide (fl / 16 % 2 = 1) && decide (P = -1)) (sgl (sgW lc fl neg)) (wmk lc fl u (lsP P - c)) (wl (wmd lc) (decide (lc < 97)) u c (lsP P))) := by
    intro s1 a1 q1
    have hsl := sgl_len (sgW lc fl neg)
    have t66 : ∀ (s2 : Int32) (a2 : Nat → Int32), Pt s2 a2 (sgl (sgW lc fl neg) ++ wmk lc fl u (lsP P - c)) → ∃ c' dgs' sz' a', f_Writer_writeWhole_66 (nI c) (nI lc) (nI fl) (nI w) (iI P) d' s2 a2 (nI (lsP P - c)) = some (c', dgs', sz', a') ∧ Pt sz' a' (fin' fl w (decide (fl / 16 % 2 = 1) && decide (P = -1)) (sgl (sgW lc fl neg)) (wmk lc fl u (lsP P - c)) (wl (wmd lc) (decide (lc < 97)) u c (lsP P))) := by
      intro s2 a2 q2
      have hl2 : (sgl (sgW lc fl neg) ++ wmk lc fl u (lsP P - c)).length ≤ 3 := by rw [List.length_append]; omega
      obtain ⟨s3, a3, e3, q3⟩ := many_eq (b := 48) (by decide) q2 (n := ((lsP P - c : Nat) : Int)) (by omega) (by omega) (by omega)
      rw [Int.toNat_natCast] at q3
      obtain ⟨s4, a4, e4, q4⟩ := foundG hc2 hd' (wg_lt hmd.1 hmd.2 _ u) q3 (by rw [List.length_append, List.length_replicate]; omega)
      rw [List.append_assoc, show List.replicate (lsP P - c) 48 ++ rdl (wg (wmd lc) (decide (lc < 97)) u) c = wl (wmd lc) (decide (lc < 97)) u c (lsP P) from rfl] at q4
      have hwl := wl_len (wmd lc) (decide (lc < 97)) u c (lsP P)
      obtain ⟨s5, a5, e5, q5⟩ := fill_eq hfl hw (zf := decide (P = -1)) (sgl_By (by unfold sgW; split; exact sgc_lt fl neg; decide)) (wmk_By hlc128 fl u (lsP P - c)) (wl_By hmd.1 hmd.2 (decide (lc < 97)) u c (lsP P)) (by rw [List.length_append]; omega) q4 rfl
      refine ⟨nI c, d', s5, a5, ?_, q5⟩
      unfold f_Writer_writeWhole_66 f_Writer_writeWhole_105 f_Page_length
      rw [← iI_nI] at e3
      rw [bi1_s, show (48 : Int32) = nI 48 from rfl, e3, bi2_s, e4, bi2_s, ite_c (show (iI P = (-1 : Int32)) = (P = -1) from by rw [show (-1 : Int32) = iI (-1) from by decide, iI_eq (by omega) (by omega) (by decide) (by decide)]), q2.1]
      by_cases z : P = -1
      · rw [decide_eq_true z] at e5
        rw [if_pos z, show (1 : Int32) = bz true from rfl, e5, bi2_s]
      · rw [decide_eq_false z] at e5
        rw [if_neg z, show (0 : Int32) = bz false from rfl, e5, bi2_s]
    unfold f_Writer_writeWhole_31 f_Writer_precisionOr
    rw [e1, bi2_s, ite_c (show (iI P = (-1 : Int32)) = (P = -1) from by rw [show (-1 : Int32) = iI (-1) from by decide, iI_eq (by omega) (by omega) (by decide) (by decide)])]
    have hor : (if P = -1 then some (1 : Int32) else some (iI P)) = some (nI (lsP P)) := by
      unfold lsP
      by_cases z : P = -1
      · rw [if_pos z, if_pos z]; rfl
      · rw [if_neg z, if_neg z, iI_nI]
        congr 2
        omega
    rw [hor, bi1_s, bd_s, show imx (0 : Int32) (nI (lsP P) - nI c) = nI (lsP P - c) from by
      rw [iI_nI, iI_nI, iI_sub, show (0 : Int32) = iI 0 from by decide, imx_iI (by decide) (by decide) (by omega) (by omega), iI_nI]
      congr 1
      omega, has8 fl hfl, bi1_s, ite_c (bz_f _)]
    by_cases g : fl / 8 % 2 = 1
    · obtain ⟨s2, a2, e2, q2⟩ := cmark hlc hv g (zs := lsP P - c) (by omega) q1 (by omega)
      rw [if_neg (by simp [g]), e2, bi2_s]
      exact t66 s2 a2 q2
    · rw [if_pos (by simp [g])]
      refine t66 s1 a1 ?_
      unfold wmk
      rw [if_neg g, List.append_nil]
      exact q1
  unfold f_Writer_writeWhole f_Page_clear f_Writer_writeWhole_28
  rw [bi1_s]
  by_cases c100 : lc = 100
  · obtain ⟨s1, a1, e2, q1⟩ := csign hfl neg prow
    have hsW : sgW lc fl neg = sgc fl neg := by unfold sgW; rw [if_pos c100]
    rw [← hsW] at q1
    rw [if_pos (by rw [c100]; rfl), ite_c (hneg c100)]
    cases neg
    · rw [if_pos rfl, show (0 : Int32) = bz false from rfl] at *
      rw [show bz false = (0 : Int32) from rfl] at *
      rw [show f_Writer_putSign (nI fl) 0 prow 0 = some (s1, a1) from e2, bi2_s]
      exact tail s1 a1 q1
    · rw [if_neg (by decide), show f_Writer_putSign (nI fl) 0 prow 1 = some (s1, a1) from e2, bi2_s]
      exact tail s1 a1 q1
  · rw [if_neg (show ¬ nI lc = (100 : Int32) from fun q => c100 ((nI_eq (b := 100) (by omega) (by decide)).mp q))]
    refine tail 0 prow ?_
    unfold sgW
    rw [if_neg c100]
    exact Pt_nil prow

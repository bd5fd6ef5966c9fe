/-! reals written: class and reference -/
def bP (P : Int) : Nat := if P = -1 then 6 else P.toNat
def Lr (lc : Nat) : Prop := lc = 101 ∨ lc = 69 ∨ lc = 102 ∨ lc = 70 ∨ lc = 103 ∨ lc = 71 ∨ lc = 97 ∨ lc = 65
def lsm (lc : Nat) : Nat := if lc < 97 then lc + 32 else lc
theorem small_eq {lc : Nat} (h : Lr lc) : f_Writer_smallLetter (nI lc) = some (nI (lsm lc)) := by
  rcases h with rfl | rfl | rfl | rfl | rfl | rfl | rfl | rfl <;> decide
theorem Lr_lt {lc : Nat} (h : Lr lc) : lc < 128 := by
  rcases h with rfl | rfl | rfl | rfl | rfl | rfl | rfl | rfl <;> decide
theorem por_eq {P : Int} (hP1 : -1 ≤ P) (hP2 : P ≤ 99) : f_Writer_precisionOr (iI P) (6 : Int32) = some (nI (bP P)) := by
  unfold f_Writer_precisionOr bP
  rw [ite_c (show (iI P = (-1 : Int32)) = (P = -1) from by rw [show (-1 : Int32) = iI (-1) from by decide, iI_eq (by omega) (by omega) (by decide) (by decide)])]
  by_cases z : P = -1
  · rw [if_pos z, if_pos z]; rfl
  · rw [if_neg z, if_neg z, iI_nI]
    congr 2
    omega
/-- what class and reference write for m * 2^E: front and rest -/
def Cn (m : Nat) (E : Int) (lc fl : Nat) (P : Int) (fr rs : List Nat) : Prop :=
  (lsm lc = 102 ∧ fr = [] ∧ ∃ t, Tp (rdE (Vv m E) (1548 - bP P)) t ∧ rs = cF (rdE (Vv m E) (1548 - bP P)) t (bP P) (decide (fl / 8 % 2 = 1))) ∨
  (lsm lc = 101 ∧ fr = [] ∧ ∃ tv t c, Tp (Vv m E) tv ∧ Tp (rdE (Vv m E) (tv - bP P + 1548).toNat) t ∧ Dc t.natAbs c ∧ rs = cE (rdE (Vv m E) (tv - bP P + 1548).toNat) t (bP P) (decide (fl / 8 % 2 = 1)) (elt lc) (max 2 c)) ∨
  (lsm lc = 103 ∧ fr = [] ∧ ∃ tv t c, Tp (Vv m E) tv ∧ Tp (rdE (Vv m E) (tv - (bP P - 1 : Nat) + 1548).toNat) t ∧ Dc t.natAbs c ∧ rs = gC (rdE (Vv m E) (tv - (bP P - 1 : Nat) + 1548).toNat) t (bP P - 1) (decide (fl / 8 % 2 = 1)) (elt lc) (max 2 c)) ∨
  (lsm lc = 97 ∧ fr = [48, if decide (lc < 97) then 88 else 120] ∧ ∃ c, Dc (hP m E).natAbs c ∧ rs = cH (hr (m * 2 ^ hk m E) (4 * (13 - hB (m * 2 ^ hk m E) P))) (hB (m * 2 ^ hk m E) P) (decide (fl / 8 % 2 = 1)) (decide (lc < 97)) (hP m E) (max 1 c))
theorem pw_By (t : Int) (n : Nat) : By (pw t n) := by
  unfold pw
  refine By_app (By_one ?_) (tdl_By _ _)
  split <;> decide
theorem pw_len (t : Int) (n : Nat) : (pw t n).length = n + 1 := by
  unfold pw
  rw [List.length_append, tdl_len, List.length_singleton]
  omega
theorem cF_By (R : Nat) (t : Int) (b : Nat) (al : Bool) : By (cF R t b al) := By_app (By_app (dn_By _ _ _) (ppt_By _ _)) (dn_By _ _ _)
theorem cF_len {R : Nat} {t : Int} {b : Nat} {al : Bool} (ht : t ≤ 309) (hb : b ≤ 102) : (cF R t b al).length ≤ 413 := by
  unfold cF
  have := ppt_len b al
  simp only [List.length_append, dn_len]
  omega
theorem elt_lt (lc : Nat) : elt lc < 128 := by
  unfold elt
  split <;> decide
theorem cE_By (R : Nat) (t : Int) (b : Nat) (al : Bool) {lt : Nat} (hlt : lt < 128) (n : Nat) : By (cE R t b al lt n) := By_app (By_app (By_app (By_app (dn_By _ _ _) (ppt_By _ _)) (dn_By _ _ _)) (By_one hlt)) (pw_By _ _)
theorem cE_len {R : Nat} {t : Int} {b : Nat} {al : Bool} {lt n : Nat} (hn : n ≤ 10) (hb : b ≤ 102) : (cE R t b al lt n).length ≤ 130 := by
  unfold cE
  have := ppt_len b al
  simp only [List.length_append, dn_len, List.length_singleton, pw_len]
  omega
theorem gC_By (R : Nat) (t : Int) (q : Nat) (al : Bool) {lt : Nat} (hlt : lt < 128) (n : Nat) : By (gC R t q al lt n) := by
  unfold gC
  split
  · exact cF_By _ _ _ _
  · exact cE_By _ _ _ _ hlt _
theorem gC_len {R : Nat} {t : Int} {q : Nat} {al : Bool} {lt n : Nat} (hn : n ≤ 10) (hq : q ≤ 98) : (gC R t q al lt n).length ≤ 413 := by
  unfold gC
  split
  · rename_i h
    have h1 := need_le R (-1) ((q : Int) - t).toNat
    refine cF_len (by omega) ?_
    split <;> omega
  · have h1 := need_le R (t - 1) q
    refine Nat.le_trans (cE_len hn ?_) (by decide)
    split <;> omega
theorem cH_By {M b : Nat} (hM : M ≤ 9007199254740992) (al gr : Bool) (p : Int) (n : Nat) : By (cH M b al gr p n) := by
  refine By_app (By_app (By_app (By_app (By_one (by omega)) (ppt_By _ _)) (hxl_By _ _ _)) (By_one ?_)) (pw_By _ _)
  split <;> decide
theorem cH_len {M b : Nat} {al gr : Bool} {p : Int} {n : Nat} (hn : n ≤ 10) (hb : b ≤ 102) : (cH M b al gr p n).length ≤ 130 := by
  unfold cH
  have := ppt_len b al
  simp only [List.length_append, hxl_len, List.length_singleton, pw_len]
  omega
theorem Dc_le {t : Int} {c : Nat} (h : Dc t.natAbs c) (h1 : -9000 ≤ t) (h2 : t ≤ 9000) : c ≤ 4 := by
  obtain ⟨d, q1, q2⟩ := Dc_ex (v := t.natAbs) (k := 4) (by omega)
  have := Dc_uniq h q2
  omega
theorem Xp_any {m : Nat} {E : Int} (h : Rl m E) : ∃ (ex : Nat → Int32) (L : Nat) (pt : Int), Xp (Vv m E) ex L pt ∧ -1100 ≤ pt ∧ pt ≤ 309 := by
  obtain ⟨c', L, pt, ex', lm', -, h1, h2, h3⟩ := mexp h false 0 0 0 (fun _ => 0) (fun _ => 0)
  exact ⟨ex', L, pt, h1, h2, h3⟩
theorem Vv_top {m : Nat} {E : Int} (h : Rl m E) {tv : Int} (htv : Tp (Vv m E) tv) : -1101 ≤ tv ∧ tv ≤ 308 := by
  obtain ⟨ex, L, pt, hX, h1, h2⟩ := Xp_any h
  by_cases z : Vv m E = 0
  · rw [z] at htv
    have := Tp_uniq htv (Or.inl ⟨rfl, rfl⟩)
    omega
  · have := Tp_uniq htv (Xp_top hX h1 h2 z)
    omega
theorem Tp_rng {m : Nat} {E : Int} (h : Rl m E) {tv : Int} (htv : Tp (Vv m E) tv) {q : Nat} (hq : q ≤ 102) {t : Int} (ht : Tp (rdE (Vv m E) (tv - q + 1548).toNat) t) : -1102 ≤ t ∧ t ≤ 309 := by
  obtain ⟨ex, L, pt, hX, h1, h2⟩ := Xp_any h
  have hv := Vv_top h htv
  by_cases z : Vv m E = 0
  · rw [z, rdE_0] at ht
    have := Tp_uniq ht (Or.inl ⟨rfl, rfl⟩)
    omega
  · have htv2 := Tp_uniq htv (Xp_top hX h1 h2 z)
    have := Tp_lo hX h1 h2 (E := (tv - q + 1548).toNat) rfl (by omega) ht
    omega
theorem Cn_ex {m : Nat} {E : Int} (h : Rl m E) {lc : Nat} (hlc : Lr lc) (fl : Nat) {P : Int} (hP1 : -1 ≤ P) (hP2 : P ≤ 99) : ∃ fr rs, Cn m E lc fl P fr rs ∧ By fr ∧ By rs ∧ fr.length ≤ 2 ∧ (fr ++ rs).length ≤ 415 := by
  obtain ⟨ex, L, pt, hX, h1, h2⟩ := Xp_any h
  have hb : bP P ≤ 99 := by unfold bP; split <;> omega
  have hbl : bl m ≤ 53 := bl_le_iff.mpr h.1
  have hE := Rl_E h
  have hsm : lsm lc = 102 ∨ lsm lc = 101 ∨ lsm lc = 103 ∨ lsm lc = 97 := by
    rcases hlc with rfl | rfl | rfl | rfl | rfl | rfl | rfl | rfl <;> decide
  have hV208 : Vv m E < PB 208 := Nat.lt_of_lt_of_le (Vv_lt h) (by rw [PB_ten]; exact ten_le (by decide))
  obtain ⟨tv, htv⟩ := Tp_ex hV208
  have hvr := Vv_top h htv
  rcases hsm with hs | hs | hs | hs
  · obtain ⟨t, ht⟩ := Tp_ex (rdE_208 hX h2 (E := 1548 - bP P) (by omega))
    have hhi := Tp_hi hX h1 h2 (E := 1548 - bP P) rfl (by omega) ht
    have := cF_len (R := rdE (Vv m E) (1548 - bP P)) (t := t) (b := bP P) (al := decide (fl / 8 % 2 = 1)) hhi (by omega)
    exact ⟨[], _, Or.inl ⟨hs, rfl, t, ht, rfl⟩, By_nil, cF_By _ _ _ _, by simp, by rw [List.nil_append]; omega⟩
  · obtain ⟨t, ht⟩ := Tp_ex (rdE_208 hX h2 (E := (tv - bP P + 1548).toNat) (by omega))
    have hr := Tp_rng h htv (by omega) ht
    obtain ⟨c, -, hc⟩ := Dc_ex (v := t.natAbs) (k := 4) (by omega)
    have hc4 := Dc_le hc (by omega) (by omega)
    have := cE_len (R := rdE (Vv m E) (tv - bP P + 1548).toNat) (t := t) (b := bP P) (al := decide (fl / 8 % 2 = 1)) (lt := elt lc) (n := max 2 c) (by omega) (by omega)
    exact ⟨[], _, Or.inr (Or.inl ⟨hs, rfl, tv, t, c, htv, ht, hc, rfl⟩), By_nil, cE_By _ _ _ _ (elt_lt lc) _, by simp, by rw [List.nil_append]; omega⟩
  · obtain ⟨t, ht⟩ := Tp_ex (rdE_208 hX h2 (E := (tv - (bP P - 1 : Nat) + 1548).toNat) (by omega))
    have hr := Tp_rng h htv (by omega) ht
    obtain ⟨c, -, hc⟩ := Dc_ex (v := t.natAbs) (k := 4) (by omega)
    have hc4 := Dc_le hc (by omega) (by omega)
    have := gC_len (R := rdE (Vv m E) (tv - (bP P - 1 : Nat) + 1548).toNat) (t := t) (q := bP P - 1) (al := decide (fl / 8 % 2 = 1)) (lt := elt lc) (n := max 2 c) (by omega) (by omega)
    exact ⟨[], _, Or.inr (Or.inr (Or.inl ⟨hs, rfl, tv, t, c, htv, ht, hc, rfl⟩)), By_nil, gC_By _ _ _ _ (elt_lt lc) _, by simp, by rw [List.nil_append]; omega⟩
  · have hM := hM_lt E h.1
    have hB2 : hB (m * 2 ^ hk m E) P ≤ 102 := by
      unfold hB
      have := need16_le (m * 2 ^ hk m E) 13
      split <;> omega
    have hrM := hr_le hM (show 4 * (13 - hB (m * 2 ^ hk m E) P) ≤ 52 by omega)
    have hpr : -9000 ≤ hP m E ∧ hP m E ≤ 9000 := by
      unfold hP hk
      split <;> omega
    obtain ⟨c, -, hc⟩ := Dc_ex (v := (hP m E).natAbs) (k := 4) (by omega)
    have hc4 := Dc_le hc hpr.1 hpr.2
    have := cH_len (M := hr (m * 2 ^ hk m E) (4 * (13 - hB (m * 2 ^ hk m E) P))) (b := hB (m * 2 ^ hk m E) P) (al := decide (fl / 8 % 2 = 1)) (gr := decide (lc < 97)) (p := hP m E) (n := max 1 c) (by omega) hB2
    refine ⟨[48, if decide (lc < 97) then 88 else 120], _, Or.inr (Or.inr (Or.inr ⟨hs, rfl, c, hc, rfl⟩)), ?_, cH_By hrM _ _ _ _, by simp, by rw [List.length_append]; simp only [List.length_cons, List.length_nil]; omega⟩
    refine By_app (l := [48]) (By_one (by decide)) (By_one ?_)
    split <;> decide

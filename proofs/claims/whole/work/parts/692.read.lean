/-! read: class and reference take the same value, or refuse at the same place -/
theorem takeSize_bz (k : Int32) (n : Int64) (e : Int32) (r : Int64 × Int32 × Int32) (hr : r.2.2 = 0 ∨ r.2.2 = 1) (neg : Bool) : f_N_takeSize k n e r.1 r.2.1 r.2.2 (bz neg) = some (mres neg r) := takeSize_eq k n e r hr neg
theorem ok_flag {r : Int64 × Int32 × Int32} (h : (r = (0, 0, 1)) ∨ ∃ (m : Nat) (F : Int), Rl m F ∧ r = (lN m, iI F, 0) ∧ F ≤ 400100) : r.2.2 = 0 ∨ r.2.2 = 1 := by
  rcases h with h | ⟨m, F, -, h, -⟩
  · rw [h]; exact Or.inr rfl
  · rw [h]; exact Or.inl rfl
def sgJ (neg : Bool) (x : Int64) : Int64 := if neg then -x else x
theorem whole_class (K : Int32) (N : Int64) (E : Int32) (neg : Bool) (c1 c2 c3 c4 c5 c6 c7 c8 : Int32) (fd : Int64) (F L : Int32) (sf : Int64) (sp si tl : Int32) (room t : Nat → Int32) (x : Int64) (h : f_Numeral_findWhole c1 c2 c3 c4 c5 fd tl t = some (1, x)) :
    f_N_takeNumeral K N E (bz neg) c1 c2 c3 c4 c5 c6 c7 c8 fd F L sf sp si tl room t = some (1, sgJ neg x, 0, x, F, L, sf, sp, si, room) := by
  unfold f_N_takeNumeral f_Numeral_isNegative f_N_takeNumeral_38
  rw [ck_s (bz_ck neg), bi1_s, h, bi2_s, if_neg (by decide)]
  cases neg <;> rfl
theorem size_class (K : Int32) (N : Int64) (E : Int32) (neg : Bool) (c1 c2 c3 c4 c5 c6 c7 c8 : Int32) (fd fd2 : Int64) (F L : Int32) (sf : Int64) (sp si tl : Int32) (room t : Nat → Int32) (F' L' : Int32) (room' : Nat → Int32) (r : Int64 × Int32 × Int32) (hr : r.2.2 = 0 ∨ r.2.2 = 1) (h : f_Numeral_findWhole c1 c2 c3 c4 c5 fd tl t = some (0, fd2)) (h2 : f_Numeral_findSize c1 c4 c5 c6 c7 c8 tl t F L room sf sp si = some (F', L', room', r)) :
    f_N_takeNumeral K N E (bz neg) c1 c2 c3 c4 c5 c6 c7 c8 fd F L sf sp si tl room t = some ((mres neg r).1, (mres neg r).2.1, (mres neg r).2.2, fd2, F', L', r.1, r.2.1, r.2.2, room') := by
  unfold f_N_takeNumeral f_Numeral_isNegative
  rw [ck_s (bz_ck neg), bi1_s, h, bi2_s, if_pos rfl, h2, bi6_r, takeSize_bz _ _ _ _ hr]
  rfl
theorem take_same {n : Nat} (hn : n ≤ 1200) (t : Nat → Int32) (hz : gm1 t n + gm2 t n ≠ 0) (K : Int32) (N : Int64) (E : Int32) (fd : Int64) {F L V : Nat} {room : Nat → Int32} (hR : Rw room V) (hT : Tr F L V) (sf : Int64) (sp si : Int32) (vA vB st pw pl : Int32) (ab be da tp : Nat → Int32) (hda : ∀ j, j < gm1 t n + gm2 t n → da j = nI (gd t n j)) :
    ∃ (K' : Int32) (N' : Int64) (E' : Int32) (fd' : Int64) (F' L' V' : Nat) (sf' : Int64) (sp' si' : Int32) (room' : Nat → Int32) (v5 v6 : Int32) (a7 a8 : Nat → Int32), Vl K' N' E' ∧ Rw room' V' ∧ Tr F' L' V' ∧
    f_N_takeNumeral K N E (bz (gneg t n)) (bz (gx t n)) (bz (gp t n)) (bz (gl t n)) (nI (g2 t n)) (nI (gq t n)) (nI (gm1 t n)) (nI (gm1 t n + gm2 t n)) (iI (if gps t n then -((min 100000 (gpm t n) : Nat) : Int) else ((min 100000 (gpm t n) : Nat) : Int))) fd (nI F) (nI L) sf sp si (nI n) room t = some (K', N', E', fd', nI F', nI L', sf', sp', si', room') ∧
    f_M_read_38 0 K N E vA vB st (nI (gm1 t n + gm2 t n)) (nI (gm2 t n)) pw pl (bz (gneg t n)) (bz (!gp t n && !gl t n)) (bz (gx t n)) ab be da tp (iI (if gps t n then -(gpm t n : Int) else (gpm t n : Int))) = some (K', 0, K', N', E', v5, v6, st, nI (gm1 t n + gm2 t n), nI (gm2 t n), pw, pl, bz (gneg t n), bz (!gp t n && !gl t n), bz (gx t n), a7, a8, da) := by
  obtain ⟨d1, d2, d3, d4, d5⟩ := gd_class t n
  have dlt := gd_lt t n
  obtain ⟨-, -, -, -, hq⟩ := g_le t n
  have hpm := gpm_lt t n
  have hTn : g2 t n + gm1 t n + (if gp t n then 1 + gm2 t n else 0) ≤ n := by omega
  have hD : gm1 t n + gm2 t n ≤ 1200 := by
    cases c : gp t n
    · have := d4 c
      omega
    · rw [c, if_pos rfl] at hTn
      omega
  have real : (f_Numeral_findWhole (bz (gx t n)) (bz (gp t n)) (bz (gl t n)) (nI (g2 t n)) (nI (gq t n)) fd (nI n) t).map Prod.fst = some 0 →
      ∃ (K' : Int32) (N' : Int64) (E' : Int32) (fd' : Int64) (F' L' V' : Nat) (sf' : Int64) (sp' si' : Int32) (room' : Nat → Int32) (v5 v6 : Int32) (a7 a8 : Nat → Int32), Vl K' N' E' ∧ Rw room' V' ∧ Tr F' L' V' ∧
      f_N_takeNumeral K N E (bz (gneg t n)) (bz (gx t n)) (bz (gp t n)) (bz (gl t n)) (nI (g2 t n)) (nI (gq t n)) (nI (gm1 t n)) (nI (gm1 t n + gm2 t n)) (iI (if gps t n then -((min 100000 (gpm t n) : Nat) : Int) else ((min 100000 (gpm t n) : Nat) : Int))) fd (nI F) (nI L) sf sp si (nI n) room t = some (K', N', E', fd', nI F', nI L', sf', sp', si', room') ∧
      f_M_read_77 0 K N E vA vB st (nI (gm1 t n + gm2 t n)) (nI (gm2 t n)) pw pl (bz (gneg t n)) (bz (!gp t n && !gl t n)) (bz (gx t n)) ab be da tp (iI (if gps t n then -(gpm t n : Int) else (gpm t n : Int))) = some (K', 0, K', N', E', v5, v6, st, nI (gm1 t n + gm2 t n), nI (gm2 t n), pw, pl, bz (gneg t n), bz (!gp t n && !gl t n), bz (gx t n), a7, a8, da) := by
    intro hw
    obtain ⟨fd2, hw⟩ : ∃ fd2, f_Numeral_findWhole (bz (gx t n)) (bz (gp t n)) (bz (gl t n)) (nI (g2 t n)) (nI (gq t n)) fd (nI n) t = some (0, fd2) := by
      cases q : f_Numeral_findWhole (bz (gx t n)) (bz (gp t n)) (bz (gl t n)) (nI (g2 t n)) (nI (gq t n)) fd (nI n) t with
      | none => rw [q] at hw; exact absurd hw (by simp)
      | some r =>
        obtain ⟨r1, r2⟩ := r
        rw [q] at hw
        have : r1 = 0 := Option.some.inj hw
        exact ⟨r2, by rw [this]⟩
    have hPb : -100000 ≤ (if gps t n then -((min 100000 (gpm t n) : Nat) : Int) else ((min 100000 (gpm t n) : Nat) : Int)) ∧ (if gps t n then -((min 100000 (gpm t n) : Nat) : Int) else ((min 100000 (gpm t n) : Nat) : Int)) ≤ 100000 := by
      split <;> omega
    have hpb : -1000000 ≤ (if gps t n then -(gpm t n : Int) else (gpm t n : Int)) ∧ (if gps t n then -(gpm t n : Int) else (gpm t n : Int)) ≤ 1000000 := by
      split <;> omega
    cases hx : gx t n with
    | true =>
      rw [hx] at hw d1 d3
      have hg16 : ∀ j, j < gm1 t n + gm2 t n → da j = nI (gd t n j) ∧ gd t n j < 16 := fun j hj => ⟨hda j hj, (dlt j hj).1⟩
      have e1 := class16 hn t (gd t n) (s := g2 t n) (k1 := gm1 t n) (k2 := gm2 t n) (gp t n) hTn d4 d1 d2 d3 hPb.1 hPb.2 sf sp si
      have hbl : bl (hv (gd t n) (gm1 t n + gm2 t n)) ≤ 4 * (gm1 t n + gm2 t n) := bl_le_iff.mpr (hv_lt _ _ (fun j hj => (dlt j hj).1))
      have hcap := cap_same hD (show gm2 t n ≤ 1200 by omega) hbl hpm (gps t n)
      rw [← d5] at e1
      have e2 := model16 K N E (gneg t n) da (gd t n) hD hg16 (p := (if gps t n then -(gpm t n : Int) else (gpm t n : Int)) - 4 * (gm2 t n : Int)) (by omega) (by omega)
      rw [← hcap] at e2
      have hok := rnd_ok2 (t := hv (gd t n) (gm1 t n + gm2 t n)) (st := false) (e := (if gps t n then -((min 100000 (gpm t n) : Nat) : Int) else ((min 100000 (gpm t n) : Nat) : Int)) - 4 * (gm2 t n : Int)) (by omega) (by omega) (by omega)
      generalize rnd (hv (gd t n) (gm1 t n + gm2 t n)) false ((if gps t n then -((min 100000 (gpm t n) : Nat) : Int) else ((min 100000 (gpm t n) : Nat) : Int)) - 4 * (gm2 t n : Int)) = r at e1 e2 hok
      refine ⟨(mres (gneg t n) r).1, (mres (gneg t n) r).2.1, (mres (gneg t n) r).2.2, fd2, F, L, V, r.1, r.2.1, r.2.2, room, vA, vB, ab, be, mres_ok hok _, hR, hT, ?_, ?_⟩
      · refine size_class K N E (gneg t n) _ _ _ _ _ _ _ _ fd fd2 _ _ sf sp si _ room t (nI F) (nI L) room r (ok_flag hok) hw ?_
        unfold f_Numeral_findSize
        rw [if_neg (by decide), e1, bi3_r]
      · unfold f_M_read_77
        rw [if_neg (by decide), show (iI (if gps t n then -(gpm t n : Int) else (gpm t n : Int))) - (4 : Int32) * nI (gm2 t n) = iI ((if gps t n then -(gpm t n : Int) else (gpm t n : Int)) - 4 * (gm2 t n : Int)) from by
          rw [show (4 : Int32) = iI 4 from by decide, iI_nI, iI_mul, iI_sub], e2]
        rfl
    | false =>
      rw [hx] at hw d1 d3
      have hg10 : ∀ j, j < gm1 t n + gm2 t n → da j = nI (gd t n j) ∧ gd t n j < 10 := fun j hj => ⟨hda j hj, (dlt j hj).2 hx⟩
      obtain ⟨F', L', V', room', e1, r1, t1⟩ := class10 hn t (gd t n) (s := g2 t n) (k1 := gm1 t n) (k2 := gm2 t n) (gp t n) hTn d4 d1 d2 d3 hPb.1 hPb.2 hR hT.1 (nI (gm1 t n + gm2 t n)) sf sp si
      have hTv := tv_lt (gd t n) (gm1 t n + gm2 t n) (fun j hj => (hg10 j hj).2)
      rw [cap10 hTv hD (by omega), ← d5] at e1
      obtain ⟨v5, v6, a7, a8, e2⟩ := model10 K N E vA vB (gneg t n) ab be da (gd t n) hD hg10 (p := (if gps t n then -(gpm t n : Int) else (gpm t n : Int)) - (gm2 t n : Int)) (by omega) (by omega)
      have hok := val10_ok (tv (gd t n) (gm1 t n + gm2 t n)) ((if gps t n then -(gpm t n : Int) else (gpm t n : Int)) - (gm2 t n : Int))
      generalize val10 (tv (gd t n) (gm1 t n + gm2 t n)) ((if gps t n then -(gpm t n : Int) else (gpm t n : Int)) - (gm2 t n : Int)) = r at e1 e2 hok
      refine ⟨(mres (gneg t n) r).1, (mres (gneg t n) r).2.1, (mres (gneg t n) r).2.2, fd2, F', L', V', r.1, r.2.1, r.2.2, room', v5, v6, a7, a8, mres_ok hok _, r1, t1, ?_, ?_⟩
      · exact size_class K N E (gneg t n) _ _ _ _ _ _ _ _ fd fd2 _ _ sf sp si _ room t (nI F') (nI L') room' r (ok_flag hok) hw e1
      · unfold f_M_read_77
        rw [if_pos (show bz false = 0 from rfl), show (iI (if gps t n then -(gpm t n : Int) else (gpm t n : Int))) - nI (gm2 t n) = iI ((if gps t n then -(gpm t n : Int) else (gpm t n : Int)) - (gm2 t n : Int)) from by
          rw [iI_nI, iI_sub], e2]
        rfl
  have notplain : (gp t n = true ∨ gl t n = true) → f_M_read_38 0 K N E vA vB st (nI (gm1 t n + gm2 t n)) (nI (gm2 t n)) pw pl (bz (gneg t n)) (bz (!gp t n && !gl t n)) (bz (gx t n)) ab be da tp (iI (if gps t n then -(gpm t n : Int) else (gpm t n : Int))) = f_M_read_77 0 K N E vA vB st (nI (gm1 t n + gm2 t n)) (nI (gm2 t n)) pw pl (bz (gneg t n)) (bz (!gp t n && !gl t n)) (bz (gx t n)) ab be da tp (iI (if gps t n then -(gpm t n : Int) else (gpm t n : Int))) := by
    intro h
    have : (!gp t n && !gl t n) = false := by rcases h with h | h <;> rw [h] <;> simp
    unfold f_M_read_38 f_M_read_58
    rw [this, if_pos (show bz false = 0 from rfl), if_pos (show bz false = 0 from rfl)]
  cases hp : gp t n with
  | true =>
    rw [hp] at real notplain
    rw [notplain (Or.inl rfl)]
    exact real rfl
  | false =>
    cases hl : gl t n with
    | true =>
      rw [hp, hl] at real notplain
      rw [notplain (Or.inr rfl)]
      exact real rfl
    | false =>
      rw [hp, hl] at real
      have hk2 := d4 hp
      have hgq : gq t n = g2 t n + (gm1 t n + gm2 t n) := by
        rw [d5, hp, hk2, if_neg (by decide)]
        omega
      have d1' : ∀ j, j < gm1 t n + gm2 t n → dv (gx t n) (bt8 t (g2 t n + j)) = some (gd t n j) := fun j hj => d1 j (by omega)
      cases hx : gx t n with
      | true =>
        rw [hx] at d1'
        have e1 := find16 hn t (nI (g2 t n)) (gd t n) (s := g2 t n) (D := gm1 t n + gm2 t n) (by omega) d1' (gm1 t n + gm2 t n) 0 fu (by omega) (by unfold fu; omega)
        have e2 := wrap16 K N E (bz (gneg t n)) da (gd t n) hD (fun j hj => ⟨hda j hj, (dlt j hj).1⟩) (gm1 t n + gm2 t n) 0 fu (by omega) (by unfold fu; omega)
        refine ⟨1, sgJ (gneg t n) (jJ (hv (gd t n) (gm1 t n + gm2 t n))), 0, jJ (hv (gd t n) (gm1 t n + gm2 t n)), F, L, V, sf, sp, si, room, vA, vB, ab, be, Or.inl ⟨rfl, rfl⟩, hR, hT, ?_, ?_⟩
        · refine whole_class _ _ _ _ _ _ _ _ _ _ _ _ _ _ _ _ _ _ _ _ _ _ ?_
          rw [hgq]
          exact e1
        · unfold f_M_read_38
          rw [show (!false && !false) = true from rfl, if_neg (by decide), if_neg (by decide)]
          unfold f_M_readWrapping
          rw [show (0 : Int64) = jJ (hv (gd t n) 0) from rfl, show (0 : Int32) = nI 0 from rfl, e2]
          unfold f_M_readWrapping_30 f_M_readWrapping_45
          cases gneg t n
          · rw [if_pos (show bz false = 0 from rfl), set_plain 1 (by decide)]
            rfl
          · rw [if_neg (by decide), set_plain 1 (by decide)]
            rfl
      | false =>
        rw [hx] at d1' real
        obtain ⟨x, e1⟩ := find10 hn t (nI (g2 t n)) (gd t n) (s := g2 t n) (D := gm1 t n + gm2 t n) (by omega) d1' (gm1 t n + gm2 t n) 0 fu 0 (by omega) (by unfold fu; omega) (by decide)
        have e2 := fits10 K N E (bz (gneg t n)) da (gd t n) hD (fun j hj => ⟨hda j hj, (dlt j hj).2 hx⟩) (gm1 t n + gm2 t n) 0 fu 0 (by omega) (by unfold fu; omega) (by decide)
        have e1' : f_Numeral_findWhole (bz false) (bz false) (bz false) (nI (g2 t n)) (nI (gq t n)) fd (nI n) t = some (match fwo (gd t n) (gm1 t n + gm2 t n) 0 0 with | some W => (1, lN W) | none => (0, x)) := by
          rw [hgq]
          exact e1
        have e2' : f_M_fitsWhole K N E (nI (gm1 t n + gm2 t n)) (bz (gneg t n)) da = (match fwo (gd t n) (gm1 t n + gm2 t n) 0 0 with | some W => f_M_fitsWhole_61 K N E (nI (gm1 t n + gm2 t n)) (bz (gneg t n)) da (lN W) | none => some (0, K, N, E)) := e2
        cases hf : fwo (gd t n) (gm1 t n + gm2 t n) 0 0 with
        | none =>
          rw [hf] at e1' e2'
          have e3 : f_M_read_38 0 K N E vA vB st (nI (gm1 t n + gm2 t n)) (nI (gm2 t n)) pw pl (bz (gneg t n)) (bz (!false && !false)) (bz false) ab be da tp (iI (if gps t n then -(gpm t n : Int) else (gpm t n : Int))) = f_M_read_77 0 K N E vA vB st (nI (gm1 t n + gm2 t n)) (nI (gm2 t n)) pw pl (bz (gneg t n)) (bz (!false && !false)) (bz false) ab be da tp (iI (if gps t n then -(gpm t n : Int) else (gpm t n : Int))) := by
            unfold f_M_read_38 f_M_read_58
            rw [if_neg (by decide), if_pos (show bz false = 0 from rfl), if_neg (by decide), e2', bi4_s, if_pos rfl]
          rw [e3]
          exact real (by rw [e1']; rfl)
        | some W =>
          rw [hf] at e1' e2'
          refine ⟨1, sgJ (gneg t n) (lN W), 0, lN W, F, L, V, sf, sp, si, room, vA, vB, ab, be, Or.inl ⟨rfl, rfl⟩, hR, hT, whole_class _ _ _ _ _ _ _ _ _ _ _ _ _ _ _ _ _ _ _ _ _ _ e1', ?_⟩
          unfold f_M_read_38 f_M_read_58
          have e5 : f_M_fitsWhole_61 K N E (nI (gm1 t n + gm2 t n)) (bz (gneg t n)) da (lN W) = some (1, 1, sgJ (gneg t n) (lN W), 0) := by
            unfold f_M_fitsWhole_61 f_M_fitsWhole_76
            cases gneg t n
            · rw [if_pos (show bz false = 0 from rfl), set_plain 1 (by decide)]
              rfl
            · rw [if_neg (show ¬ bz true = 0 from by decide), set_plain 1 (by decide)]
              rfl
          have e6 : f_M_fitsWhole K N E (nI (gm1 t n + gm2 t n)) (bz (gneg t n)) da = some (1, 1, sgJ (gneg t n) (lN W), 0) := e2'.trans e5
          rw [if_neg (by decide), if_pos (show bz false = 0 from rfl), if_neg (by decide), e6, bi4_s, if_neg (by decide)]
theorem read_same {n : Nat} (hn : n ≤ 1200) (t tm : Nat → Int32) (hB : ∀ i, i < n → bt8 tm i = bt8 t i) (K : Int32) (N : Int64) (E : Int32) (hV : Vl K N E) (x1 x2 x3 x4 x5 x6 x7 x8 x9 x10 : Int32) (fd : Int64) {F L V : Nat} {room : Nat → Int32} (hR : Rw room V) (hT : Tr F L V) (sf : Int64) (sp si : Int32) (vA vB z1 z2 z3 z4 z5 z6 z7 z8 : Int32) (ab be da : Nat → Int32) :
    ∃ (r K' : Int32) (N' : Int64) (E' : Int32) (y1 y2 y3 y4 y5 y6 y7 y8 y9 y10 : Int32) (fd' : Int64) (F' L' V' : Nat) (sf' : Int64) (sp' si' : Int32) (room' : Nat → Int32) (v5 v6 w1 w2 w3 w4 w5 w6 w7 w8 : Int32) (a7 a8 da' : Nat → Int32), Vl K' N' E' ∧ Rw room' V' ∧ Tr F' L' V' ∧
    f_N_read K N E x1 x2 x3 x4 x5 x6 x7 x8 x9 x10 fd (nI F) (nI L) sf sp si (nI n) room t = some (r, K', N', E', y1, y2, y3, y4, y5, y6, y7, y8, y9, y10, fd', nI F', nI L', sf', sp', si', 0, room') ∧
    f_M_read (nI n) K N E vA vB z1 z2 z3 z4 z5 z6 z7 z8 ab be da tm = some (r, 0, K', N', E', v5, v6, w1, w2, w3, w4, w5, w6, w7, w8, a7, a8, da') := by
  have neg1 : ∀ j, j < 2147483648 → ¬ nI j = (-1 : Int32) := by
    intro j hj q
    have := nI_pos (n := j) (by omega)
    rw [q] at this
    exact this (by decide)
  by_cases hz : gm1 t n + gm2 t n = 0
  · obtain ⟨y1, y2, y3, y4, y5, y6, y7, y8, y9, y10, e1⟩ := scan_class0 hn t hz x1 x2 x3 x4 x5 x6 x7 x8 x9 x10
    obtain ⟨w1, w2, w3, w4, w5, w6, w7, w8, da', e2⟩ := scan_model0 hn hB hz z1 z2 z3 z4 z5 z6 z7 z8 da
    have hq := (g_le t n).2.2.2.2
    refine ⟨(-100 : Int32) - nI (gq t n), K, N, E, y1, y2, y3, y4, y5, y6, y7, y8, y9, y10, fd, F, L, V, sf, sp, si, room, vA, vB, w1, w2, w3, w4, w5, w6, w7, w8, ab, be, da', hV, hR, hT, ?_, ?_⟩
    · unfold f_N_read
      rw [e1, bi11_s, if_neg (neg1 _ (by omega))]
      unfold f_N_read_17 f_Tape_clear
      rw [bi1_s, if_neg (neg1 _ (by omega))]
    · unfold f_M_read
      rw [e2, bi10_s, if_neg (nI_pos (by omega))]
  · obtain ⟨y1, e1⟩ := scan_class1 hn t hz x1 x2 x3 x4 x5 x6 x7 x8 x9 x10
    obtain ⟨w1, da', e2, hda⟩ := scan_model1 hn hB hz z1 z2 z3 z4 z5 z6 z7 z8 da
    rw [gP_class, show m1 (gx t n) t n (g2 t n) = gm1 t n from rfl, show m2 (gx t n) t n (g2 t n) = gm2 t n from rfl, show mp (gx t n) t n (g2 t n) = gp t n from rfl] at e1
    rw [show (if gl t n then pmf t (pk t n (gj t n)) (gj t n) 0 else 0) = gpm t n from rfl, show (gl t n && mns t n (gq t n + 1)) = gps t n from rfl] at e2
    rcases gW_cases t hn with hw | ⟨j, hj, hw⟩
    · rw [hw] at e1 e2
      obtain ⟨K', N', E', fd', F', L', V', sf', sp', si', room', v5, v6, a7, a8, q1, q2, q3, q4, q5⟩ := take_same hn t hz K N E fd hR hT sf sp si vA vB w1 (nI (gpm t n)) (bz (gps t n)) ab be da' tm hda
      refine ⟨K', K', N', E', y1, bz (gneg t n), bz (gx t n), bz (gp t n), bz (gl t n), nI (g2 t n), nI (gq t n), nI (gm1 t n), nI (gm1 t n + gm2 t n), iI (if gps t n then -((min 100000 (gpm t n) : Nat) : Int) else ((min 100000 (gpm t n) : Nat) : Int)), fd', F', L', V', sf', sp', si', room', v5, v6, w1, nI (gm1 t n + gm2 t n), nI (gm2 t n), nI (gpm t n), bz (gps t n), bz (gneg t n), bz (!gp t n && !gl t n), bz (gx t n), a7, a8, da', q1, q2, q3, ?_, ?_⟩
      rotate_left
      · unfold f_M_read
        rw [e2, bi10_s, if_pos (by decide)]
        rw [← q5]
        cases hs : gps t n
        · rw [if_pos (show bz false = 0 from rfl), if_neg (by decide), ← iI_nI]
        · rw [if_neg (show ¬ bz true = 0 from by decide), if_pos rfl, iI_nI (gpm t n), iI_neg]
      · unfold f_N_read
        rw [e1, bi11_s, if_pos rfl, q4, bi10_s]
        unfold f_N_read_17 f_Tape_clear
        rw [bi1_s, if_pos rfl]
    · rw [hw] at e1 e2
      refine ⟨(-100 : Int32) - nI j, K, N, E, y1, bz (gneg t n), bz (gx t n), bz (gp t n), bz (gl t n), nI (g2 t n), nI (gq t n), nI (gm1 t n), nI (gm1 t n + gm2 t n), iI (if gps t n then -((min 100000 (gpm t n) : Nat) : Int) else ((min 100000 (gpm t n) : Nat) : Int)), fd, F, L, V, sf, sp, si, room, vA, vB, w1, nI (gm1 t n + gm2 t n), nI (gm2 t n), nI (gpm t n), bz (gps t n), bz (gneg t n), bz (!gp t n && !gl t n), bz (gx t n), ab, be, da', hV, hR, hT, ?_, ?_⟩
      rotate_left
      · unfold f_M_read
        rw [e2, bi10_s, if_neg (nI_pos (by omega))]
      · unfold f_N_read
        rw [e1, bi11_s, if_neg (neg1 _ hj)]
        unfold f_N_read_17 f_Tape_clear
        rw [bi1_s, if_neg (neg1 _ hj)]

set_option maxHeartbeats 4000000 in
set_option maxRecDepth 100000 in
theorem whole_start {p : Program} {e : Env} {s : State} {m : MethodId} {below : List Frame} {meth : Method} {c : Code} (l : Launch) {b L : Nat} {xs : Nat → Int32} (hL : L ≤ 2560) (C0 : lw_At p s m meth c b L xs) : W p l e room_1 s m #[Value.ref b] below meth c s.heap [] 0 0 (lw_Z below #[Value.ref b] s) (entryFrame m ([Value.ref b] : List Value).toArray 4) := by
  obtain ⟨hx, hb, hr, hml, hown, htt, hXs, hbl, hlk, hgv⟩ := id C0
  have ht : ∀ w ∈ w0, w.before #[Value.ref b] s = true := fun w h => htt w (List.mem_filter.mp h).1
  have hbA : ¬ (fun q : Nat => s.heap.size ≤ q) b := Nat.not_le.mpr hbl
  have hA : ∀ q : Nat, s.heap.size ≤ q → (fun q : Nat => s.heap.size ≤ q) q := fun _ h => h
  obtain ⟨X, hX⟩ := sx_of C0
  obtain ⟨c0, iS0, hKn0⟩ := u_known (C := R_N) (T := F_N) (N := 11) (n := 11) ht i_N (ht _ q_836)
  obtain ⟨c1, iS1, hKn1⟩ := u_known (C := R_Tape) (T := F_Tape) (N := 2) (n := 2) ht i_Tape (ht _ q_715)
  obtain ⟨c2, iS2, hKn2⟩ := u_known (C := R_Numeral) (T := F_Numeral) (N := 12) (n := 12) ht i_Numeral (ht _ q_719)
  obtain ⟨c3, iS3, hKn3⟩ := u_known (C := R_Decimal) (T := F_Decimal) (N := 3) (n := 3) ht i_Decimal (ht _ q_724)
  obtain ⟨c4, iS4, hKn4⟩ := u_known (C := R_Size) (T := F_Size) (N := 3) (n := 3) ht i_Size (ht _ q_728)
  obtain ⟨c5, iS5, hKn5⟩ := u_known (C := R_Page) (T := F_Page) (N := 2) (n := 2) ht i_Page (ht _ q_732)
  obtain ⟨c6, iS6, hKn6⟩ := u_known (C := R_Writer) (T := F_Writer) (N := 8) (n := 8) ht i_Writer (ht _ q_736)
  obtain ⟨c7, iS7, hKn7⟩ := u_known (C := R_M) (T := F_M) (N := 30) (n := 30) ht i_M (ht _ q_841)
  obtain ⟨dC, dI, hKc⟩ : ∃ (dC : Nat → ClassId) (dI : Nat → Nat → Nat), ∀ (k : Nat) (q : vw_C), classes[k]? = some q → u_Kn s q.1 q.2.1 q.2.2 (dC k) (dI k) := by
    refine ⟨fun k => if k = 0 then c0 else if k = 1 then c1 else if k = 2 then c2 else if k = 3 then c3 else if k = 4 then c4 else if k = 5 then c5 else if k = 6 then c6 else c7, fun k => if k = 0 then iS0 else if k = 1 then iS1 else if k = 2 then iS2 else if k = 3 then iS3 else if k = 4 then iS4 else if k = 5 then iS5 else if k = 6 then iS6 else iS7, ?_⟩
    intro k q hq
    match k, hq with
    | 0, hq => cases hq; exact hKn0
    | 1, hq => cases hq; exact hKn1
    | 2, hq => cases hq; exact hKn2
    | 3, hq => cases hq; exact hKn3
    | 4, hq => cases hq; exact hKn4
    | 5, hq => cases hq; exact hKn5
    | 6, hq => cases hq; exact hKn6
    | 7, hq => cases hq; exact hKn7
    | k + 8, hq => simp [classes] at hq
  have hS : va_S (fun q : Nat => s.heap.size ≤ q) s.heap s.heap [] := va_S.rf
  have hK : va_K (dC, dI) classes [] s := ⟨hKc, fun k q h => by simp at h⟩
  have hP : va_P (dC, dI) classes [] s.heap := fun k q h => by simp at h
  have hD : va_D (fun q : Nat => s.heap.size ≤ q) [] := ⟨fun i j p q h => by simp at h, fun k q h => by simp at h⟩
  have hl := lv_entry ([.ref b]) (n := 4) (Nat.le_of_ble_eq_true rfl)
  rw [lg_entry_eq]
  generalize (lg_sl ([.ref b]) ++ List.replicate (4 - (lg_sl ([.ref b])).length) Slot.unset).toArray = ls at hl ⊢
  have hl : lv_has ls 4 [(0, .ref b)] := hl
  obtain ⟨H, eH⟩ : ∃ H, H = s.heap := ⟨_, rfl⟩
  rw [← eH] at hP
  have hS : va_S (fun q : Nat => s.heap.size ≤ q) s.heap H [] := by rw [eH]; exact hS
  refine W.heq9 eH ?_
  refine va_new (D := (dC, dI)) (ci := 0) (C := R_N) (T := F_N) (N := 11) (fs := [.null, .null, .null, .null, .null, .null, .null, .null, .int 0, .long 0, .int 0]) hx hb ht i_N t_N t_N_ok hown (ht _ q_835) (ht _ q_836) (ht _ q_86) hK hP hD hS hA rfl (by decide) (Nat.le_of_ble_eq_true rfl) (Nat.le_of_ble_eq_true rfl) d_L_law_0 (fun q1 H hP hD hS => ?_)
  have hP : va_P (dC, dI) classes [(q1, .inr (0, [.null, .null, .null, .null, .null, .null, .null, .null, .int 0, .long 0, .int 0]))] H := hP
  have hD : va_D (fun q : Nat => s.heap.size ≤ q) [(q1, .inr (0, [.null, .null, .null, .null, .null, .null, .null, .null, .int 0, .long 0, .int 0]))] := hD
  refine lv_dup hx hb d_L_law_3 rfl ?_
  refine clI (D := (dC, dI)) (n := 0) (As := []) ⟨hx, hb, hml, hown, ht⟩ (k_N l dC dI X q1 H.size) (ht _ q_837) q_86 q_838 q_839 (by decide +kernel) ⟨rfl, rfl, Nat.le_of_ble_eq_true rfl, Nat.le_of_ble_eq_true rfl⟩ hK hP hD hS hA hX [0] [] rfl (wr := []) rfl (by decide) (by decide) (by decide) rfl hl.1 rfl (lv_room (Nat.le_of_ble_eq_true rfl)) d_L_law_4 ⟨Nat.le_of_ble_eq_true rfl, Nat.le_of_ble_eq_true rfl⟩ (fun w9 ty9 H locs hz hK hP hD hS => ?_)
  obtain ⟨q2, q3, k4, q5, q6, q7, k8, q9, q10, k11, q12, q13, q14, q15, k16, q17, q18, k19, rfl, rfl⟩ := hz
  have hK : va_K (dC, dI) classes [(k4, .byte), (k8, .int), (k11, .int), (k16, .byte), (k19, .byte)] s := hK
  have hP : va_P (dC, dI) classes [(q1, .inr (0, [.ref q2, .ref q5, .ref q6, .ref q9, .ref q12, .ref q13, .ref q14, .ref q17, .int 1, .long 0, .int 0])), (q2, .inr (1, [.ref q3, .int 0])), (q3, .inl (k4, 1200, .inl (fun _ => 0))), (q5, .inr (2, [.ref q2, .int 0, .int 0, .int 0, .int 0, .int 0, .int 0, .int 0, .int 0, .int 0, .int 0, .long 0])), (q6, .inr (3, [.ref q7, .int 35, .int 35])), (q7, .inl (k8, 208, .inl (fun _ => 0))), (q9, .inr (3, [.ref q10, .int 35, .int 35])), (q10, .inl (k11, 208, .inl (fun _ => 0))), (q12, .inr (4, [.long 0, .int 0, .int 0])), (q13, .inr (4, [.long 0, .int 0, .int 0])), (q14, .inr (5, [.ref q15, .int 0])), (q15, .inl (k16, 420, .inl (fun _ => 0))), (q17, .inr (6, [.ref q14, .ref q9, .ref q18, .int 0, .int 100, .int 0, .int 0, .int (-1)])), (q18, .inl (k19, 22, .inl (fun _ => 0)))] H := hP
  have hD : va_D (fun q : Nat => s.heap.size ≤ q) [(q1, .inr (0, [.ref q2, .ref q5, .ref q6, .ref q9, .ref q12, .ref q13, .ref q14, .ref q17, .int 1, .long 0, .int 0])), (q2, .inr (1, [.ref q3, .int 0])), (q3, .inl (k4, 1200, .inl (fun _ => 0))), (q5, .inr (2, [.ref q2, .int 0, .int 0, .int 0, .int 0, .int 0, .int 0, .int 0, .int 0, .int 0, .int 0, .long 0])), (q6, .inr (3, [.ref q7, .int 35, .int 35])), (q7, .inl (k8, 208, .inl (fun _ => 0))), (q9, .inr (3, [.ref q10, .int 35, .int 35])), (q10, .inl (k11, 208, .inl (fun _ => 0))), (q12, .inr (4, [.long 0, .int 0, .int 0])), (q13, .inr (4, [.long 0, .int 0, .int 0])), (q14, .inr (5, [.ref q15, .int 0])), (q15, .inl (k16, 420, .inl (fun _ => 0))), (q17, .inr (6, [.ref q14, .ref q9, .ref q18, .int 0, .int 100, .int 0, .int 0, .int (-1)])), (q18, .inl (k19, 22, .inl (fun _ => 0)))] := hD
  refine lv_astore_n (lv' := [(1, .ref q1), (0, .ref b)]) hx hb d_L_law_7 rfl hl (by decide) rfl (fun ls hl => ?_)
  refine va_new (D := (dC, dI)) (ci := 7) (C := R_M) (T := F_M) (N := 30) (fs := [.null, .int 0, .int 0, .long 0, .int 0, .null, .int 0, .null, .int 0, .int 0, .int 0, .null, .int 0, .int 0, .int 0, .int 0, .int 0, .int 0, .null, .int 0, .null, .int 0, .int 0, .null, .int 0, .int 0, .null, .int 0, .null, .int 0]) hx hb ht i_M t_M t_M_ok hown (ht _ q_840) (ht _ q_841) (ht _ q_490) hK hP hD hS hA rfl (by decide) (Nat.le_of_ble_eq_true rfl) (Nat.le_of_ble_eq_true rfl) d_L_law_8 (fun q20 H hP hD hS => ?_)
  have hP : va_P (dC, dI) classes [(q1, .inr (0, [.ref q2, .ref q5, .ref q6, .ref q9, .ref q12, .ref q13, .ref q14, .ref q17, .int 1, .long 0, .int 0])), (q2, .inr (1, [.ref q3, .int 0])), (q3, .inl (k4, 1200, .inl (fun _ => 0))), (q5, .inr (2, [.ref q2, .int 0, .int 0, .int 0, .int 0, .int 0, .int 0, .int 0, .int 0, .int 0, .int 0, .long 0])), (q6, .inr (3, [.ref q7, .int 35, .int 35])), (q7, .inl (k8, 208, .inl (fun _ => 0))), (q9, .inr (3, [.ref q10, .int 35, .int 35])), (q10, .inl (k11, 208, .inl (fun _ => 0))), (q12, .inr (4, [.long 0, .int 0, .int 0])), (q13, .inr (4, [.long 0, .int 0, .int 0])), (q14, .inr (5, [.ref q15, .int 0])), (q15, .inl (k16, 420, .inl (fun _ => 0))), (q17, .inr (6, [.ref q14, .ref q9, .ref q18, .int 0, .int 100, .int 0, .int 0, .int (-1)])), (q18, .inl (k19, 22, .inl (fun _ => 0))), (q20, .inr (7, [.null, .int 0, .int 0, .long 0, .int 0, .null, .int 0, .null, .int 0, .int 0, .int 0, .null, .int 0, .int 0, .int 0, .int 0, .int 0, .int 0, .null, .int 0, .null, .int 0, .int 0, .null, .int 0, .int 0, .null, .int 0, .null, .int 0]))] H := hP
  have hD : va_D (fun q : Nat => s.heap.size ≤ q) [(q1, .inr (0, [.ref q2, .ref q5, .ref q6, .ref q9, .ref q12, .ref q13, .ref q14, .ref q17, .int 1, .long 0, .int 0])), (q2, .inr (1, [.ref q3, .int 0])), (q3, .inl (k4, 1200, .inl (fun _ => 0))), (q5, .inr (2, [.ref q2, .int 0, .int 0, .int 0, .int 0, .int 0, .int 0, .int 0, .int 0, .int 0, .int 0, .long 0])), (q6, .inr (3, [.ref q7, .int 35, .int 35])), (q7, .inl (k8, 208, .inl (fun _ => 0))), (q9, .inr (3, [.ref q10, .int 35, .int 35])), (q10, .inl (k11, 208, .inl (fun _ => 0))), (q12, .inr (4, [.long 0, .int 0, .int 0])), (q13, .inr (4, [.long 0, .int 0, .int 0])), (q14, .inr (5, [.ref q15, .int 0])), (q15, .inl (k16, 420, .inl (fun _ => 0))), (q17, .inr (6, [.ref q14, .ref q9, .ref q18, .int 0, .int 100, .int 0, .int 0, .int (-1)])), (q18, .inl (k19, 22, .inl (fun _ => 0))), (q20, .inr (7, [.null, .int 0, .int 0, .long 0, .int 0, .null, .int 0, .null, .int 0, .int 0, .int 0, .null, .int 0, .int 0, .int 0, .int 0, .int 0, .int 0, .null, .int 0, .null, .int 0, .int 0, .null, .int 0, .int 0, .null, .int 0, .null, .int 0]))] := hD
  refine lv_dup hx hb d_L_law_11 rfl ?_
  refine clI (D := (dC, dI)) (n := 0) (As := []) ⟨hx, hb, hml, hown, ht⟩ (k_M l dC dI X q20 H.size) (ht _ q_842) q_490 q_843 q_844 (by decide +kernel) ⟨rfl, rfl, Nat.le_of_ble_eq_true rfl, Nat.le_of_ble_eq_true rfl⟩ hK hP hD hS hA hX [14] [0, 1, 2, 3, 4, 5, 6, 7, 8, 9, 10, 11, 12, 13] rfl (wr := [(q1, .inr (0, [.ref q2, .ref q5, .ref q6, .ref q9, .ref q12, .ref q13, .ref q14, .ref q17, .int 1, .long 0, .int 0])), (q2, .inr (1, [.ref q3, .int 0])), (q3, .inl (k4, 1200, .inl (fun _ => 0))), (q5, .inr (2, [.ref q2, .int 0, .int 0, .int 0, .int 0, .int 0, .int 0, .int 0, .int 0, .int 0, .int 0, .long 0])), (q6, .inr (3, [.ref q7, .int 35, .int 35])), (q7, .inl (k8, 208, .inl (fun _ => 0))), (q9, .inr (3, [.ref q10, .int 35, .int 35])), (q10, .inl (k11, 208, .inl (fun _ => 0))), (q12, .inr (4, [.long 0, .int 0, .int 0])), (q13, .inr (4, [.long 0, .int 0, .int 0])), (q14, .inr (5, [.ref q15, .int 0])), (q15, .inl (k16, 420, .inl (fun _ => 0))), (q17, .inr (6, [.ref q14, .ref q9, .ref q18, .int 0, .int 100, .int 0, .int 0, .int (-1)])), (q18, .inl (k19, 22, .inl (fun _ => 0)))]) rfl (by decide) (by decide) (by decide) rfl hl.1 rfl (lv_room (Nat.le_of_ble_eq_true rfl)) d_L_law_12 ⟨Nat.le_of_ble_eq_true rfl, Nat.le_of_ble_eq_true rfl⟩ (fun w9 ty9 H locs hz hK hP hD hS => ?_)
  obtain ⟨q21, k22, q23, k24, q25, k26, q27, k28, q29, k30, q31, k32, q33, k34, q35, k36, q37, k38, rfl, rfl⟩ := hz
  have hK : va_K (dC, dI) classes [(k4, .byte), (k8, .int), (k11, .int), (k16, .byte), (k19, .byte), (k22, .byte), (k24, .int), (k26, .int), (k28, .byte), (k30, .int), (k32, .byte), (k34, .byte), (k36, .byte), (k38, .byte)] s := hK
  have hP : va_P (dC, dI) classes [(q1, .inr (0, [.ref q2, .ref q5, .ref q6, .ref q9, .ref q12, .ref q13, .ref q14, .ref q17, .int 1, .long 0, .int 0])), (q2, .inr (1, [.ref q3, .int 0])), (q3, .inl (k4, 1200, .inl (fun _ => 0))), (q5, .inr (2, [.ref q2, .int 0, .int 0, .int 0, .int 0, .int 0, .int 0, .int 0, .int 0, .int 0, .int 0, .long 0])), (q6, .inr (3, [.ref q7, .int 35, .int 35])), (q7, .inl (k8, 208, .inl (fun _ => 0))), (q9, .inr (3, [.ref q10, .int 35, .int 35])), (q10, .inl (k11, 208, .inl (fun _ => 0))), (q12, .inr (4, [.long 0, .int 0, .int 0])), (q13, .inr (4, [.long 0, .int 0, .int 0])), (q14, .inr (5, [.ref q15, .int 0])), (q15, .inl (k16, 420, .inl (fun _ => 0))), (q17, .inr (6, [.ref q14, .ref q9, .ref q18, .int 0, .int 100, .int 0, .int 0, .int (-1)])), (q18, .inl (k19, 22, .inl (fun _ => 0))), (q20, .inr (7, [.ref q21, .int 0, .int 1, .long 0, .int 0, .ref q23, .int 0, .ref q25, .int 0, .int 0, .int 0, .ref q27, .int 0, .int 0, .int 0, .int 0, .int 0, .int 0, .ref q29, .int 0, .ref q31, .int 0, .int 0, .ref q33, .int 0, .int 0, .ref q35, .int 0, .ref q37, .int 0])), (q21, .inl (k22, 1200, .inl (fun _ => 0))), (q23, .inl (k24, 400, .inl (fun _ => 0))), (q25, .inl (k26, 400, .inl (fun _ => 0))), (q27, .inl (k28, 1200, .inl (fun _ => 0))), (q29, .inl (k30, 140, .inl (fun _ => 0))), (q31, .inl (k32, 1300, .inl (fun _ => 0))), (q33, .inl (k34, 1300, .inl (fun _ => 0))), (q35, .inl (k36, 700, .inl (fun _ => 0))), (q37, .inl (k38, 700, .inl (fun _ => 0)))] H := hP
  have hD : va_D (fun q : Nat => s.heap.size ≤ q) [(q1, .inr (0, [.ref q2, .ref q5, .ref q6, .ref q9, .ref q12, .ref q13, .ref q14, .ref q17, .int 1, .long 0, .int 0])), (q2, .inr (1, [.ref q3, .int 0])), (q3, .inl (k4, 1200, .inl (fun _ => 0))), (q5, .inr (2, [.ref q2, .int 0, .int 0, .int 0, .int 0, .int 0, .int 0, .int 0, .int 0, .int 0, .int 0, .long 0])), (q6, .inr (3, [.ref q7, .int 35, .int 35])), (q7, .inl (k8, 208, .inl (fun _ => 0))), (q9, .inr (3, [.ref q10, .int 35, .int 35])), (q10, .inl (k11, 208, .inl (fun _ => 0))), (q12, .inr (4, [.long 0, .int 0, .int 0])), (q13, .inr (4, [.long 0, .int 0, .int 0])), (q14, .inr (5, [.ref q15, .int 0])), (q15, .inl (k16, 420, .inl (fun _ => 0))), (q17, .inr (6, [.ref q14, .ref q9, .ref q18, .int 0, .int 100, .int 0, .int 0, .int (-1)])), (q18, .inl (k19, 22, .inl (fun _ => 0))), (q20, .inr (7, [.ref q21, .int 0, .int 1, .long 0, .int 0, .ref q23, .int 0, .ref q25, .int 0, .int 0, .int 0, .ref q27, .int 0, .int 0, .int 0, .int 0, .int 0, .int 0, .ref q29, .int 0, .ref q31, .int 0, .int 0, .ref q33, .int 0, .int 0, .ref q35, .int 0, .ref q37, .int 0])), (q21, .inl (k22, 1200, .inl (fun _ => 0))), (q23, .inl (k24, 400, .inl (fun _ => 0))), (q25, .inl (k26, 400, .inl (fun _ => 0))), (q27, .inl (k28, 1200, .inl (fun _ => 0))), (q29, .inl (k30, 140, .inl (fun _ => 0))), (q31, .inl (k32, 1300, .inl (fun _ => 0))), (q33, .inl (k34, 1300, .inl (fun _ => 0))), (q35, .inl (k36, 700, .inl (fun _ => 0))), (q37, .inl (k38, 700, .inl (fun _ => 0)))] := hD
  refine lv_astore_n (lv' := [(2, .ref q20), (1, .ref q1), (0, .ref b)]) hx hb d_L_law_15 rfl hl (by decide) rfl (fun ls hl => ?_)
  refine lv_iconst (v := 0) hx hb d_L_law_16 (by decide) ?_
  refine lv_istore_n (lv' := [(3, .int 0), (2, .ref q20), (1, .ref q1), (0, .ref b)]) hx hb d_L_law_17 rfl hl (by decide) rfl (fun ls hl => ?_)
  have hP : va_P (dC, dI) classes (WS_L_law q1 q13 q9 q5 q14 q6 q12 q2 q17 q10 q15 q7 q3 q18 q20 q23 q25 q37 q27 q31 q29 q35 q33 q21 k11 k16 k8 k4 k19 k24 k26 k38 k28 k32 k30 k36 k34 k22 (1 : Int32) (0 : Int64) (0 : Int32) (0 : Int64) (0 : Int32) (0 : Int32) (35 : Int32) (35 : Int32) (0 : Int32) (0 : Int32) (0 : Int32) (0 : Int32) (0 : Int32) (0 : Int32) (0 : Int32) (0 : Int32) (0 : Int32) (0 : Int32) (0 : Int64) (0 : Int32) (35 : Int32) (35 : Int32) (0 : Int64) (0 : Int32) (0 : Int32) (0 : Int32) (0 : Int32) (100 : Int32) (0 : Int32) (0 : Int32) ((-1) : Int32) (fun _ => 0) (fun _ => 0) (fun _ => 0) (fun _ => 0) (fun _ => 0) (0 : Int32) (1 : Int32) (0 : Int64) (0 : Int32) (0 : Int32) (0 : Int32) (0 : Int32) (0 : Int32) (0 : Int32) (0 : Int32) (0 : Int32) (0 : Int32) (0 : Int32) (0 : Int32) (0 : Int32) (0 : Int32) (0 : Int32) (0 : Int32) (0 : Int32) (0 : Int32) (0 : Int32) (fun _ => 0) (fun _ => 0) (fun _ => 0) (fun _ => 0) (fun _ => 0) (fun _ => 0) (fun _ => 0) (fun _ => 0) (fun _ => 0)) H := hP.sub [0, 9, 6, 3, 10, 4, 8, 1, 12, 7, 11, 5, 2, 13, 14, 16, 17, 23, 18, 20, 19, 22, 21, 15] rfl
  have hD : va_D (fun q : Nat => s.heap.size ≤ q) (WS_L_law q1 q13 q9 q5 q14 q6 q12 q2 q17 q10 q15 q7 q3 q18 q20 q23 q25 q37 q27 q31 q29 q35 q33 q21 k11 k16 k8 k4 k19 k24 k26 k38 k28 k32 k30 k36 k34 k22 (1 : Int32) (0 : Int64) (0 : Int32) (0 : Int64) (0 : Int32) (0 : Int32) (35 : Int32) (35 : Int32) (0 : Int32) (0 : Int32) (0 : Int32) (0 : Int32) (0 : Int32) (0 : Int32) (0 : Int32) (0 : Int32) (0 : Int32) (0 : Int32) (0 : Int64) (0 : Int32) (35 : Int32) (35 : Int32) (0 : Int64) (0 : Int32) (0 : Int32) (0 : Int32) (0 : Int32) (100 : Int32) (0 : Int32) (0 : Int32) ((-1) : Int32) (fun _ => 0) (fun _ => 0) (fun _ => 0) (fun _ => 0) (fun _ => 0) (0 : Int32) (1 : Int32) (0 : Int64) (0 : Int32) (0 : Int32) (0 : Int32) (0 : Int32) (0 : Int32) (0 : Int32) (0 : Int32) (0 : Int32) (0 : Int32) (0 : Int32) (0 : Int32) (0 : Int32) (0 : Int32) (0 : Int32) (0 : Int32) (0 : Int32) (0 : Int32) (0 : Int32) (fun _ => 0) (fun _ => 0) (fun _ => 0) (fun _ => 0) (fun _ => 0) (fun _ => 0) (fun _ => 0) (fun _ => 0) (fun _ => 0)) := hD.sub [0, 9, 6, 3, 10, 4, 8, 1, 12, 7, 11, 5, 2, 13, 14, 16, 17, 23, 18, 20, 19, 22, 21, 15] (by decide) rfl
  have hK : va_K (dC, dI) classes [(k11, .int), (k16, .byte), (k8, .int), (k4, .byte), (k19, .byte), (k24, .int), (k26, .int), (k38, .byte), (k28, .byte), (k32, .byte), (k30, .int), (k36, .byte), (k34, .byte), (k22, .byte)] s := hK.sub [2, 3, 1, 0, 4, 6, 7, 13, 8, 10, 9, 12, 11, 5] rfl
  refine W.cs (cells' := 24) (slots' := 9475) rfl rfl ?_
  exact s_L_law_18 C0 hK hX fu (1 : Int32) (0 : Int64) (0 : Int32) (0 : Int64) (0 : Int32) (0 : Int32) (35 : Int32) (35 : Int32) (0 : Int32) (0 : Int32) (0 : Int32) (0 : Int32) (0 : Int32) (0 : Int32) (0 : Int32) (0 : Int32) (0 : Int32) (0 : Int32) (0 : Int64) (0 : Int32) (35 : Int32) (35 : Int32) (0 : Int64) (0 : Int32) (0 : Int32) (0 : Int32) (0 : Int32) (100 : Int32) (0 : Int32) (0 : Int32) ((-1) : Int32) (fun _ => 0) (fun _ => 0) (fun _ => 0) (fun _ => 0) (fun _ => 0) (0 : Int32) (1 : Int32) (0 : Int64) (0 : Int32) (0 : Int32) (0 : Int32) (0 : Int32) (0 : Int32) (0 : Int32) (0 : Int32) (0 : Int32) (0 : Int32) (0 : Int32) (0 : Int32) (0 : Int32) (0 : Int32) (0 : Int32) (0 : Int32) (0 : Int32) (0 : Int32) (0 : Int32) (fun _ => 0) (fun _ => 0) (fun _ => 0) (fun _ => 0) (fun _ => 0) (fun _ => 0) (fun _ => 0) (fun _ => 0) (fun _ => 0) 0 H locs ls hP hD hS (lv_sub hl [3, 2, 1, 0] rfl) (law_pure L xs hL)
set_option maxHeartbeats 4000000 in
theorem lw_walk (l : Launch) (b : Addr) (xs : List Int32) : MetFree l x (headSpec (Jvm.Cond.code x code maxLocals ret :: tables_1) room_1) (lw_P b xs) (fun _ _ _ _ _ => True) lw_Q := by
  refine MetFree.of_bodyS (code := code) (maxLocals := maxLocals) (ret := ret) (by decide) ?_ ?_
  · intro args s m h hn
    obtain ⟨meth, c, h1, h2, h3, h4, h5, h6, -, -⟩ := Cond.code_spec hn (atoms_spec (ws := Jvm.Cond.code x code maxLocals ret :: tables_1) h _ List.mem_cons_self)
    exact ⟨meth, c, h1, h2, h3, h4, h5, h6⟩
  · intro p e s m args below meth c s₁ B hml0 hP _
    obtain ⟨rfl, hx, hbd, hgv⟩ := hP
    obtain ⟨scr, harrAt, hlist, hof, hsmall⟩ := hx
    obtain ⟨hcb, hkn, -, -⟩ := State.arrayAt?_spec harrAt
    have hown : s.vm.findClass R_law = some m.cls := findClass_of_methodNamed B.named
    have hts0 : ∀ c ∈ (Jvm.Cond.code x code maxLocals ret :: tables_1), c.before #[Value.ref b] s = true := atoms_spec (ws := Jvm.Cond.code x code maxLocals ret :: tables_1) B.pre
    have hts : ∀ w ∈ lw_tbl, w.before #[Value.ref b] s = true := k2_hts_sels lw_privs (fun w hw => hts0 w (List.mem_cons_of_mem _ hw)) lw_privs_ok
    have hml : c.maxLocals = 4 := B.maxLocals_eq (hts0 _ List.mem_cons_self)
    have X₀ : Stand p l e room_1 s m #[Value.ref b] below meth c s₁ [] 0 0 := Stand.of_body B
    have hh0 : s₁.heap = s.heap := by rw [B.state]; rfl
    have hsz : scr.slots.size = xs.length := by rw [← Array.length_toList, hlist, List.length_map]
    have hval : ∀ j : Nat, j < xs.length → scr.slots[j]? = some (.int (xs.getD j 0)) := fun j hj => by
      rw [← Array.getElem?_toList, hlist]
      simp [hj]
    have hbl : b < s.heap.size := (Array.getElem?_eq_some_iff.mp hcb).1
    have hX : va_X b xs.length (fun j => xs.getD j 0) s s.heap := ⟨scr, hcb, hof, hkn, hsz, hval⟩
    have K : W p l e room_1 s m #[Value.ref b] below meth c s₁.heap [] 0 0 (lw_Z below #[Value.ref b] s) (entryFrame m ([Value.ref b] : List Value).toArray 4) := by
      rw [hh0]
      exact whole_start l hbd ⟨B.exec, B.bytes, B.returns, hml, hown, hts, hX, hbl, B.notSynchronized, hgv⟩
    obtain ⟨t, a1, o, b1, b2, b3⟩ := K s₁ rfl X₀
    exact ⟨t, o, a1, b1, b2, b3⟩
theorem lw_pre_spec {args : Array Value} {s : State} (h : (Jvm.Cond.and given_1 narrow_1).before args s = true) (hr : rest_1_c.before args s = true) : ∃ (b : Addr) (xs : List Int32), lw_P b xs args s := by
  have hs := flat_of_before _ h
  have hq := flat_of_before _ hr
  have hc : (Cond.count 1).before args s = true := hs _ (by decide +kernel)
  have harr : (Cond.arrayOf (.arg 0) .int).before args s = true := hs _ (by decide +kernel)
  have hle : (Cond.le (.length (.arg 0)) (.int 2560)).before args s = true := hs _ (by decide +kernel)
  have hlen : (Cond.isInt (.length (.arg 0))).before args s = true := hq _ (by decide +kernel)
  have hall : (Cond.all (.arg 0) (.isInt (.elem (.arg 0) (.index 0)))).before args s = true := hq _ (by decide +kernel)
  obtain ⟨b, xs, hb, hx⟩ := State.ints_of_pre rfl harr hlen hall
  have hsm : xs.length < 2 ^ 31 := hx.choose_spec.2.2.2
  have hev : (Term.length (.arg 0)).eval args s none [] s = some (.int xs.length.toInt32) := hx.length_eval hb
  have hv := Cond.le_ints hev (show (Term.int 2560).eval args s none [] s = some (.int 2560) from rfl)
  have hd : xs.length.toInt32 ≤ 2560 := by
    simpa [Cond.before, Cond.holds, hv] using hle
  have hN : xs.length ≤ 2560 := (Int32.ofNat_le_ofNat hsm (by decide)).mp (show Int32.ofNat xs.length ≤ Int32.ofNat 2560 from hd)
  exact ⟨b, xs, Cond.one_arg hc (show args[0]? = some (.ref b) from hb), hx, hN, h⟩
theorem lw_comes (l : Launch) : Comes l x (Jvm.Cond.code x code maxLocals ret :: tables_1) room_1 (fun tb e args s => Calls_1 tb e args s ∧ rest_1 tb e args s ∧ Pre_1 tb e args s)
    (fun _ _ args s o t => lw_Q args s o t) := by
  intro p e ha hc hk s m args below hf hfit hheap happ hpre
  obtain ⟨b, xs, hP⟩ := lw_pre_spec hpre.2.2 hpre.2.1
  obtain ⟨k, o, h1, h2, h3, hQ⟩ := lw_walk l b xs p e ha hc hk s m args below hf ((Spec.applies_iff_loose hf).mp happ).1 hP trivial
  exact ⟨k, o, h1, h2, h3, hQ⟩
theorem lw_frame {s t : State} {o : Outcome} {args : Array Value} (h : Framed s o t [] 24 9475) :
    Framed s o t (fieldLocs frame_1_writes args s ++ arrayLocs frame_1_arrays args s ++ staticLocs frame_1_statics s) 24 9475 := h
theorem lw_limb (L : Cond) (hL : ∀ (args : Array Value) (s t : State), L.after args s (.returned (some (.int 1))) t = true) :
    ArmFor flags0 classFile x code maxLocals ret World_1 tables_1 room_1 Calls_1 rest_1 Pre_1
      (fun tb e a s o t => postC L tb e a s o t ∧ Framed s o t (fieldLocs frame_1_writes a s ++ arrayLocs frame_1_arrays a s ++ staticLocs frame_1_statics s) 24 9475) := by
  intro l _ _ _ p e ha hc hk s m args below hf hfit hheap happ hpre
  obtain ⟨k, o, h1, h2, h3, rfl, hF⟩ := lw_comes l p e ha hc hk s m args below hf hfit hheap happ hpre
  exact ⟨k, _, h1, h2, h3, hL args s _, lw_frame hF⟩
theorem i_vc : Claimed_1_1 ∧ Claimed_1_2 := ⟨lw_limb limb_1_1 (fun args s t => by simp [limb_1_1, Cond.after, Cond.holds, Cond.value]), lw_limb limb_1_2 (fun args s t => Cond.after_iff.mpr (by
  first | (rw [show limb_1_2 = Cond.eq .result (.int 1) from rfl, Cond.eq_ints (x := 1) (y := 1) rfl rfl]; simp; done) | (simp [limb_1_2, Cond.value, Term.eval]; done)))⟩


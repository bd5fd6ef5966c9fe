abbrev WS_Numeral_scan (h_this : Nat) (h_this_tape : Nat) (h_this_tape_row : Nat) (c_this_tape_row : ClassId) (v_next : Int32) (v_negative : Int32) (v_sixteen : Int32) (v_hasPoint : Int32) (v_hasPower : Int32) (v_from : Int32) (v_to : Int32) (v_before : Int32) (v_digits : Int32) (v_power : Int32) (v_found : Int64) (v_tape_length : Int32) (a_tape_row : (Nat → Int32)) : va_W := [(h_this, .inr (2, [.ref h_this_tape, .int v_next, .int v_negative, .int v_sixteen, .int v_hasPoint, .int v_hasPower, .int v_from, .int v_to, .int v_before, .int v_digits, .int v_power, .long v_found])), (h_this_tape, .inr (1, [.ref h_this_tape_row, .int v_tape_length])), (h_this_tape_row, .inl (c_this_tape_row, 1200, .inl a_tape_row))]
def f_Numeral_scan (v_next : Int32) (v_negative : Int32) (v_sixteen : Int32) (v_hasPoint : Int32) (v_hasPower : Int32) (v_from : Int32) (v_to : Int32) (v_before : Int32) (v_digits : Int32) (v_power : Int32) (v_tape_length : Int32) (a_tape_row : (Nat → Int32)) : Option (Int32 × Int32 × Int32 × Int32 × Int32 × Int32 × Int32 × Int32 × Int32 × Int32 × Int32) :=
  bi1 (f_Numeral_passBlanks (0 : Int32) v_tape_length a_tape_row) fun v1 =>
  bi2 (f_Numeral_passSign v1 v_tape_length a_tape_row) fun r2 v3 =>
  ck (ckZ r2) <|
  bi2 (f_Numeral_passPrefix v3 v_sixteen v_tape_length a_tape_row) fun v5 v6 =>
  bi6 (f_Numeral_passDigits v5 v6 v_hasPoint v_from v_to v_before v_digits v_tape_length a_tape_row) fun v7 v8 v9 v10 v11 v12 =>
  if v12 = 0 then
    some (v7, v7, r2, v6, v8, v_hasPower, v9, v10, v11, v12, v_power)
  else
    bi4 (f_Numeral_passPower v7 v6 v_hasPower v_power v_tape_length a_tape_row) fun r14 v15 v16 v17 =>
    if r14 = 0 then
      some (v15, v15, r2, v6, v8, v16, v9, v10, v11, v12, v17)
    else
      bi1 (f_Numeral_passBlanks v15 v_tape_length a_tape_row) fun v19 =>
      bi1 (f_Tape_length v_tape_length) fun r20 =>
      if r20 ≤ v19 then
        some ((-1 : Int32), v19, r2, v6, v8, v16, v9, v10, v11, v12, v17)
      else
        some (v19, v19, r2, v6, v8, v16, v9, v10, v11, v12, v17)
set_option maxHeartbeats 4000000 in
set_option maxRecDepth 100000 in
theorem s_Numeral_scan_e {p : Program} {l : Launch} {e : Env} {s : State} {m : MethodId} {args : Array Value} {below : List Frame} {meth : Method} {c : Code} {dC : Nat → ClassId} {dI : Nat → Nat → Nat} {A : Nat → Prop} {X : SXT} {h_this : Nat} {h_this_tape : Nat} {h_this_tape_row : Nat} {c_this_tape_row : ClassId} {v_found : Int64} {res : Int32 × Int32 × Int32 × Int32 × Int32 × Int32 × Int32 × Int32 × Int32 × Int32 × Int32} (cx : cxx p s m args meth c b_Numeral_scan 1 (some .int) R_Numeral) (hK : va_K (dC, dI) classes [(c_this_tape_row, .byte)] s) (hA : ∀ q, s.heap.size ≤ q → A q) (hX : SX X A s s.heap) : ∀ (v_next : Int32) (v_negative : Int32) (v_sixteen : Int32) (v_hasPoint : Int32) (v_hasPower : Int32) (v_from : Int32) (v_to : Int32) (v_before : Int32) (v_digits : Int32) (v_power : Int32) (v_tape_length : Int32) (a_tape_row : (Nat → Int32)) (H : Heap) (locs : List Loc) (ls : Array Slot), va_P (dC, dI) classes (WS_Numeral_scan h_this h_this_tape h_this_tape_row c_this_tape_row v_next v_negative v_sixteen v_hasPoint v_hasPower v_from v_to v_before v_digits v_power v_found v_tape_length a_tape_row) H → va_D A (WS_Numeral_scan h_this h_this_tape h_this_tape_row c_this_tape_row v_next v_negative v_sixteen v_hasPoint v_hasPower v_from v_to v_before v_digits v_power v_found v_tape_length a_tape_row) → va_S A s.heap H locs → lv_has ls 1 [(0, .ref h_this)] → f_Numeral_scan v_next v_negative v_sixteen v_hasPoint v_hasPower v_from v_to v_before v_digits v_power v_tape_length a_tape_row = some res → W p l e ({ frames := 3, cells := 0, slots := 0, locals := 66 }) s m args below meth c H locs 0 0 (MQ below (va_Qi (fun (r : Int32) (u : Int32 × Int32 × Int32 × Int32 × Int32 × Int32 × Int32 × Int32 × Int32 × Int32) => some (r, u) = some res) (gB (dC, dI) [(c_this_tape_row, .byte)] A (fun (u : Int32 × Int32 × Int32 × Int32 × Int32 × Int32 × Int32 × Int32 × Int32 × Int32) => (WS_Numeral_scan h_this h_this_tape h_this_tape_row c_this_tape_row u.1 u.2.1 u.2.2.1 u.2.2.2.1 u.2.2.2.2.1 u.2.2.2.2.2.1 u.2.2.2.2.2.2.1 u.2.2.2.2.2.2.2.1 u.2.2.2.2.2.2.2.2.1 u.2.2.2.2.2.2.2.2.2 v_found v_tape_length a_tape_row))) A) args s 0 0 A) (F0 m 0 ls []) := by
  intro v_next v_negative v_sixteen v_hasPoint v_hasPower v_from v_to v_before v_digits v_power v_tape_length a_tape_row H locs ls hP hD hS hl h
  obtain ⟨hx, hb, hr, hml, hown, ht, hlk⟩ := id cx
  refine lv_aload_n hx hb d_Numeral_scan_0 rfl (lv_at hl 0 rfl) ?_
  refine lv_iconst (v := 0) hx hb d_Numeral_scan_1 (by decide) ?_
  refine va_put (D := (dC, dI)) (ci := 2) (v := .int (0 : Int32)) (ty := .int) (C := R_Numeral) (T := F_Numeral) (N := 12) hx hb ht i_Numeral t_Numeral t_Numeral_ok n_Numeral hown hK hP hD hS 0 rfl rfl 1 (by decide) (ht _ q_16) (fun _ h9 => h9) rfl (t_Numeral_ok 1 (by decide)) rfl rfl (Nat.le_of_ble_eq_true rfl) d_Numeral_scan_2 (fun H locs hP hD hS => ?_)
  have hP : va_P (dC, dI) classes (WS_Numeral_scan h_this h_this_tape h_this_tape_row c_this_tape_row (0 : Int32) v_negative v_sixteen v_hasPoint v_hasPower v_from v_to v_before v_digits v_power v_found v_tape_length a_tape_row) H := hP
  have hD : va_D A (WS_Numeral_scan h_this h_this_tape h_this_tape_row c_this_tape_row (0 : Int32) v_negative v_sixteen v_hasPoint v_hasPower v_from v_to v_before v_digits v_power v_found v_tape_length a_tape_row) := hD
  refine lv_aload_n hx hb d_Numeral_scan_5 rfl (lv_at hl 0 rfl) ?_
  obtain ⟨v1, hf, h⟩ := bi1_x h
  refine clVv (D := (dC, dI)) (n := 0) (As := []) ⟨hx, hb, hml, hown, ht⟩ (c_Numeral_passBlanks l dC dI X h_this h_this_tape h_this_tape_row c_this_tape_row H.size (0 : Int32) v_negative v_sixteen v_hasPoint v_hasPower v_from v_to v_before v_digits v_power v_found v_tape_length a_tape_row v1 hf) (gV q_47 q_48 q_49 q_24 q_50) (by decide +kernel) ⟨rfl, rfl, Nat.le_of_ble_eq_true rfl, Nat.le_of_ble_eq_true rfl⟩ hK hP hD hS hA hX [0, 1, 2] [] [0] rfl (wr := []) rfl (by decide) (by decide) (by decide) rfl (va_recv hK hP (ci := 2) (q0 := 0) rfl rfl) rfl hl.1 rfl (lv_room (Nat.le_of_ble_eq_true rfl)) d_Numeral_scan_6 ⟨Nat.zero_le _, Nat.zero_le _⟩ (fun u9 H locs h9 hP hD hS => ?_)
  cases h9
  have hP : va_P (dC, dI) classes (WS_Numeral_scan h_this h_this_tape h_this_tape_row c_this_tape_row v1 v_negative v_sixteen v_hasPoint v_hasPower v_from v_to v_before v_digits v_power v_found v_tape_length a_tape_row) H := hP.sub [0, 1, 2] rfl
  have hD : va_D A (WS_Numeral_scan h_this h_this_tape h_this_tape_row c_this_tape_row v1 v_negative v_sixteen v_hasPoint v_hasPower v_from v_to v_before v_digits v_power v_found v_tape_length a_tape_row) := hD.sub [0, 1, 2] (by decide) rfl
  refine lv_aload_n hx hb d_Numeral_scan_9 rfl (lv_at hl 0 rfl) ?_
  refine lv_aload_n hx hb d_Numeral_scan_10 rfl (lv_at hl 0 rfl) ?_
  obtain ⟨r2, v3, hf, h⟩ := bi2_x h
  refine clVi (D := (dC, dI)) (n := 0) (As := []) ⟨hx, hb, hml, hown, ht⟩ (c_Numeral_passSign l dC dI X h_this h_this_tape h_this_tape_row c_this_tape_row H.size v1 v_negative v_sixteen v_hasPoint v_hasPower v_from v_to v_before v_digits v_power v_found v_tape_length a_tape_row (r2, v3) hf) (gV q_43 q_44 q_45 q_24 q_46) (by decide +kernel) ⟨rfl, rfl, Nat.le_of_ble_eq_true rfl, Nat.le_of_ble_eq_true rfl⟩ hK hP hD hS hA hX [0, 1, 2] [] [0] rfl (wr := []) rfl (by decide) (by decide) (by decide) rfl (va_recv hK hP (ci := 2) (q0 := 0) rfl rfl) rfl hl.1 rfl (lv_room (Nat.le_of_ble_eq_true rfl)) d_Numeral_scan_11 ⟨Nat.zero_le _, Nat.zero_le _⟩ (fun r9 u9 H locs h9 hP hD hS => ?_)
  cases h9
  have hP : va_P (dC, dI) classes (WS_Numeral_scan h_this h_this_tape h_this_tape_row c_this_tape_row v3 v_negative v_sixteen v_hasPoint v_hasPower v_from v_to v_before v_digits v_power v_found v_tape_length a_tape_row) H := hP.sub [0, 1, 2] rfl
  have hD : va_D A (WS_Numeral_scan h_this h_this_tape h_this_tape_row c_this_tape_row v3 v_negative v_sixteen v_hasPoint v_hasPower v_from v_to v_before v_digits v_power v_found v_tape_length a_tape_row) := hD.sub [0, 1, 2] (by decide) rfl
  obtain ⟨c4, h⟩ := ck_x h
  refine va_put (D := (dC, dI)) (ci := 2) (v := .int r2) (ty := .boolean) (C := R_Numeral) (T := F_Numeral) (N := 12) hx hb ht i_Numeral t_Numeral t_Numeral_ok n_Numeral hown hK hP hD hS 0 rfl rfl 2 (by decide) (ht _ q_51) (fun _ h9 => h9) rfl (t_Numeral_ok 2 (by decide)) (ckZ_n c4) (ckZ_f c4) (Nat.le_of_ble_eq_true rfl) d_Numeral_scan_14 (fun H locs hP hD hS => ?_)
  have hP : va_P (dC, dI) classes (WS_Numeral_scan h_this h_this_tape h_this_tape_row c_this_tape_row v3 r2 v_sixteen v_hasPoint v_hasPower v_from v_to v_before v_digits v_power v_found v_tape_length a_tape_row) H := hP
  have hD : va_D A (WS_Numeral_scan h_this h_this_tape h_this_tape_row c_this_tape_row v3 r2 v_sixteen v_hasPoint v_hasPower v_from v_to v_before v_digits v_power v_found v_tape_length a_tape_row) := hD
  refine lv_aload_n hx hb d_Numeral_scan_17 rfl (lv_at hl 0 rfl) ?_
  obtain ⟨v5, v6, hf, h⟩ := bi2_x h
  refine clVv (D := (dC, dI)) (n := 0) (As := []) ⟨hx, hb, hml, hown, ht⟩ (c_Numeral_passPrefix l dC dI X h_this h_this_tape h_this_tape_row c_this_tape_row H.size v3 r2 v_sixteen v_hasPoint v_hasPower v_from v_to v_before v_digits v_power v_found v_tape_length a_tape_row (v5, v6) hf) (gV q_52 q_53 q_54 q_24 q_55) (by decide +kernel) ⟨rfl, rfl, Nat.le_of_ble_eq_true rfl, Nat.le_of_ble_eq_true rfl⟩ hK hP hD hS hA hX [0, 1, 2] [] [0] rfl (wr := []) rfl (by decide) (by decide) (by decide) rfl (va_recv hK hP (ci := 2) (q0 := 0) rfl rfl) rfl hl.1 rfl (lv_room (Nat.le_of_ble_eq_true rfl)) d_Numeral_scan_18 ⟨Nat.zero_le _, Nat.zero_le _⟩ (fun u9 H locs h9 hP hD hS => ?_)
  cases h9
  have hP : va_P (dC, dI) classes (WS_Numeral_scan h_this h_this_tape h_this_tape_row c_this_tape_row v5 r2 v6 v_hasPoint v_hasPower v_from v_to v_before v_digits v_power v_found v_tape_length a_tape_row) H := hP.sub [0, 1, 2] rfl
  have hD : va_D A (WS_Numeral_scan h_this h_this_tape h_this_tape_row c_this_tape_row v5 r2 v6 v_hasPoint v_hasPower v_from v_to v_before v_digits v_power v_found v_tape_length a_tape_row) := hD.sub [0, 1, 2] (by decide) rfl
  refine lv_aload_n hx hb d_Numeral_scan_21 rfl (lv_at hl 0 rfl) ?_
  obtain ⟨v7, v8, v9, v10, v11, v12, hf, h⟩ := bi6_x h
  refine clVv (D := (dC, dI)) (n := 0) (As := []) ⟨hx, hb, hml, hown, ht⟩ (c_Numeral_passDigits l dC dI X h_this h_this_tape h_this_tape_row c_this_tape_row H.size v5 r2 v6 v_hasPoint v_hasPower v_from v_to v_before v_digits v_power v_found v_tape_length a_tape_row (v7, v8, v9, v10, v11, v12) hf) (gV q_56 q_57 q_58 q_24 q_59) (by decide +kernel) ⟨rfl, rfl, Nat.le_of_ble_eq_true rfl, Nat.le_of_ble_eq_true rfl⟩ hK hP hD hS hA hX [0, 1, 2] [] [0] rfl (wr := []) rfl (by decide) (by decide) (by decide) rfl (va_recv hK hP (ci := 2) (q0 := 0) rfl rfl) rfl hl.1 rfl (lv_room (Nat.le_of_ble_eq_true rfl)) d_Numeral_scan_22 ⟨Nat.zero_le _, Nat.zero_le _⟩ (fun u9 H locs h9 hP hD hS => ?_)
  cases h9
  have hP : va_P (dC, dI) classes (WS_Numeral_scan h_this h_this_tape h_this_tape_row c_this_tape_row v7 r2 v6 v8 v_hasPower v9 v10 v11 v12 v_power v_found v_tape_length a_tape_row) H := hP.sub [0, 1, 2] rfl
  have hD : va_D A (WS_Numeral_scan h_this h_this_tape h_this_tape_row c_this_tape_row v7 r2 v6 v8 v_hasPower v9 v10 v11 v12 v_power v_found v_tape_length a_tape_row) := hD.sub [0, 1, 2] (by decide) rfl
  refine lv_aload_n hx hb d_Numeral_scan_25 rfl (lv_at hl 0 rfl) ?_
  refine va_get (D := (dC, dI)) (ci := 2) (v := .int v12) (C := R_Numeral) (T := F_Numeral) (N := 12) hx hb ht i_Numeral hown hK hP 0 rfl rfl 9 (by decide) (ht _ q_34) (fun _ h9 => h9) rfl d_Numeral_scan_26 ?_
  refine lv_if_eq (tgt := 39) hx hb d_Numeral_scan_29 (by decide) (fun c13 => ?_) (fun c13 => ?_)
  · have h := if_t c13 h
    refine lv_aload_n hx hb d_Numeral_scan_39 rfl (lv_at hl 0 rfl) ?_
    refine va_get (D := (dC, dI)) (ci := 2) (v := .int v7) (C := R_Numeral) (T := F_Numeral) (N := 12) hx hb ht i_Numeral hown hK hP 0 rfl rfl 1 (by decide) (ht _ q_16) (fun _ h9 => h9) rfl d_Numeral_scan_40 ?_
    exact W.iret (v := v7) hx hb hr (fun t ht9 hW => ⟨⟨v7, (v7, r2, v6, v8, v_hasPower, v9, v10, v11, v12, v_power), rfl, h, by rw [ht9]; exact hP, va_K.moved hW.alike hK, hD⟩, hS.F ht9⟩) hS.2.2 d_Numeral_scan_43 hlk
  · have h := if_f c13 h
    refine lv_aload_n hx hb d_Numeral_scan_32 rfl (lv_at hl 0 rfl) ?_
    obtain ⟨r14, v15, v16, v17, hf, h⟩ := bi4_x h
    refine clVi (D := (dC, dI)) (n := 0) (As := []) ⟨hx, hb, hml, hown, ht⟩ (c_Numeral_passPower l dC dI X h_this h_this_tape h_this_tape_row c_this_tape_row H.size v7 r2 v6 v8 v_hasPower v9 v10 v11 v12 v_power v_found v_tape_length a_tape_row (r14, v15, v16, v17) hf) (gV q_60 q_61 q_62 q_24 q_63) (by decide +kernel) ⟨rfl, rfl, Nat.le_of_ble_eq_true rfl, Nat.le_of_ble_eq_true rfl⟩ hK hP hD hS hA hX [0, 1, 2] [] [0] rfl (wr := []) rfl (by decide) (by decide) (by decide) rfl (va_recv hK hP (ci := 2) (q0 := 0) rfl rfl) rfl hl.1 rfl (lv_room (Nat.le_of_ble_eq_true rfl)) d_Numeral_scan_33 ⟨Nat.zero_le _, Nat.zero_le _⟩ (fun r9 u9 H locs h9 hP hD hS => ?_)
    cases h9
    have hP : va_P (dC, dI) classes (WS_Numeral_scan h_this h_this_tape h_this_tape_row c_this_tape_row v15 r2 v6 v8 v16 v9 v10 v11 v12 v17 v_found v_tape_length a_tape_row) H := hP.sub [0, 1, 2] rfl
    have hD : va_D A (WS_Numeral_scan h_this h_this_tape h_this_tape_row c_this_tape_row v15 r2 v6 v8 v16 v9 v10 v11 v12 v17 v_found v_tape_length a_tape_row) := hD.sub [0, 1, 2] (by decide) rfl
    refine lv_if_ne (tgt := 44) hx hb d_Numeral_scan_36 (by decide) (fun c18 => ?_) (fun c18 => ?_)
    · have h := if_f c18 h
      refine lv_aload_n hx hb d_Numeral_scan_44 rfl (lv_at hl 0 rfl) ?_
      obtain ⟨v19, hf, h⟩ := bi1_x h
      refine clVv (D := (dC, dI)) (n := 0) (As := []) ⟨hx, hb, hml, hown, ht⟩ (c_Numeral_passBlanks l dC dI X h_this h_this_tape h_this_tape_row c_this_tape_row H.size v15 r2 v6 v8 v16 v9 v10 v11 v12 v17 v_found v_tape_length a_tape_row v19 hf) (gV q_47 q_48 q_49 q_24 q_50) (by decide +kernel) ⟨rfl, rfl, Nat.le_of_ble_eq_true rfl, Nat.le_of_ble_eq_true rfl⟩ hK hP hD hS hA hX [0, 1, 2] [] [0] rfl (wr := []) rfl (by decide) (by decide) (by decide) rfl (va_recv hK hP (ci := 2) (q0 := 0) rfl rfl) rfl hl.1 rfl (lv_room (Nat.le_of_ble_eq_true rfl)) d_Numeral_scan_45 ⟨Nat.zero_le _, Nat.zero_le _⟩ (fun u9 H locs h9 hP hD hS => ?_)
      cases h9
      have hP : va_P (dC, dI) classes (WS_Numeral_scan h_this h_this_tape h_this_tape_row c_this_tape_row v19 r2 v6 v8 v16 v9 v10 v11 v12 v17 v_found v_tape_length a_tape_row) H := hP.sub [0, 1, 2] rfl
      have hD : va_D A (WS_Numeral_scan h_this h_this_tape h_this_tape_row c_this_tape_row v19 r2 v6 v8 v16 v9 v10 v11 v12 v17 v_found v_tape_length a_tape_row) := hD.sub [0, 1, 2] (by decide) rfl
      refine lv_aload_n hx hb d_Numeral_scan_48 rfl (lv_at hl 0 rfl) ?_
      refine va_get (D := (dC, dI)) (ci := 2) (v := .int v19) (C := R_Numeral) (T := F_Numeral) (N := 12) hx hb ht i_Numeral hown hK hP 0 rfl rfl 1 (by decide) (ht _ q_16) (fun _ h9 => h9) rfl d_Numeral_scan_49 ?_
      refine lv_aload_n hx hb d_Numeral_scan_52 rfl (lv_at hl 0 rfl) ?_
      refine va_get (D := (dC, dI)) (ci := 2) (v := .ref h_this_tape) (C := R_Numeral) (T := F_Numeral) (N := 12) hx hb ht i_Numeral hown hK hP 0 rfl rfl 0 (by decide) (ht _ q_17) (fun _ h9 => h9) rfl d_Numeral_scan_53 ?_
      obtain ⟨r20, hf, h⟩ := bi1_x h
      refine clVi (D := (dC, dI)) (n := 0) (As := []) ⟨hx, hb, hml, hown, ht⟩ (c_Tape_length l dC dI X h_this_tape_row h_this_tape H.size v_tape_length r20 hf) (gV q_26 q_4 q_5 q_6 q_7) (by decide +kernel) ⟨rfl, rfl, Nat.le_of_ble_eq_true rfl, Nat.le_of_ble_eq_true rfl⟩ hK hP hD hS hA hX [1] [0, 2] [] rfl (wr := [(h_this, .inr (2, [.ref h_this_tape, .int v19, .int r2, .int v6, .int v8, .int v16, .int v9, .int v10, .int v11, .int v12, .int v17, .long v_found])), (h_this_tape_row, .inl (c_this_tape_row, 1200, .inl a_tape_row))]) rfl (by decide) (by decide) (by decide) rfl (va_recv hK hP (ci := 1) (q0 := 1) rfl rfl) rfl hl.1 rfl (lv_room (Nat.le_of_ble_eq_true rfl)) d_Numeral_scan_56 ⟨Nat.zero_le _, Nat.zero_le _⟩ (fun r9 u9 H locs h9 hP hD hS => ?_)
      cases h9
      have hP : va_P (dC, dI) classes (WS_Numeral_scan h_this h_this_tape h_this_tape_row c_this_tape_row v19 r2 v6 v8 v16 v9 v10 v11 v12 v17 v_found v_tape_length a_tape_row) H := hP.sub [0, 2, 1] rfl
      have hD : va_D A (WS_Numeral_scan h_this h_this_tape h_this_tape_row c_this_tape_row v19 r2 v6 v8 v16 v9 v10 v11 v12 v17 v_found v_tape_length a_tape_row) := hD.sub [0, 2, 1] (by decide) rfl
      refine lv_icmp_ge (tgt := 69) hx hb d_Numeral_scan_59 (by decide) (fun c21 => ?_) (fun c21 => ?_)
      · have h := if_t c21 h
        refine lv_iconst (v := -1) hx hb d_Numeral_scan_69 (by decide) ?_
        exact W.iret (v := (-1 : Int32)) hx hb hr (fun t ht9 hW => ⟨⟨(-1 : Int32), (v19, r2, v6, v8, v16, v9, v10, v11, v12, v17), rfl, h, by rw [ht9]; exact hP, va_K.moved hW.alike hK, hD⟩, hS.F ht9⟩) hS.2.2 d_Numeral_scan_70 hlk
      · have h := if_f c21 h
        refine lv_aload_n hx hb d_Numeral_scan_62 rfl (lv_at hl 0 rfl) ?_
        refine va_get (D := (dC, dI)) (ci := 2) (v := .int v19) (C := R_Numeral) (T := F_Numeral) (N := 12) hx hb ht i_Numeral hown hK hP 0 rfl rfl 1 (by decide) (ht _ q_16) (fun _ h9 => h9) rfl d_Numeral_scan_63 ?_
        refine lv_goto (tgt := 70) hx hb d_Numeral_scan_66 (by decide) ?_
        exact W.iret (v := v19) hx hb hr (fun t ht9 hW => ⟨⟨v19, (v19, r2, v6, v8, v16, v9, v10, v11, v12, v17), rfl, h, by rw [ht9]; exact hP, va_K.moved hW.alike hK, hD⟩, hS.F ht9⟩) hS.2.2 d_Numeral_scan_70 hlk
    · have h := if_t c18 h
      refine lv_aload_n hx hb d_Numeral_scan_39 rfl (lv_at hl 0 rfl) ?_
      refine va_get (D := (dC, dI)) (ci := 2) (v := .int v15) (C := R_Numeral) (T := F_Numeral) (N := 12) hx hb ht i_Numeral hown hK hP 0 rfl rfl 1 (by decide) (ht _ q_16) (fun _ h9 => h9) rfl d_Numeral_scan_40 ?_
      exact W.iret (v := v15) hx hb hr (fun t ht9 hW => ⟨⟨v15, (v15, r2, v6, v8, v16, v9, v10, v11, v12, v17), rfl, h, by rw [ht9]; exact hP, va_K.moved hW.alike hK, hD⟩, hS.F ht9⟩) hS.2.2 d_Numeral_scan_43 hlk
set_option maxHeartbeats 4000000 in
set_option maxRecDepth 100000 in
theorem c_Numeral_scan (l : Launch) (dC : Nat → ClassId) (dI : Nat → Nat → Nat) (X : SXT) (h_this : Nat) (h_this_tape : Nat) (h_this_tape_row : Nat) (c_this_tape_row : ClassId) (sz : Nat) (v_next : Int32) (v_negative : Int32) (v_sixteen : Int32) (v_hasPoint : Int32) (v_hasPower : Int32) (v_from : Int32) (v_to : Int32) (v_before : Int32) (v_digits : Int32) (v_power : Int32) (v_found : Int64) (v_tape_length : Int32) (a_tape_row : (Nat → Int32)) (res : Int32 × Int32 × Int32 × Int32 × Int32 × Int32 × Int32 × Int32 × Int32 × Int32 × Int32) (hf : f_Numeral_scan v_next v_negative v_sixteen v_hasPoint v_hasPower v_from v_to v_before v_digits v_power v_tape_length a_tape_row = some res) : Met l y_Numeral_scan (.code y_Numeral_scan b_Numeral_scan 1 (some .int) :: w0) ({ frames := 3, cells := 0, slots := 0, locals := 66 }) (va_Pc [.ref h_this] (gP (dC, dI) (WS_Numeral_scan h_this h_this_tape h_this_tape_row c_this_tape_row v_next v_negative v_sixteen v_hasPoint v_hasPower v_from v_to v_before v_digits v_power v_found v_tape_length a_tape_row) [(c_this_tape_row, .byte)] sz X)) (va_Qi (fun (r : Int32) (u : Int32 × Int32 × Int32 × Int32 × Int32 × Int32 × Int32 × Int32 × Int32 × Int32) => some (r, u) = some res) (gB (dC, dI) [(c_this_tape_row, .byte)] (va_A (WS_Numeral_scan h_this h_this_tape h_this_tape_row c_this_tape_row v_next v_negative v_sixteen v_hasPoint v_hasPower v_from v_to v_before v_digits v_power v_found v_tape_length a_tape_row) sz) (fun (u : Int32 × Int32 × Int32 × Int32 × Int32 × Int32 × Int32 × Int32 × Int32 × Int32) => (WS_Numeral_scan h_this h_this_tape h_this_tape_row c_this_tape_row u.1 u.2.1 u.2.2.1 u.2.2.2.1 u.2.2.2.2.1 u.2.2.2.2.2.1 u.2.2.2.2.2.2.1 u.2.2.2.2.2.2.2.1 u.2.2.2.2.2.2.2.2.1 u.2.2.2.2.2.2.2.2.2 v_found v_tape_length a_tape_row))) (va_A (WS_Numeral_scan h_this h_this_tape h_this_tape_row c_this_tape_row v_next v_negative v_sixteen v_hasPoint v_hasPower v_from v_to v_before v_digits v_power v_found v_tape_length a_tape_row) sz)) 0 0 (va_A (WS_Numeral_scan h_this h_this_tape h_this_tape_row c_this_tape_row v_next v_negative v_sixteen v_hasPoint v_hasPower v_from v_to v_before v_digits v_power v_found v_tape_length a_tape_row) sz) := by
  refine Met.ofW (cc := b_Numeral_scan) (maxL := 1) (ret := (some .int)) (by decide) rfl ?_
  intro p e s m args below meth c s₁ B hml hv
  obtain ⟨rfl, hsz, hP, hK, hD0, hX⟩ := hv
  subst hsz
  have cx : cxx p s m ([.ref h_this] : List Value).toArray meth c b_Numeral_scan 1 (some .int) R_Numeral := ⟨B.exec, B.bytes, B.returns, hml, findClass_of_methodNamed B.named, fun w9 hw => atoms_spec (ws := .code y_Numeral_scan b_Numeral_scan 1 (some .int) :: w0) B.pre w9 (List.mem_cons_of_mem _ hw), B.notSynchronized⟩
  have hD := hD0.self (sz := s.heap.size)
  generalize hAe : va_A (WS_Numeral_scan h_this h_this_tape h_this_tape_row c_this_tape_row v_next v_negative v_sixteen v_hasPoint v_hasPower v_from v_to v_before v_digits v_power v_found v_tape_length a_tape_row) s.heap.size = A at hD hX ⊢
  have hA : ∀ q : Nat, s.heap.size ≤ q → A q := fun q h => by rw [← hAe]; exact Or.inr h
  have hS : va_S A s.heap s.heap [] := va_S.rf
  have hl := lv_entry ([.ref h_this]) (n := 1) (Nat.le_of_ble_eq_true rfl)
  rw [lg_entry_eq]
  generalize (lg_sl ([.ref h_this]) ++ List.replicate (1 - (lg_sl ([.ref h_this])).length) Slot.unset).toArray = ls at hl ⊢
  have hl : lv_has ls 1 [(0, .ref h_this)] := hl
  exact s_Numeral_scan_e cx hK hA hX v_next v_negative v_sixteen v_hasPoint v_hasPower v_from v_to v_before v_digits v_power v_tape_length a_tape_row s.heap [] ls hP hD hS hl hf
abbrev WS_Numeral_isNegative (g_this_tape : Nat) (h_this : Nat)  (v_next : Int32) (v_negative : Int32) (v_sixteen : Int32) (v_hasPoint : Int32) (v_hasPower : Int32) (v_from : Int32) (v_to : Int32) (v_before : Int32) (v_digits : Int32) (v_power : Int32) (v_found : Int64) : va_W := [(h_this, .inr (2, [.ref g_this_tape, .int v_next, .int v_negative, .int v_sixteen, .int v_hasPoint, .int v_hasPower, .int v_from, .int v_to, .int v_before, .int v_digits, .int v_power, .long v_found]))]
def f_Numeral_isNegative (v_negative : Int32) : Option (Int32) :=
  ck (ckZ v_negative) <|
  some v_negative
set_option maxHeartbeats 4000000 in
set_option maxRecDepth 100000 in
theorem s_Numeral_isNegative_e {p : Program} {l : Launch} {e : Env} {s : State} {m : MethodId} {args : Array Value} {below : List Frame} {meth : Method} {c : Code} {dC : Nat → ClassId} {dI : Nat → Nat → Nat} {A : Nat → Prop} {X : SXT} {g_this_tape : Nat} {h_this : Nat} {v_next : Int32} {v_sixteen : Int32} {v_hasPoint : Int32} {v_hasPower : Int32} {v_from : Int32} {v_to : Int32} {v_before : Int32} {v_digits : Int32} {v_power : Int32} {v_found : Int64} {res : Int32} (cx : cxx p s m args meth c b_Numeral_isNegative 1 (some .boolean) R_Numeral) (hK : va_K (dC, dI) classes [] s) (hA : ∀ q, s.heap.size ≤ q → A q) (hX : SX X A s s.heap) : ∀ (v_negative : Int32) (H : Heap) (locs : List Loc) (ls : Array Slot), va_P (dC, dI) classes (WS_Numeral_isNegative g_this_tape h_this v_next v_negative v_sixteen v_hasPoint v_hasPower v_from v_to v_before v_digits v_power v_found) H → va_D A (WS_Numeral_isNegative g_this_tape h_this v_next v_negative v_sixteen v_hasPoint v_hasPower v_from v_to v_before v_digits v_power v_found) → va_S A s.heap H locs → lv_has ls 1 [(0, .ref h_this)] → f_Numeral_isNegative v_negative = some res → W p l e ({ frames := 0, cells := 0, slots := 0, locals := 0 }) s m args below meth c H locs 0 0 (MQ below (va_Qi (fun (r : Int32) (_ : Unit) => some r = some res) (gB (dC, dI) [] A (fun (u : Unit) => (WS_Numeral_isNegative g_this_tape h_this v_next v_negative v_sixteen v_hasPoint v_hasPower v_from v_to v_before v_digits v_power v_found))) A) args s 0 0 A) (F0 m 0 ls []) := by
  intro v_negative H locs ls hP hD hS hl h
  obtain ⟨hx, hb, hr, hml, hown, ht, hlk⟩ := id cx
  refine lv_aload_n hx hb d_Numeral_isNegative_0 rfl (lv_at hl 0 rfl) ?_
  refine va_get (D := (dC, dI)) (ci := 2) (v := .int v_negative) (C := R_Numeral) (T := F_Numeral) (N := 12) hx hb ht i_Numeral hown hK hP 0 rfl rfl 2 (by decide) (ht _ q_51) (fun _ h9 => h9) rfl d_Numeral_isNegative_1 ?_
  obtain ⟨c1, h⟩ := ck_x h
  exact W.zret (v := v_negative) hx hb hr (ckZ_n c1) (fun t ht9 hW => ⟨⟨v_negative, (), rfl, h, by rw [ht9]; exact hP, va_K.moved hW.alike hK, hD⟩, hS.F ht9⟩) hS.2.2 d_Numeral_isNegative_4 hlk
set_option maxHeartbeats 4000000 in
set_option maxRecDepth 100000 in
theorem c_Numeral_isNegative (l : Launch) (dC : Nat → ClassId) (dI : Nat → Nat → Nat) (X : SXT) (g_this_tape : Nat) (h_this : Nat) (sz : Nat) (v_next : Int32) (v_negative : Int32) (v_sixteen : Int32) (v_hasPoint : Int32) (v_hasPower : Int32) (v_from : Int32) (v_to : Int32) (v_before : Int32) (v_digits : Int32) (v_power : Int32) (v_found : Int64) (res : Int32) (hf : f_Numeral_isNegative v_negative = some res) : Met l y_Numeral_isNegative (.code y_Numeral_isNegative b_Numeral_isNegative 1 (some .boolean) :: w0) ({ frames := 0, cells := 0, slots := 0, locals := 0 }) (va_Pc [.ref h_this] (gP (dC, dI) (WS_Numeral_isNegative g_this_tape h_this v_next v_negative v_sixteen v_hasPoint v_hasPower v_from v_to v_before v_digits v_power v_found) [] sz X)) (va_Qi (fun (r : Int32) (_ : Unit) => some r = some res) (gB (dC, dI) [] (va_A (WS_Numeral_isNegative g_this_tape h_this v_next v_negative v_sixteen v_hasPoint v_hasPower v_from v_to v_before v_digits v_power v_found) sz) (fun (u : Unit) => (WS_Numeral_isNegative g_this_tape h_this v_next v_negative v_sixteen v_hasPoint v_hasPower v_from v_to v_before v_digits v_power v_found))) (va_A (WS_Numeral_isNegative g_this_tape h_this v_next v_negative v_sixteen v_hasPoint v_hasPower v_from v_to v_before v_digits v_power v_found) sz)) 0 0 (va_A (WS_Numeral_isNegative g_this_tape h_this v_next v_negative v_sixteen v_hasPoint v_hasPower v_from v_to v_before v_digits v_power v_found) sz) := by
  refine Met.ofW (cc := b_Numeral_isNegative) (maxL := 1) (ret := (some .boolean)) (by decide) rfl ?_
  intro p e s m args below meth c s₁ B hml hv
  obtain ⟨rfl, hsz, hP, hK, hD0, hX⟩ := hv
  subst hsz
  have cx : cxx p s m ([.ref h_this] : List Value).toArray meth c b_Numeral_isNegative 1 (some .boolean) R_Numeral := ⟨B.exec, B.bytes, B.returns, hml, findClass_of_methodNamed B.named, fun w9 hw => atoms_spec (ws := .code y_Numeral_isNegative b_Numeral_isNegative 1 (some .boolean) :: w0) B.pre w9 (List.mem_cons_of_mem _ hw), B.notSynchronized⟩
  have hD := hD0.self (sz := s.heap.size)
  generalize hAe : va_A (WS_Numeral_isNegative g_this_tape h_this v_next v_negative v_sixteen v_hasPoint v_hasPower v_from v_to v_before v_digits v_power v_found) s.heap.size = A at hD hX ⊢
  have hA : ∀ q : Nat, s.heap.size ≤ q → A q := fun q h => by rw [← hAe]; exact Or.inr h
  have hS : va_S A s.heap s.heap [] := va_S.rf
  have hl := lv_entry ([.ref h_this]) (n := 1) (Nat.le_of_ble_eq_true rfl)
  rw [lg_entry_eq]
  generalize (lg_sl ([.ref h_this]) ++ List.replicate (1 - (lg_sl ([.ref h_this])).length) Slot.unset).toArray = ls at hl ⊢
  have hl : lv_has ls 1 [(0, .ref h_this)] := hl
  exact s_Numeral_isNegative_e cx hK hA hX v_negative s.heap [] ls hP hD hS hl hf
abbrev WS_Numeral_findWhole (h_this : Nat) (h_this_tape : Nat) (h_this_tape_row : Nat) (c_this_tape_row : ClassId) (v_next : Int32) (v_negative : Int32) (v_sixteen : Int32) (v_hasPoint : Int32) (v_hasPower : Int32) (v_from : Int32) (v_to : Int32) (v_before : Int32) (v_digits : Int32) (v_power : Int32) (v_found : Int64) (v_tape_length : Int32) (a_tape_row : (Nat → Int32)) : va_W := [(h_this, .inr (2, [.ref h_this_tape, .int v_next, .int v_negative, .int v_sixteen, .int v_hasPoint, .int v_hasPower, .int v_from, .int v_to, .int v_before, .int v_digits, .int v_power, .long v_found])), (h_this_tape, .inr (1, [.ref h_this_tape_row, .int v_tape_length])), (h_this_tape_row, .inl (c_this_tape_row, 1200, .inl a_tape_row))]
def f_Numeral_findWhole_118 (k26 : Int32 → Int32 → Int32 → Int32 → Int32 → Int64 → Int32 → (Nat → Int32) → Int32 → Option (Int32 × Int64)) (v_sixteen : Int32) (v_hasPoint : Int32) (v_hasPower : Int32) (v_from : Int32) (v_to : Int32) (v_found : Int64) (v_tape_length : Int32) (a_tape_row : (Nat → Int32)) (y1 : Int32) : Option (Int32 × Int64) :=
  bd (y1 + (1 : Int32)) fun x1 =>
  k26 v_sixteen v_hasPoint v_hasPower v_from v_to v_found v_tape_length a_tape_row x1
def f_Numeral_findWhole_103 (k26 : Int32 → Int32 → Int32 → Int32 → Int32 → Int64 → Int32 → (Nat → Int32) → Int32 → Option (Int32 × Int64)) (v_sixteen : Int32) (v_hasPoint : Int32) (v_hasPower : Int32) (v_from : Int32) (v_to : Int32) (v_found : Int64) (v_tape_length : Int32) (a_tape_row : (Nat → Int32)) (y1 : Int32) (y2 : Int32) : Option (Int32 × Int64) :=
  bd ((v_found * (10 : Int64)) + (y2.toInt64)) fun x2 =>
  f_Numeral_findWhole_118 k26 v_sixteen v_hasPoint v_hasPower v_from v_to x2 v_tape_length a_tape_row y1
def f_Numeral_findWhole_26b (k26 : Int32 → Int32 → Int32 → Int32 → Int32 → Int64 → Int32 → (Nat → Int32) → Int32 → Option (Int32 × Int64)) (v_sixteen : Int32) (v_hasPoint : Int32) (v_hasPower : Int32) (v_from : Int32) (v_to : Int32) (v_found : Int64) (v_tape_length : Int32) (a_tape_row : (Nat → Int32)) (y1 : Int32) : Option (Int32 × Int64) :=
  if v_to ≤ y1 then
    some ((1 : Int32), v_found)
  else
    bi1 (f_Tape_at v_tape_length a_tape_row y1) fun r4 =>
    bi1 (f_Numeral_digitOf r4 v_sixteen) fun r5 =>
    if v_sixteen = 0 then
      if (922337203685477580 : Int64) < v_found then
        some ((0 : Int32), v_found)
      else
        if v_found = (922337203685477580 : Int64) then
          if r5 ≤ (7 : Int32) then
            f_Numeral_findWhole_103 k26 v_sixteen v_hasPoint v_hasPower v_from v_to v_found v_tape_length a_tape_row y1 r5
          else
            some ((0 : Int32), v_found)
        else
          f_Numeral_findWhole_103 k26 v_sixteen v_hasPoint v_hasPower v_from v_to v_found v_tape_length a_tape_row y1 r5
    else
      bd ((lsl v_found (4 : Int32)) + (r5.toInt64)) fun x10 =>
      f_Numeral_findWhole_118 k26 v_sixteen v_hasPoint v_hasPower v_from v_to x10 v_tape_length a_tape_row y1
def f_Numeral_findWhole_26 : Nat → Int32 → Int32 → Int32 → Int32 → Int32 → Int64 → Int32 → (Nat → Int32) → Int32 → Option (Int32 × Int64)
  | 0 => fun _ _ _ _ _ _ _ _ _ => none
  | n + 1 => fun v_sixteen v_hasPoint v_hasPower v_from v_to v_found v_tape_length a_tape_row y1 => f_Numeral_findWhole_26b (f_Numeral_findWhole_26 n) v_sixteen v_hasPoint v_hasPower v_from v_to v_found v_tape_length a_tape_row y1
def f_Numeral_findWhole (v_sixteen : Int32) (v_hasPoint : Int32) (v_hasPower : Int32) (v_from : Int32) (v_to : Int32) (v_found : Int64) (v_tape_length : Int32) (a_tape_row : (Nat → Int32)) : Option (Int32 × Int64) :=
  if v_hasPoint = 0 then
    if v_hasPower = 0 then
      f_Numeral_findWhole_26 fu v_sixteen v_hasPoint v_hasPower v_from v_to (0 : Int64) v_tape_length a_tape_row v_from
    else
      some ((0 : Int32), (0 : Int64))
  else
    some ((0 : Int32), (0 : Int64))
set_option maxHeartbeats 4000000 in
set_option maxRecDepth 100000 in
theorem s_Numeral_findWhole_118 {p : Program} {l : Launch} {e : Env} {s : State} {m : MethodId} {args : Array Value} {below : List Frame} {meth : Method} {c : Code} {dC : Nat → ClassId} {dI : Nat → Nat → Nat} {A : Nat → Prop} {X : SXT} {h_this : Nat} {h_this_tape : Nat} {h_this_tape_row : Nat} {c_this_tape_row : ClassId} {v_next : Int32} {v_negative : Int32} {v_before : Int32} {v_digits : Int32} {v_power : Int32} {res : Int32 × Int64} {k26 : Int32 → Int32 → Int32 → Int32 → Int32 → Int64 → Int32 → (Nat → Int32) → Int32 → Option (Int32 × Int64)} (cx : cxx p s m args meth c b_Numeral_findWhole 3 (some .boolean) R_Numeral) (hK : va_K (dC, dI) classes [(c_this_tape_row, .byte)] s) (hA : ∀ q, s.heap.size ≤ q → A q) (hX : SX X A s s.heap) (hk26 : ∀ (v_sixteen : Int32) (v_hasPoint : Int32) (v_hasPower : Int32) (v_from : Int32) (v_to : Int32) (v_found : Int64) (v_tape_length : Int32) (a_tape_row : (Nat → Int32)) (y1 : Int32) (H : Heap) (locs : List Loc) (ls : Array Slot), va_P (dC, dI) classes (WS_Numeral_findWhole h_this h_this_tape h_this_tape_row c_this_tape_row v_next v_negative v_sixteen v_hasPoint v_hasPower v_from v_to v_before v_digits v_power v_found v_tape_length a_tape_row) H → va_D A (WS_Numeral_findWhole h_this h_this_tape h_this_tape_row c_this_tape_row v_next v_negative v_sixteen v_hasPoint v_hasPower v_from v_to v_before v_digits v_power v_found v_tape_length a_tape_row) → va_S A s.heap H locs → lv_has ls 3 [(0, .ref h_this), (1, .int y1)] → k26 v_sixteen v_hasPoint v_hasPower v_from v_to v_found v_tape_length a_tape_row y1 = some res → W p l e ({ frames := 1, cells := 0, slots := 0, locals := 21 }) s m args below meth c H locs 0 0 (MQ below (va_Qi (fun (r : Int32) (u : Int64) => some (r, u) = some res) (gB (dC, dI) [(c_this_tape_row, .byte)] A (fun (u : Int64) => (WS_Numeral_findWhole h_this h_this_tape h_this_tape_row c_this_tape_row v_next v_negative v_sixteen v_hasPoint v_hasPower v_from v_to v_before v_digits v_power u v_tape_length a_tape_row))) A) args s 0 0 A) (F0 m 26 ls [])) : ∀ (v_sixteen : Int32) (v_hasPoint : Int32) (v_hasPower : Int32) (v_from : Int32) (v_to : Int32) (v_found : Int64) (v_tape_length : Int32) (a_tape_row : (Nat → Int32)) (y1 : Int32) (H : Heap) (locs : List Loc) (ls : Array Slot), va_P (dC, dI) classes (WS_Numeral_findWhole h_this h_this_tape h_this_tape_row c_this_tape_row v_next v_negative v_sixteen v_hasPoint v_hasPower v_from v_to v_before v_digits v_power v_found v_tape_length a_tape_row) H → va_D A (WS_Numeral_findWhole h_this h_this_tape h_this_tape_row c_this_tape_row v_next v_negative v_sixteen v_hasPoint v_hasPower v_from v_to v_before v_digits v_power v_found v_tape_length a_tape_row) → va_S A s.heap H locs → lv_has ls 3 [(0, .ref h_this), (1, .int y1)] → f_Numeral_findWhole_118 k26 v_sixteen v_hasPoint v_hasPower v_from v_to v_found v_tape_length a_tape_row y1 = some res → W p l e ({ frames := 1, cells := 0, slots := 0, locals := 21 }) s m args below meth c H locs 0 0 (MQ below (va_Qi (fun (r : Int32) (u : Int64) => some (r, u) = some res) (gB (dC, dI) [(c_this_tape_row, .byte)] A (fun (u : Int64) => (WS_Numeral_findWhole h_this h_this_tape h_this_tape_row c_this_tape_row v_next v_negative v_sixteen v_hasPoint v_hasPower v_from v_to v_before v_digits v_power u v_tape_length a_tape_row))) A) args s 0 0 A) (F0 m 118 ls []) := by
  intro v_sixteen v_hasPoint v_hasPower v_from v_to v_found v_tape_length a_tape_row y1 H locs ls hP hD hS hl h
  obtain ⟨hx, hb, hr, hml, hown, ht, hlk⟩ := id cx
  obtain ⟨x1, e_x1⟩ : ∃ y : Int32, y = y1 + (1 : Int32) := ⟨_, rfl⟩
  refine lv_iinc (v := x1) (lv' := [(1, .int x1), (0, .ref h_this)]) hx hb d_Numeral_findWhole_118 hl (k := 1) rfl (by rw [e_x1]; rfl) (by decide) rfl (fun ls hl => ?_)
  have h := bd_g e_x1 h
  refine lv_goto (tgt := 26) hx hb d_Numeral_findWhole_121 (by decide) ?_
  exact hk26 v_sixteen v_hasPoint v_hasPower v_from v_to v_found v_tape_length a_tape_row x1 H locs ls hP hD hS (lv_sub hl [1, 0] rfl) h
set_option maxHeartbeats 4000000 in
set_option maxRecDepth 100000 in
theorem s_Numeral_findWhole_103 {p : Program} {l : Launch} {e : Env} {s : State} {m : MethodId} {args : Array Value} {below : List Frame} {meth : Method} {c : Code} {dC : Nat → ClassId} {dI : Nat → Nat → Nat} {A : Nat → Prop} {X : SXT} {h_this : Nat} {h_this_tape : Nat} {h_this_tape_row : Nat} {c_this_tape_row : ClassId} {v_next : Int32} {v_negative : Int32} {v_before : Int32} {v_digits : Int32} {v_power : Int32} {res : Int32 × Int64} {k26 : Int32 → Int32 → Int32 → Int32 → Int32 → Int64 → Int32 → (Nat → Int32) → Int32 → Option (Int32 × Int64)} (cx : cxx p s m args meth c b_Numeral_findWhole 3 (some .boolean) R_Numeral) (hK : va_K (dC, dI) classes [(c_this_tape_row, .byte)] s) (hA : ∀ q, s.heap.size ≤ q → A q) (hX : SX X A s s.heap) (hk26 : ∀ (v_sixteen : Int32) (v_hasPoint : Int32) (v_hasPower : Int32) (v_from : Int32) (v_to : Int32) (v_found : Int64) (v_tape_length : Int32) (a_tape_row : (Nat → Int32)) (y1 : Int32) (H : Heap) (locs : List Loc) (ls : Array Slot), va_P (dC, dI) classes (WS_Numeral_findWhole h_this h_this_tape h_this_tape_row c_this_tape_row v_next v_negative v_sixteen v_hasPoint v_hasPower v_from v_to v_before v_digits v_power v_found v_tape_length a_tape_row) H → va_D A (WS_Numeral_findWhole h_this h_this_tape h_this_tape_row c_this_tape_row v_next v_negative v_sixteen v_hasPoint v_hasPower v_from v_to v_before v_digits v_power v_found v_tape_length a_tape_row) → va_S A s.heap H locs → lv_has ls 3 [(0, .ref h_this), (1, .int y1)] → k26 v_sixteen v_hasPoint v_hasPower v_from v_to v_found v_tape_length a_tape_row y1 = some res → W p l e ({ frames := 1, cells := 0, slots := 0, locals := 21 }) s m args below meth c H locs 0 0 (MQ below (va_Qi (fun (r : Int32) (u : Int64) => some (r, u) = some res) (gB (dC, dI) [(c_this_tape_row, .byte)] A (fun (u : Int64) => (WS_Numeral_findWhole h_this h_this_tape h_this_tape_row c_this_tape_row v_next v_negative v_sixteen v_hasPoint v_hasPower v_from v_to v_before v_digits v_power u v_tape_length a_tape_row))) A) args s 0 0 A) (F0 m 26 ls [])) : ∀ (v_sixteen : Int32) (v_hasPoint : Int32) (v_hasPower : Int32) (v_from : Int32) (v_to : Int32) (v_found : Int64) (v_tape_length : Int32) (a_tape_row : (Nat → Int32)) (y1 : Int32) (y2 : Int32) (H : Heap) (locs : List Loc) (ls : Array Slot), va_P (dC, dI) classes (WS_Numeral_findWhole h_this h_this_tape h_this_tape_row c_this_tape_row v_next v_negative v_sixteen v_hasPoint v_hasPower v_from v_to v_before v_digits v_power v_found v_tape_length a_tape_row) H → va_D A (WS_Numeral_findWhole h_this h_this_tape h_this_tape_row c_this_tape_row v_next v_negative v_sixteen v_hasPoint v_hasPower v_from v_to v_before v_digits v_power v_found v_tape_length a_tape_row) → va_S A s.heap H locs → lv_has ls 3 [(0, .ref h_this), (1, .int y1), (2, .int y2)] → f_Numeral_findWhole_103 k26 v_sixteen v_hasPoint v_hasPower v_from v_to v_found v_tape_length a_tape_row y1 y2 = some res → W p l e ({ frames := 1, cells := 0, slots := 0, locals := 21 }) s m args below meth c H locs 0 0 (MQ below (va_Qi (fun (r : Int32) (u : Int64) => some (r, u) = some res) (gB (dC, dI) [(c_this_tape_row, .byte)] A (fun (u : Int64) => (WS_Numeral_findWhole h_this h_this_tape h_this_tape_row c_this_tape_row v_next v_negative v_sixteen v_hasPoint v_hasPower v_from v_to v_before v_digits v_power u v_tape_length a_tape_row))) A) args s 0 0 A) (F0 m 103 ls []) := by
  intro v_sixteen v_hasPoint v_hasPower v_from v_to v_found v_tape_length a_tape_row y1 y2 H locs ls hP hD hS hl h
  obtain ⟨hx, hb, hr, hml, hown, ht, hlk⟩ := id cx
  refine lv_aload_n hx hb d_Numeral_findWhole_103 rfl (lv_at hl 0 rfl) ?_
  refine lv_aload_n hx hb d_Numeral_findWhole_104 rfl (lv_at hl 0 rfl) ?_
  refine va_get (D := (dC, dI)) (ci := 2) (v := .long v_found) (C := R_Numeral) (T := F_Numeral) (N := 12) hx hb ht i_Numeral hown hK hP 0 rfl rfl 11 (by decide) (ht _ q_64) (fun _ h9 => h9) rfl d_Numeral_findWhole_105 ?_
  refine lv_ldc2 (v := 10) hx hb hown (ht _ q_65) d_Numeral_findWhole_108 ?_
  refine lv_lmul hx hb d_Numeral_findWhole_111 ?_
  refine lv_iload_n hx hb d_Numeral_findWhole_112 rfl (lv_at hl 2 rfl) ?_
  refine lv_i2l (v := y2.toInt64) hx hb d_Numeral_findWhole_113 rfl ?_
  refine lv_ladd hx hb d_Numeral_findWhole_114 ?_
  refine lv_topl (fun x2 e_x2 => ?_)
  have h := bd_g e_x2 h
  refine va_put (D := (dC, dI)) (ci := 2) (v := .long x2) (ty := .long) (C := R_Numeral) (T := F_Numeral) (N := 12) hx hb ht i_Numeral t_Numeral t_Numeral_ok n_Numeral hown hK hP hD hS 0 rfl rfl 11 (by decide) (ht _ q_64) (fun _ h9 => h9) rfl (t_Numeral_ok 11 (by decide)) rfl rfl (Nat.le_of_ble_eq_true rfl) d_Numeral_findWhole_115 (fun H locs hP hD hS => ?_)
  have hP : va_P (dC, dI) classes (WS_Numeral_findWhole h_this h_this_tape h_this_tape_row c_this_tape_row v_next v_negative v_sixteen v_hasPoint v_hasPower v_from v_to v_before v_digits v_power x2 v_tape_length a_tape_row) H := hP
  have hD : va_D A (WS_Numeral_findWhole h_this h_this_tape h_this_tape_row c_this_tape_row v_next v_negative v_sixteen v_hasPoint v_hasPower v_from v_to v_before v_digits v_power x2 v_tape_length a_tape_row) := hD
  exact s_Numeral_findWhole_118 cx hK hA hX hk26 v_sixteen v_hasPoint v_hasPower v_from v_to x2 v_tape_length a_tape_row y1 H locs ls hP hD hS (lv_sub hl [0, 1] rfl) h
set_option maxHeartbeats 4000000 in
set_option maxRecDepth 100000 in
theorem s_Numeral_findWhole_26b {p : Program} {l : Launch} {e : Env} {s : State} {m : MethodId} {args : Array Value} {below : List Frame} {meth : Method} {c : Code} {dC : Nat → ClassId} {dI : Nat → Nat → Nat} {A : Nat → Prop} {X : SXT} {h_this : Nat} {h_this_tape : Nat} {h_this_tape_row : Nat} {c_this_tape_row : ClassId} {v_next : Int32} {v_negative : Int32} {v_before : Int32} {v_digits : Int32} {v_power : Int32} {res : Int32 × Int64} {k26 : Int32 → Int32 → Int32 → Int32 → Int32 → Int64 → Int32 → (Nat → Int32) → Int32 → Option (Int32 × Int64)} (cx : cxx p s m args meth c b_Numeral_findWhole 3 (some .boolean) R_Numeral) (hK : va_K (dC, dI) classes [(c_this_tape_row, .byte)] s) (hA : ∀ q, s.heap.size ≤ q → A q) (hX : SX X A s s.heap) (hk26 : ∀ (v_sixteen : Int32) (v_hasPoint : Int32) (v_hasPower : Int32) (v_from : Int32) (v_to : Int32) (v_found : Int64) (v_tape_length : Int32) (a_tape_row : (Nat → Int32)) (y1 : Int32) (H : Heap) (locs : List Loc) (ls : Array Slot), va_P (dC, dI) classes (WS_Numeral_findWhole h_this h_this_tape h_this_tape_row c_this_tape_row v_next v_negative v_sixteen v_hasPoint v_hasPower v_from v_to v_before v_digits v_power v_found v_tape_length a_tape_row) H → va_D A (WS_Numeral_findWhole h_this h_this_tape h_this_tape_row c_this_tape_row v_next v_negative v_sixteen v_hasPoint v_hasPower v_from v_to v_before v_digits v_power v_found v_tape_length a_tape_row) → va_S A s.heap H locs → lv_has ls 3 [(0, .ref h_this), (1, .int y1)] → k26 v_sixteen v_hasPoint v_hasPower v_from v_to v_found v_tape_length a_tape_row y1 = some res → W p l e ({ frames := 1, cells := 0, slots := 0, locals := 21 }) s m args below meth c H locs 0 0 (MQ below (va_Qi (fun (r : Int32) (u : Int64) => some (r, u) = some res) (gB (dC, dI) [(c_this_tape_row, .byte)] A (fun (u : Int64) => (WS_Numeral_findWhole h_this h_this_tape h_this_tape_row c_this_tape_row v_next v_negative v_sixteen v_hasPoint v_hasPower v_from v_to v_before v_digits v_power u v_tape_length a_tape_row))) A) args s 0 0 A) (F0 m 26 ls [])) : ∀ (v_sixteen : Int32) (v_hasPoint : Int32) (v_hasPower : Int32) (v_from : Int32) (v_to : Int32) (v_found : Int64) (v_tape_length : Int32) (a_tape_row : (Nat → Int32)) (y1 : Int32) (H : Heap) (locs : List Loc) (ls : Array Slot), va_P (dC, dI) classes (WS_Numeral_findWhole h_this h_this_tape h_this_tape_row c_this_tape_row v_next v_negative v_sixteen v_hasPoint v_hasPower v_from v_to v_before v_digits v_power v_found v_tape_length a_tape_row) H → va_D A (WS_Numeral_findWhole h_this h_this_tape h_this_tape_row c_this_tape_row v_next v_negative v_sixteen v_hasPoint v_hasPower v_from v_to v_before v_digits v_power v_found v_tape_length a_tape_row) → va_S A s.heap H locs → lv_has ls 3 [(0, .ref h_this), (1, .int y1)] → f_Numeral_findWhole_26b k26 v_sixteen v_hasPoint v_hasPower v_from v_to v_found v_tape_length a_tape_row y1 = some res → W p l e ({ frames := 1, cells := 0, slots := 0, locals := 21 }) s m args below meth c H locs 0 0 (MQ below (va_Qi (fun (r : Int32) (u : Int64) => some (r, u) = some res) (gB (dC, dI) [(c_this_tape_row, .byte)] A (fun (u : Int64) => (WS_Numeral_findWhole h_this h_this_tape h_this_tape_row c_this_tape_row v_next v_negative v_sixteen v_hasPoint v_hasPower v_from v_to v_before v_digits v_power u v_tape_length a_tape_row))) A) args s 0 0 A) (F0 m 26 ls []) := by
  intro v_sixteen v_hasPoint v_hasPower v_from v_to v_found v_tape_length a_tape_row y1 H locs ls hP hD hS hl h
  obtain ⟨hx, hb, hr, hml, hown, ht, hlk⟩ := id cx
  refine lv_iload_n hx hb d_Numeral_findWhole_26 rfl (lv_at hl 1 rfl) ?_
  refine lv_aload_n hx hb d_Numeral_findWhole_27 rfl (lv_at hl 0 rfl) ?_
  refine va_get (D := (dC, dI)) (ci := 2) (v := .int v_to) (C := R_Numeral) (T := F_Numeral) (N := 12) hx hb ht i_Numeral hown hK hP 0 rfl rfl 7 (by decide) (ht _ q_28) (fun _ h9 => h9) rfl d_Numeral_findWhole_28 ?_
  refine lv_icmp_ge (tgt := 124) hx hb d_Numeral_findWhole_31 (by decide) (fun c3 => ?_) (fun c3 => ?_)
  · have h := if_t c3 h
    refine lv_iconst (v := 1) hx hb d_Numeral_findWhole_124 (by decide) ?_
    exact W.zret (v := (1 : Int32)) hx hb hr rfl (fun t ht9 hW => ⟨⟨(1 : Int32), v_found, rfl, h, by rw [ht9]; exact hP, va_K.moved hW.alike hK, hD⟩, hS.F ht9⟩) hS.2.2 d_Numeral_findWhole_125 hlk
  · have h := if_f c3 h
    refine lv_aload_n hx hb d_Numeral_findWhole_34 rfl (lv_at hl 0 rfl) ?_
    refine va_get (D := (dC, dI)) (ci := 2) (v := .ref h_this_tape) (C := R_Numeral) (T := F_Numeral) (N := 12) hx hb ht i_Numeral hown hK hP 0 rfl rfl 0 (by decide) (ht _ q_17) (fun _ h9 => h9) rfl d_Numeral_findWhole_35 ?_
    refine lv_iload_n hx hb d_Numeral_findWhole_38 rfl (lv_at hl 1 rfl) ?_
    obtain ⟨r4, hf, h⟩ := bi1_x h
    refine clVi (D := (dC, dI)) (n := 1) (As := [.int y1]) ⟨hx, hb, hml, hown, ht⟩ (c_Tape_at l dC dI X h_this_tape h_this_tape_row c_this_tape_row H.size v_tape_length a_tape_row y1 r4 hf) (gV q_18 q_19 q_20 q_6 q_21) (by decide +kernel) ⟨rfl, rfl, Nat.le_of_ble_eq_true rfl, Nat.le_of_ble_eq_true rfl⟩ hK hP hD hS hA hX [1, 2] [0] [0] rfl (wr := [(h_this, .inr (2, [.ref h_this_tape, .int v_next, .int v_negative, .int v_sixteen, .int v_hasPoint, .int v_hasPower, .int v_from, .int v_to, .int v_before, .int v_digits, .int v_power, .long v_found]))]) rfl (by decide) (by decide) (by decide) rfl (va_recv hK hP (ci := 1) (q0 := 1) rfl rfl) rfl hl.1 rfl (lv_room (Nat.le_of_ble_eq_true rfl)) d_Numeral_findWhole_39 ⟨Nat.zero_le _, Nat.zero_le _⟩ (fun r9 u9 H locs h9 hP hD hS => ?_)
    cases h9
    have hP : va_P (dC, dI) classes (WS_Numeral_findWhole h_this h_this_tape h_this_tape_row c_this_tape_row v_next v_negative v_sixteen v_hasPoint v_hasPower v_from v_to v_before v_digits v_power v_found v_tape_length a_tape_row) H := hP.sub [0, 1, 2] rfl
    have hD : va_D A (WS_Numeral_findWhole h_this h_this_tape h_this_tape_row c_this_tape_row v_next v_negative v_sixteen v_hasPoint v_hasPower v_from v_to v_before v_digits v_power v_found v_tape_length a_tape_row) := hD.sub [0, 1, 2] (by decide) rfl
    refine lv_aload_n hx hb d_Numeral_findWhole_42 rfl (lv_at hl 0 rfl) ?_
    refine va_get (D := (dC, dI)) (ci := 2) (v := .int v_sixteen) (C := R_Numeral) (T := F_Numeral) (N := 12) hx hb ht i_Numeral hown hK hP 0 rfl rfl 3 (by decide) (ht _ q_27) (fun _ h9 => h9) rfl d_Numeral_findWhole_43 ?_
    obtain ⟨r5, hf, h⟩ := bi1_x h
    refine clSi (D := (dC, dI)) (n := 2) (As := [.int r4, .int v_sixteen]) ⟨hx, hb, hml, hown, ht⟩ (c_Numeral_digitOf l dC dI X  H.size r4 v_sixteen r5 hf) (gS q_30 q_31 q_24 q_32) (by decide +kernel) ⟨rfl, rfl, Nat.le_of_ble_eq_true rfl, Nat.le_of_ble_eq_true rfl⟩ hK hP hD hS hA hX [] [0, 1, 2] [] rfl (wr := [(h_this, .inr (2, [.ref h_this_tape, .int v_next, .int v_negative, .int v_sixteen, .int v_hasPoint, .int v_hasPower, .int v_from, .int v_to, .int v_before, .int v_digits, .int v_power, .long v_found])), (h_this_tape, .inr (1, [.ref h_this_tape_row, .int v_tape_length])), (h_this_tape_row, .inl (c_this_tape_row, 1200, .inl a_tape_row))]) rfl (by decide) (by decide) (by decide) rfl rfl hl.1 rfl (lv_room (Nat.le_of_ble_eq_true rfl)) d_Numeral_findWhole_46 ⟨Nat.zero_le _, Nat.zero_le _⟩ (fun r9 u9 H locs h9 hP hD hS => ?_)
    cases h9
    have hP : va_P (dC, dI) classes (WS_Numeral_findWhole h_this h_this_tape h_this_tape_row c_this_tape_row v_next v_negative v_sixteen v_hasPoint v_hasPower v_from v_to v_before v_digits v_power v_found v_tape_length a_tape_row) H := hP.sub [0, 1, 2] rfl
    have hD : va_D A (WS_Numeral_findWhole h_this h_this_tape h_this_tape_row c_this_tape_row v_next v_negative v_sixteen v_hasPoint v_hasPower v_from v_to v_before v_digits v_power v_found v_tape_length a_tape_row) := hD.sub [0, 1, 2] (by decide) rfl
    refine lv_istore_n (lv' := [(2, .int r5), (0, .ref h_this), (1, .int y1)]) hx hb d_Numeral_findWhole_49 rfl hl (by decide) rfl (fun ls hl => ?_)
    refine lv_aload_n hx hb d_Numeral_findWhole_50 rfl (lv_at hl 1 rfl) ?_
    refine va_get (D := (dC, dI)) (ci := 2) (v := .int v_sixteen) (C := R_Numeral) (T := F_Numeral) (N := 12) hx hb ht i_Numeral hown hK hP 0 rfl rfl 3 (by decide) (ht _ q_27) (fun _ h9 => h9) rfl d_Numeral_findWhole_51 ?_
    refine lv_if_eq (tgt := 73) hx hb d_Numeral_findWhole_54 (by decide) (fun c6 => ?_) (fun c6 => ?_)
    · have h := if_t c6 h
      refine lv_aload_n hx hb d_Numeral_findWhole_73 rfl (lv_at hl 1 rfl) ?_
      refine va_get (D := (dC, dI)) (ci := 2) (v := .long v_found) (C := R_Numeral) (T := F_Numeral) (N := 12) hx hb ht i_Numeral hown hK hP 0 rfl rfl 11 (by decide) (ht _ q_64) (fun _ h9 => h9) rfl d_Numeral_findWhole_74 ?_
      refine lv_ldc2 (v := 922337203685477580) hx hb hown (ht _ q_66) d_Numeral_findWhole_77 ?_
      refine W.lcmp hx hb d_Numeral_findWhole_80 ?_
      refine lv_if_gt (tgt := 101) hx hb d_Numeral_findWhole_81 (by decide) (fun c7 => ?_) (fun c7 => ?_)
      · have c7 := (lg_cmp_gt _ _).mp c7
        have h := if_t c7 h
        refine lv_iconst (v := 0) hx hb d_Numeral_findWhole_101 (by decide) ?_
        exact W.zret (v := (0 : Int32)) hx hb hr rfl (fun t ht9 hW => ⟨⟨(0 : Int32), v_found, rfl, h, by rw [ht9]; exact hP, va_K.moved hW.alike hK, hD⟩, hS.F ht9⟩) hS.2.2 d_Numeral_findWhole_102 hlk
      · have c7 := fun h9 => c7 ((lg_cmp_gt _ _).mpr h9)
        have h := if_f c7 h
        refine lv_aload_n hx hb d_Numeral_findWhole_84 rfl (lv_at hl 1 rfl) ?_
        refine va_get (D := (dC, dI)) (ci := 2) (v := .long v_found) (C := R_Numeral) (T := F_Numeral) (N := 12) hx hb ht i_Numeral hown hK hP 0 rfl rfl 11 (by decide) (ht _ q_64) (fun _ h9 => h9) rfl d_Numeral_findWhole_85 ?_
        refine lv_ldc2 (v := 922337203685477580) hx hb hown (ht _ q_66) d_Numeral_findWhole_88 ?_
        refine W.lcmp hx hb d_Numeral_findWhole_91 ?_
        refine lv_if_ne (tgt := 103) hx hb d_Numeral_findWhole_92 (by decide) (fun c8 => ?_) (fun c8 => ?_)
        · have c8 := fun h9 => c8 ((lg_cmp_eq _ _).mpr h9)
          have h := if_f c8 h
          exact s_Numeral_findWhole_103 cx hK hA hX hk26 v_sixteen v_hasPoint v_hasPower v_from v_to v_found v_tape_length a_tape_row y1 r5 H locs ls hP hD hS (lv_sub hl [1, 2, 0] rfl) h
        · have c8 := (lg_cmp_eq _ _).mp c8
          have h := if_t c8 h
          refine lv_iload_n hx hb d_Numeral_findWhole_95 rfl (lv_at hl 0 rfl) ?_
          refine lv_bipush (v := 7) hx hb d_Numeral_findWhole_96 (by decide) ?_
          refine lv_icmp_le (tgt := 103) hx hb d_Numeral_findWhole_98 (by decide) (fun c9 => ?_) (fun c9 => ?_)
          · have h := if_t c9 h
            exact s_Numeral_findWhole_103 cx hK hA hX hk26 v_sixteen v_hasPoint v_hasPower v_from v_to v_found v_tape_length a_tape_row y1 r5 H locs ls hP hD hS (lv_sub hl [1, 2, 0] rfl) h
          · have h := if_f c9 h
            refine lv_iconst (v := 0) hx hb d_Numeral_findWhole_101 (by decide) ?_
            exact W.zret (v := (0 : Int32)) hx hb hr rfl (fun t ht9 hW => ⟨⟨(0 : Int32), v_found, rfl, h, by rw [ht9]; exact hP, va_K.moved hW.alike hK, hD⟩, hS.F ht9⟩) hS.2.2 d_Numeral_findWhole_102 hlk
    · have h := if_f c6 h
      refine lv_aload_n hx hb d_Numeral_findWhole_57 rfl (lv_at hl 1 rfl) ?_
      refine lv_aload_n hx hb d_Numeral_findWhole_58 rfl (lv_at hl 1 rfl) ?_
      refine va_get (D := (dC, dI)) (ci := 2) (v := .long v_found) (C := R_Numeral) (T := F_Numeral) (N := 12) hx hb ht i_Numeral hown hK hP 0 rfl rfl 11 (by decide) (ht _ q_64) (fun _ h9 => h9) rfl d_Numeral_findWhole_59 ?_
      refine lv_iconst (v := 4) hx hb d_Numeral_findWhole_62 (by decide) ?_
      refine lv_lshl (v := lsl v_found (4 : Int32)) hx hb d_Numeral_findWhole_63 rfl ?_
      refine lv_iload_n hx hb d_Numeral_findWhole_64 rfl (lv_at hl 0 rfl) ?_
      refine lv_i2l (v := r5.toInt64) hx hb d_Numeral_findWhole_65 rfl ?_
      refine lv_ladd hx hb d_Numeral_findWhole_66 ?_
      refine lv_topl (fun x10 e_x10 => ?_)
      have h := bd_g e_x10 h
      refine va_put (D := (dC, dI)) (ci := 2) (v := .long x10) (ty := .long) (C := R_Numeral) (T := F_Numeral) (N := 12) hx hb ht i_Numeral t_Numeral t_Numeral_ok n_Numeral hown hK hP hD hS 0 rfl rfl 11 (by decide) (ht _ q_64) (fun _ h9 => h9) rfl (t_Numeral_ok 11 (by decide)) rfl rfl (Nat.le_of_ble_eq_true rfl) d_Numeral_findWhole_67 (fun H locs hP hD hS => ?_)
      have hP : va_P (dC, dI) classes (WS_Numeral_findWhole h_this h_this_tape h_this_tape_row c_this_tape_row v_next v_negative v_sixteen v_hasPoint v_hasPower v_from v_to v_before v_digits v_power x10 v_tape_length a_tape_row) H := hP
      have hD : va_D A (WS_Numeral_findWhole h_this h_this_tape h_this_tape_row c_this_tape_row v_next v_negative v_sixteen v_hasPoint v_hasPower v_from v_to v_before v_digits v_power x10 v_tape_length a_tape_row) := hD
      refine lv_goto (tgt := 118) hx hb d_Numeral_findWhole_70 (by decide) ?_
      exact s_Numeral_findWhole_118 cx hK hA hX hk26 v_sixteen v_hasPoint v_hasPower v_from v_to x10 v_tape_length a_tape_row y1 H locs ls hP hD hS (lv_sub hl [1, 2] rfl) h
set_option maxHeartbeats 4000000 in
set_option maxRecDepth 100000 in
theorem s_Numeral_findWhole_26 {p : Program} {l : Launch} {e : Env} {s : State} {m : MethodId} {args : Array Value} {below : List Frame} {meth : Method} {c : Code} {dC : Nat → ClassId} {dI : Nat → Nat → Nat} {A : Nat → Prop} {X : SXT} {h_this : Nat} {h_this_tape : Nat} {h_this_tape_row : Nat} {c_this_tape_row : ClassId} {v_next : Int32} {v_negative : Int32} {v_before : Int32} {v_digits : Int32} {v_power : Int32} {res : Int32 × Int64}  (cx : cxx p s m args meth c b_Numeral_findWhole 3 (some .boolean) R_Numeral) (hK : va_K (dC, dI) classes [(c_this_tape_row, .byte)] s) (hA : ∀ q, s.heap.size ≤ q → A q) (hX : SX X A s s.heap)  : ∀ n : Nat, ∀ (v_sixteen : Int32) (v_hasPoint : Int32) (v_hasPower : Int32) (v_from : Int32) (v_to : Int32) (v_found : Int64) (v_tape_length : Int32) (a_tape_row : (Nat → Int32)) (y1 : Int32) (H : Heap) (locs : List Loc) (ls : Array Slot), va_P (dC, dI) classes (WS_Numeral_findWhole h_this h_this_tape h_this_tape_row c_this_tape_row v_next v_negative v_sixteen v_hasPoint v_hasPower v_from v_to v_before v_digits v_power v_found v_tape_length a_tape_row) H → va_D A (WS_Numeral_findWhole h_this h_this_tape h_this_tape_row c_this_tape_row v_next v_negative v_sixteen v_hasPoint v_hasPower v_from v_to v_before v_digits v_power v_found v_tape_length a_tape_row) → va_S A s.heap H locs → lv_has ls 3 [(0, .ref h_this), (1, .int y1)] → f_Numeral_findWhole_26 n v_sixteen v_hasPoint v_hasPower v_from v_to v_found v_tape_length a_tape_row y1 = some res → W p l e ({ frames := 1, cells := 0, slots := 0, locals := 21 }) s m args below meth c H locs 0 0 (MQ below (va_Qi (fun (r : Int32) (u : Int64) => some (r, u) = some res) (gB (dC, dI) [(c_this_tape_row, .byte)] A (fun (u : Int64) => (WS_Numeral_findWhole h_this h_this_tape h_this_tape_row c_this_tape_row v_next v_negative v_sixteen v_hasPoint v_hasPower v_from v_to v_before v_digits v_power u v_tape_length a_tape_row))) A) args s 0 0 A) (F0 m 26 ls []) := by
  intro n
  induction n with
  | zero =>
    intro v_sixteen v_hasPoint v_hasPower v_from v_to v_found v_tape_length a_tape_row y1 H locs ls hP hD hS hl h
    have h9 : (none : Option (Int32 × Int64)) = some res := h
    cases h9
  | succ n ih =>
    intro v_sixteen v_hasPoint v_hasPower v_from v_to v_found v_tape_length a_tape_row y1 H locs ls hP hD hS hl h
    exact s_Numeral_findWhole_26b cx hK hA hX ih v_sixteen v_hasPoint v_hasPower v_from v_to v_found v_tape_length a_tape_row y1 H locs ls hP hD hS hl h
set_option maxHeartbeats 4000000 in
set_option maxRecDepth 100000 in
theorem s_Numeral_findWhole_e {p : Program} {l : Launch} {e : Env} {s : State} {m : MethodId} {args : Array Value} {below : List Frame} {meth : Method} {c : Code} {dC : Nat → ClassId} {dI : Nat → Nat → Nat} {A : Nat → Prop} {X : SXT} {h_this : Nat} {h_this_tape : Nat} {h_this_tape_row : Nat} {c_this_tape_row : ClassId} {v_next : Int32} {v_negative : Int32} {v_before : Int32} {v_digits : Int32} {v_power : Int32} {res : Int32 × Int64} (cx : cxx p s m args meth c b_Numeral_findWhole 3 (some .boolean) R_Numeral) (hK : va_K (dC, dI) classes [(c_this_tape_row, .byte)] s) (hA : ∀ q, s.heap.size ≤ q → A q) (hX : SX X A s s.heap) : ∀ (v_sixteen : Int32) (v_hasPoint : Int32) (v_hasPower : Int32) (v_from : Int32) (v_to : Int32) (v_found : Int64) (v_tape_length : Int32) (a_tape_row : (Nat → Int32)) (H : Heap) (locs : List Loc) (ls : Array Slot), va_P (dC, dI) classes (WS_Numeral_findWhole h_this h_this_tape h_this_tape_row c_this_tape_row v_next v_negative v_sixteen v_hasPoint v_hasPower v_from v_to v_before v_digits v_power v_found v_tape_length a_tape_row) H → va_D A (WS_Numeral_findWhole h_this h_this_tape h_this_tape_row c_this_tape_row v_next v_negative v_sixteen v_hasPoint v_hasPower v_from v_to v_before v_digits v_power v_found v_tape_length a_tape_row) → va_S A s.heap H locs → lv_has ls 3 [(0, .ref h_this)] → f_Numeral_findWhole v_sixteen v_hasPoint v_hasPower v_from v_to v_found v_tape_length a_tape_row = some res → W p l e ({ frames := 1, cells := 0, slots := 0, locals := 21 }) s m args below meth c H locs 0 0 (MQ below (va_Qi (fun (r : Int32) (u : Int64) => some (r, u) = some res) (gB (dC, dI) [(c_this_tape_row, .byte)] A (fun (u : Int64) => (WS_Numeral_findWhole h_this h_this_tape h_this_tape_row c_this_tape_row v_next v_negative v_sixteen v_hasPoint v_hasPower v_from v_to v_before v_digits v_power u v_tape_length a_tape_row))) A) args s 0 0 A) (F0 m 0 ls []) := by
  intro v_sixteen v_hasPoint v_hasPower v_from v_to v_found v_tape_length a_tape_row H locs ls hP hD hS hl h
  obtain ⟨hx, hb, hr, hml, hown, ht, hlk⟩ := id cx
  refine lv_aload_n hx hb d_Numeral_findWhole_0 rfl (lv_at hl 0 rfl) ?_
  refine lv_lconst (v := 0) hx hb d_Numeral_findWhole_1 (by decide) ?_
  refine va_put (D := (dC, dI)) (ci := 2) (v := .long (0 : Int64)) (ty := .long) (C := R_Numeral) (T := F_Numeral) (N := 12) hx hb ht i_Numeral t_Numeral t_Numeral_ok n_Numeral hown hK hP hD hS 0 rfl rfl 11 (by decide) (ht _ q_64) (fun _ h9 => h9) rfl (t_Numeral_ok 11 (by decide)) rfl rfl (Nat.le_of_ble_eq_true rfl) d_Numeral_findWhole_2 (fun H locs hP hD hS => ?_)
  have hP : va_P (dC, dI) classes (WS_Numeral_findWhole h_this h_this_tape h_this_tape_row c_this_tape_row v_next v_negative v_sixteen v_hasPoint v_hasPower v_from v_to v_before v_digits v_power (0 : Int64) v_tape_length a_tape_row) H := hP
  have hD : va_D A (WS_Numeral_findWhole h_this h_this_tape h_this_tape_row c_this_tape_row v_next v_negative v_sixteen v_hasPoint v_hasPower v_from v_to v_before v_digits v_power (0 : Int64) v_tape_length a_tape_row) := hD
  refine lv_aload_n hx hb d_Numeral_findWhole_5 rfl (lv_at hl 0 rfl) ?_
  refine va_get (D := (dC, dI)) (ci := 2) (v := .int v_hasPoint) (C := R_Numeral) (T := F_Numeral) (N := 12) hx hb ht i_Numeral hown hK hP 0 rfl rfl 4 (by decide) (ht _ q_33) (fun _ h9 => h9) rfl d_Numeral_findWhole_6 ?_
  refine lv_if_ne (tgt := 19) hx hb d_Numeral_findWhole_9 (by decide) (fun c11 => ?_) (fun c11 => ?_)
  · have h := if_f c11 h
    refine lv_iconst (v := 0) hx hb d_Numeral_findWhole_19 (by decide) ?_
    exact W.zret (v := (0 : Int32)) hx hb hr rfl (fun t ht9 hW => ⟨⟨(0 : Int32), (0 : Int64), rfl, h, by rw [ht9]; exact hP, va_K.moved hW.alike hK, hD⟩, hS.F ht9⟩) hS.2.2 d_Numeral_findWhole_20 hlk
  · have h := if_t c11 h
    refine lv_aload_n hx hb d_Numeral_findWhole_12 rfl (lv_at hl 0 rfl) ?_
    refine va_get (D := (dC, dI)) (ci := 2) (v := .int v_hasPower) (C := R_Numeral) (T := F_Numeral) (N := 12) hx hb ht i_Numeral hown hK hP 0 rfl rfl 5 (by decide) (ht _ q_42) (fun _ h9 => h9) rfl d_Numeral_findWhole_13 ?_
    refine lv_if_eq (tgt := 21) hx hb d_Numeral_findWhole_16 (by decide) (fun c12 => ?_) (fun c12 => ?_)
    · have h := if_t c12 h
      refine lv_aload_n hx hb d_Numeral_findWhole_21 rfl (lv_at hl 0 rfl) ?_
      refine va_get (D := (dC, dI)) (ci := 2) (v := .int v_from) (C := R_Numeral) (T := F_Numeral) (N := 12) hx hb ht i_Numeral hown hK hP 0 rfl rfl 6 (by decide) (ht _ q_35) (fun _ h9 => h9) rfl d_Numeral_findWhole_22 ?_
      refine lv_istore_n (lv' := [(1, .int v_from), (0, .ref h_this)]) hx hb d_Numeral_findWhole_25 rfl hl (by decide) rfl (fun ls hl => ?_)
      exact s_Numeral_findWhole_26 cx hK hA hX fu v_sixteen v_hasPoint v_hasPower v_from v_to (0 : Int64) v_tape_length a_tape_row v_from H locs ls hP hD hS (lv_sub hl [1, 0] rfl) h
    · have h := if_f c12 h
      refine lv_iconst (v := 0) hx hb d_Numeral_findWhole_19 (by decide) ?_
      exact W.zret (v := (0 : Int32)) hx hb hr rfl (fun t ht9 hW => ⟨⟨(0 : Int32), (0 : Int64), rfl, h, by rw [ht9]; exact hP, va_K.moved hW.alike hK, hD⟩, hS.F ht9⟩) hS.2.2 d_Numeral_findWhole_20 hlk
set_option maxHeartbeats 4000000 in
set_option maxRecDepth 100000 in
theorem c_Numeral_findWhole (l : Launch) (dC : Nat → ClassId) (dI : Nat → Nat → Nat) (X : SXT) (h_this : Nat) (h_this_tape : Nat) (h_this_tape_row : Nat) (c_this_tape_row : ClassId) (sz : Nat) (v_next : Int32) (v_negative : Int32) (v_sixteen : Int32) (v_hasPoint : Int32) (v_hasPower : Int32) (v_from : Int32) (v_to : Int32) (v_before : Int32) (v_digits : Int32) (v_power : Int32) (v_found : Int64) (v_tape_length : Int32) (a_tape_row : (Nat → Int32)) (res : Int32 × Int64) (hf : f_Numeral_findWhole v_sixteen v_hasPoint v_hasPower v_from v_to v_found v_tape_length a_tape_row = some res) : Met l y_Numeral_findWhole (.code y_Numeral_findWhole b_Numeral_findWhole 3 (some .boolean) :: w0) ({ frames := 1, cells := 0, slots := 0, locals := 21 }) (va_Pc [.ref h_this] (gP (dC, dI) (WS_Numeral_findWhole h_this h_this_tape h_this_tape_row c_this_tape_row v_next v_negative v_sixteen v_hasPoint v_hasPower v_from v_to v_before v_digits v_power v_found v_tape_length a_tape_row) [(c_this_tape_row, .byte)] sz X)) (va_Qi (fun (r : Int32) (u : Int64) => some (r, u) = some res) (gB (dC, dI) [(c_this_tape_row, .byte)] (va_A (WS_Numeral_findWhole h_this h_this_tape h_this_tape_row c_this_tape_row v_next v_negative v_sixteen v_hasPoint v_hasPower v_from v_to v_before v_digits v_power v_found v_tape_length a_tape_row) sz) (fun (u : Int64) => (WS_Numeral_findWhole h_this h_this_tape h_this_tape_row c_this_tape_row v_next v_negative v_sixteen v_hasPoint v_hasPower v_from v_to v_before v_digits v_power u v_tape_length a_tape_row))) (va_A (WS_Numeral_findWhole h_this h_this_tape h_this_tape_row c_this_tape_row v_next v_negative v_sixteen v_hasPoint v_hasPower v_from v_to v_before v_digits v_power v_found v_tape_length a_tape_row) sz)) 0 0 (va_A (WS_Numeral_findWhole h_this h_this_tape h_this_tape_row c_this_tape_row v_next v_negative v_sixteen v_hasPoint v_hasPower v_from v_to v_before v_digits v_power v_found v_tape_length a_tape_row) sz) := by
  refine Met.ofW (cc := b_Numeral_findWhole) (maxL := 3) (ret := (some .boolean)) (by decide) rfl ?_
  intro p e s m args below meth c s₁ B hml hv
  obtain ⟨rfl, hsz, hP, hK, hD0, hX⟩ := hv
  subst hsz
  have cx : cxx p s m ([.ref h_this] : List Value).toArray meth c b_Numeral_findWhole 3 (some .boolean) R_Numeral := ⟨B.exec, B.bytes, B.returns, hml, findClass_of_methodNamed B.named, fun w9 hw => atoms_spec (ws := .code y_Numeral_findWhole b_Numeral_findWhole 3 (some .boolean) :: w0) B.pre w9 (List.mem_cons_of_mem _ hw), B.notSynchronized⟩
  have hD := hD0.self (sz := s.heap.size)
  generalize hAe : va_A (WS_Numeral_findWhole h_this h_this_tape h_this_tape_row c_this_tape_row v_next v_negative v_sixteen v_hasPoint v_hasPower v_from v_to v_before v_digits v_power v_found v_tape_length a_tape_row) s.heap.size = A at hD hX ⊢
  have hA : ∀ q : Nat, s.heap.size ≤ q → A q := fun q h => by rw [← hAe]; exact Or.inr h
  have hS : va_S A s.heap s.heap [] := va_S.rf
  have hl := lv_entry ([.ref h_this]) (n := 3) (Nat.le_of_ble_eq_true rfl)
  rw [lg_entry_eq]
  generalize (lg_sl ([.ref h_this]) ++ List.replicate (3 - (lg_sl ([.ref h_this])).length) Slot.unset).toArray = ls at hl ⊢
  have hl : lv_has ls 3 [(0, .ref h_this)] := hl
  exact s_Numeral_findWhole_e cx hK hA hX v_sixteen v_hasPoint v_hasPower v_from v_to v_found v_tape_length a_tape_row s.heap [] ls hP hD hS hl hf
abbrev WS_Numeral_foundWhole (g_this_tape : Nat) (h_this : Nat)  (v_next : Int32) (v_negative : Int32) (v_sixteen : Int32) (v_hasPoint : Int32) (v_hasPower : Int32) (v_from : Int32) (v_to : Int32) (v_before : Int32) (v_digits : Int32) (v_power : Int32) (v_found : Int64) : va_W := [(h_this, .inr (2, [.ref g_this_tape, .int v_next, .int v_negative, .int v_sixteen, .int v_hasPoint, .int v_hasPower, .int v_from, .int v_to, .int v_before, .int v_digits, .int v_power, .long v_found]))]
def f_Numeral_foundWhole (v_found : Int64) : Option (Int64) :=
  some v_found
set_option maxHeartbeats 4000000 in
set_option maxRecDepth 100000 in
theorem s_Numeral_foundWhole_e {p : Program} {l : Launch} {e : Env} {s : State} {m : MethodId} {args : Array Value} {below : List Frame} {meth : Method} {c : Code} {dC : Nat → ClassId} {dI : Nat → Nat → Nat} {A : Nat → Prop} {X : SXT} {g_this_tape : Nat} {h_this : Nat} {v_next : Int32} {v_negative : Int32} {v_sixteen : Int32} {v_hasPoint : Int32} {v_hasPower : Int32} {v_from : Int32} {v_to : Int32} {v_before : Int32} {v_digits : Int32} {v_power : Int32} {res : Int64} (cx : cxx p s m args meth c b_Numeral_foundWhole 1 (some .long) R_Numeral) (hK : va_K (dC, dI) classes [] s) (hA : ∀ q, s.heap.size ≤ q → A q) (hX : SX X A s s.heap) : ∀ (v_found : Int64) (H : Heap) (locs : List Loc) (ls : Array Slot), va_P (dC, dI) classes (WS_Numeral_foundWhole g_this_tape h_this v_next v_negative v_sixteen v_hasPoint v_hasPower v_from v_to v_before v_digits v_power v_found) H → va_D A (WS_Numeral_foundWhole g_this_tape h_this v_next v_negative v_sixteen v_hasPoint v_hasPower v_from v_to v_before v_digits v_power v_found) → va_S A s.heap H locs → lv_has ls 1 [(0, .ref h_this)] → f_Numeral_foundWhole v_found = some res → W p l e ({ frames := 0, cells := 0, slots := 0, locals := 0 }) s m args below meth c H locs 0 0 (MQ below (va_Ql (fun (r : Int64) (_ : Unit) => some r = some res) (gB (dC, dI) [] A (fun (u : Unit) => (WS_Numeral_foundWhole g_this_tape h_this v_next v_negative v_sixteen v_hasPoint v_hasPower v_from v_to v_before v_digits v_power v_found))) A) args s 0 0 A) (F0 m 0 ls []) := by
  intro v_found H locs ls hP hD hS hl h
  obtain ⟨hx, hb, hr, hml, hown, ht, hlk⟩ := id cx
  refine lv_aload_n hx hb d_Numeral_foundWhole_0 rfl (lv_at hl 0 rfl) ?_
  refine va_get (D := (dC, dI)) (ci := 2) (v := .long v_found) (C := R_Numeral) (T := F_Numeral) (N := 12) hx hb ht i_Numeral hown hK hP 0 rfl rfl 11 (by decide) (ht _ q_64) (fun _ h9 => h9) rfl d_Numeral_foundWhole_1 ?_
  exact W.lret (v := v_found) hx hb hr (fun t ht9 hW => ⟨⟨v_found, (), rfl, h, by rw [ht9]; exact hP, va_K.moved hW.alike hK, hD⟩, hS.F ht9⟩) hS.2.2 d_Numeral_foundWhole_4 hlk
set_option maxHeartbeats 4000000 in
set_option maxRecDepth 100000 in
theorem c_Numeral_foundWhole (l : Launch) (dC : Nat → ClassId) (dI : Nat → Nat → Nat) (X : SXT) (g_this_tape : Nat) (h_this : Nat) (sz : Nat) (v_next : Int32) (v_negative : Int32) (v_sixteen : Int32) (v_hasPoint : Int32) (v_hasPower : Int32) (v_from : Int32) (v_to : Int32) (v_before : Int32) (v_digits : Int32) (v_power : Int32) (v_found : Int64) (res : Int64) (hf : f_Numeral_foundWhole v_found = some res) : Met l y_Numeral_foundWhole (.code y_Numeral_foundWhole b_Numeral_foundWhole 1 (some .long) :: w0) ({ frames := 0, cells := 0, slots := 0, locals := 0 }) (va_Pc [.ref h_this] (gP (dC, dI) (WS_Numeral_foundWhole g_this_tape h_this v_next v_negative v_sixteen v_hasPoint v_hasPower v_from v_to v_before v_digits v_power v_found) [] sz X)) (va_Ql (fun (r : Int64) (_ : Unit) => some r = some res) (gB (dC, dI) [] (va_A (WS_Numeral_foundWhole g_this_tape h_this v_next v_negative v_sixteen v_hasPoint v_hasPower v_from v_to v_before v_digits v_power v_found) sz) (fun (u : Unit) => (WS_Numeral_foundWhole g_this_tape h_this v_next v_negative v_sixteen v_hasPoint v_hasPower v_from v_to v_before v_digits v_power v_found))) (va_A (WS_Numeral_foundWhole g_this_tape h_this v_next v_negative v_sixteen v_hasPoint v_hasPower v_from v_to v_before v_digits v_power v_found) sz)) 0 0 (va_A (WS_Numeral_foundWhole g_this_tape h_this v_next v_negative v_sixteen v_hasPoint v_hasPower v_from v_to v_before v_digits v_power v_found) sz) := by
  refine Met.ofW (cc := b_Numeral_foundWhole) (maxL := 1) (ret := (some .long)) (by decide) rfl ?_
  intro p e s m args below meth c s₁ B hml hv
  obtain ⟨rfl, hsz, hP, hK, hD0, hX⟩ := hv
  subst hsz
  have cx : cxx p s m ([.ref h_this] : List Value).toArray meth c b_Numeral_foundWhole 1 (some .long) R_Numeral := ⟨B.exec, B.bytes, B.returns, hml, findClass_of_methodNamed B.named, fun w9 hw => atoms_spec (ws := .code y_Numeral_foundWhole b_Numeral_foundWhole 1 (some .long) :: w0) B.pre w9 (List.mem_cons_of_mem _ hw), B.notSynchronized⟩
  have hD := hD0.self (sz := s.heap.size)
  generalize hAe : va_A (WS_Numeral_foundWhole g_this_tape h_this v_next v_negative v_sixteen v_hasPoint v_hasPower v_from v_to v_before v_digits v_power v_found) s.heap.size = A at hD hX ⊢
  have hA : ∀ q : Nat, s.heap.size ≤ q → A q := fun q h => by rw [← hAe]; exact Or.inr h
  have hS : va_S A s.heap s.heap [] := va_S.rf
  have hl := lv_entry ([.ref h_this]) (n := 1) (Nat.le_of_ble_eq_true rfl)
  rw [lg_entry_eq]
  generalize (lg_sl ([.ref h_this]) ++ List.replicate (1 - (lg_sl ([.ref h_this])).length) Slot.unset).toArray = ls at hl ⊢
  have hl : lv_has ls 1 [(0, .ref h_this)] := hl
  exact s_Numeral_foundWhole_e cx hK hA hX v_found s.heap [] ls hP hD hS hl hf
abbrev WS_N_setValue (g_this_tape : Nat) (g_this_numeral : Nat) (g_this_room : Nat) (g_this_exact : Nat) (g_this_size : Nat) (g_this_again : Nat) (g_this_page : Nat) (g_this_writer : Nat) (h_this : Nat)  (v_valueKind : Int32) (v_valueNumber : Int64) (v_valueExponent : Int32) : va_W := [(h_this, .inr (0, [.ref g_this_tape, .ref g_this_numeral, .ref g_this_room, .ref g_this_exact, .ref g_this_size, .ref g_this_again, .ref g_this_page, .ref g_this_writer, .int v_valueKind, .long v_valueNumber, .int v_valueExponent]))]
def f_N_setValue (v_valueKind : Int32) (v_valueNumber : Int64) (v_valueExponent : Int32) (p1 : Int32) (p2 : Int64) (p4 : Int32) : Option (Int32 × Int64 × Int32) :=
  some (p1, p2, p4)
set_option maxHeartbeats 4000000 in
set_option maxRecDepth 100000 in
theorem s_N_setValue_e {p : Program} {l : Launch} {e : Env} {s : State} {m : MethodId} {args : Array Value} {below : List Frame} {meth : Method} {c : Code} {dC : Nat → ClassId} {dI : Nat → Nat → Nat} {A : Nat → Prop} {X : SXT} {g_this_tape : Nat} {g_this_numeral : Nat} {g_this_room : Nat} {g_this_exact : Nat} {g_this_size : Nat} {g_this_again : Nat} {g_this_page : Nat} {g_this_writer : Nat} {h_this : Nat} {res : Int32 × Int64 × Int32} (cx : cxx p s m args meth c b_N_setValue 5 none R_N) (hK : va_K (dC, dI) classes [] s) (hA : ∀ q, s.heap.size ≤ q → A q) (hX : SX X A s s.heap) : ∀ (v_valueKind : Int32) (v_valueNumber : Int64) (v_valueExponent : Int32) (p1 : Int32) (p2 : Int64) (p4 : Int32) (H : Heap) (locs : List Loc) (ls : Array Slot), va_P (dC, dI) classes (WS_N_setValue g_this_tape g_this_numeral g_this_room g_this_exact g_this_size g_this_again g_this_page g_this_writer h_this v_valueKind v_valueNumber v_valueExponent) H → va_D A (WS_N_setValue g_this_tape g_this_numeral g_this_room g_this_exact g_this_size g_this_again g_this_page g_this_writer h_this v_valueKind v_valueNumber v_valueExponent) → va_S A s.heap H locs → lv_has ls 5 [(0, .ref h_this), (1, .int p1), (2, .long p2), (4, .int p4)] → f_N_setValue v_valueKind v_valueNumber v_valueExponent p1 p2 p4 = some res → W p l e ({ frames := 0, cells := 0, slots := 0, locals := 0 }) s m args below meth c H locs 0 0 (MQ below (va_Qv (fun (u : Int32 × Int64 × Int32) => some u = some res) (gB (dC, dI) [] A (fun (u : Int32 × Int64 × Int32) => (WS_N_setValue g_this_tape g_this_numeral g_this_room g_this_exact g_this_size g_this_again g_this_page g_this_writer h_this u.1 u.2.1 u.2.2))) A) args s 0 0 A) (F0 m 0 ls []) := by
  intro v_valueKind v_valueNumber v_valueExponent p1 p2 p4 H locs ls hP hD hS hl h
  obtain ⟨hx, hb, hr, hml, hown, ht, hlk⟩ := id cx
  refine lv_aload_n hx hb d_N_setValue_0 rfl (lv_at hl 0 rfl) ?_
  refine lv_iload_n hx hb d_N_setValue_1 rfl (lv_at hl 1 rfl) ?_
  refine va_put (D := (dC, dI)) (ci := 0) (v := .int p1) (ty := .int) (C := R_N) (T := F_N) (N := 11) hx hb ht i_N t_N t_N_ok n_N hown hK hP hD hS 0 rfl rfl 8 (by decide) (ht _ q_67) (fun _ h9 => h9) rfl (t_N_ok 8 (by decide)) rfl rfl (Nat.le_of_ble_eq_true rfl) d_N_setValue_2 (fun H locs hP hD hS => ?_)
  have hP : va_P (dC, dI) classes (WS_N_setValue g_this_tape g_this_numeral g_this_room g_this_exact g_this_size g_this_again g_this_page g_this_writer h_this p1 v_valueNumber v_valueExponent) H := hP
  have hD : va_D A (WS_N_setValue g_this_tape g_this_numeral g_this_room g_this_exact g_this_size g_this_again g_this_page g_this_writer h_this p1 v_valueNumber v_valueExponent) := hD
  refine lv_aload_n hx hb d_N_setValue_5 rfl (lv_at hl 0 rfl) ?_
  refine lv_lload_n hx hb d_N_setValue_6 rfl (lv_at hl 2 rfl) ?_
  refine va_put (D := (dC, dI)) (ci := 0) (v := .long p2) (ty := .long) (C := R_N) (T := F_N) (N := 11) hx hb ht i_N t_N t_N_ok n_N hown hK hP hD hS 0 rfl rfl 9 (by decide) (ht _ q_68) (fun _ h9 => h9) rfl (t_N_ok 9 (by decide)) rfl rfl (Nat.le_of_ble_eq_true rfl) d_N_setValue_7 (fun H locs hP hD hS => ?_)
  have hP : va_P (dC, dI) classes (WS_N_setValue g_this_tape g_this_numeral g_this_room g_this_exact g_this_size g_this_again g_this_page g_this_writer h_this p1 p2 v_valueExponent) H := hP
  have hD : va_D A (WS_N_setValue g_this_tape g_this_numeral g_this_room g_this_exact g_this_size g_this_again g_this_page g_this_writer h_this p1 p2 v_valueExponent) := hD
  refine lv_aload_n hx hb d_N_setValue_10 rfl (lv_at hl 0 rfl) ?_
  refine lv_iload hx hb d_N_setValue_11 (lv_at hl 3 rfl) ?_
  refine va_put (D := (dC, dI)) (ci := 0) (v := .int p4) (ty := .int) (C := R_N) (T := F_N) (N := 11) hx hb ht i_N t_N t_N_ok n_N hown hK hP hD hS 0 rfl rfl 10 (by decide) (ht _ q_69) (fun _ h9 => h9) rfl (t_N_ok 10 (by decide)) rfl rfl (Nat.le_of_ble_eq_true rfl) d_N_setValue_13 (fun H locs hP hD hS => ?_)
  have hP : va_P (dC, dI) classes (WS_N_setValue g_this_tape g_this_numeral g_this_room g_this_exact g_this_size g_this_again g_this_page g_this_writer h_this p1 p2 p4) H := hP
  have hD : va_D A (WS_N_setValue g_this_tape g_this_numeral g_this_room g_this_exact g_this_size g_this_again g_this_page g_this_writer h_this p1 p2 p4) := hD
  exact W.vret hx hb hr (fun t ht9 hW => ⟨⟨(p1, p2, p4), rfl, h, by rw [ht9]; exact hP, va_K.moved hW.alike hK, hD⟩, hS.F ht9⟩) hS.2.2 d_N_setValue_16 hlk
set_option maxHeartbeats 4000000 in
set_option maxRecDepth 100000 in
theorem c_N_setValue (l : Launch) (dC : Nat → ClassId) (dI : Nat → Nat → Nat) (X : SXT) (g_this_tape : Nat) (g_this_numeral : Nat) (g_this_room : Nat) (g_this_exact : Nat) (g_this_size : Nat) (g_this_again : Nat) (g_this_page : Nat) (g_this_writer : Nat) (h_this : Nat) (sz : Nat) (v_valueKind : Int32) (v_valueNumber : Int64) (v_valueExponent : Int32) (p1 : Int32) (p2 : Int64) (p4 : Int32) (res : Int32 × Int64 × Int32) (hf : f_N_setValue v_valueKind v_valueNumber v_valueExponent p1 p2 p4 = some res) : Met l y_N_setValue (.code y_N_setValue b_N_setValue 5 none :: w0) ({ frames := 0, cells := 0, slots := 0, locals := 0 }) (va_Pc [.ref h_this, .int p1, .long p2, .int p4] (gP (dC, dI) (WS_N_setValue g_this_tape g_this_numeral g_this_room g_this_exact g_this_size g_this_again g_this_page g_this_writer h_this v_valueKind v_valueNumber v_valueExponent) [] sz X)) (va_Qv (fun (u : Int32 × Int64 × Int32) => some u = some res) (gB (dC, dI) [] (va_A (WS_N_setValue g_this_tape g_this_numeral g_this_room g_this_exact g_this_size g_this_again g_this_page g_this_writer h_this v_valueKind v_valueNumber v_valueExponent) sz) (fun (u : Int32 × Int64 × Int32) => (WS_N_setValue g_this_tape g_this_numeral g_this_room g_this_exact g_this_size g_this_again g_this_page g_this_writer h_this u.1 u.2.1 u.2.2))) (va_A (WS_N_setValue g_this_tape g_this_numeral g_this_room g_this_exact g_this_size g_this_again g_this_page g_this_writer h_this v_valueKind v_valueNumber v_valueExponent) sz)) 0 0 (va_A (WS_N_setValue g_this_tape g_this_numeral g_this_room g_this_exact g_this_size g_this_again g_this_page g_this_writer h_this v_valueKind v_valueNumber v_valueExponent) sz) := by
  refine Met.ofW (cc := b_N_setValue) (maxL := 5) (ret := none) (by decide) rfl ?_
  intro p e s m args below meth c s₁ B hml hv
  obtain ⟨rfl, hsz, hP, hK, hD0, hX⟩ := hv
  subst hsz
  have cx : cxx p s m ([.ref h_this, .int p1, .long p2, .int p4] : List Value).toArray meth c b_N_setValue 5 none R_N := ⟨B.exec, B.bytes, B.returns, hml, findClass_of_methodNamed B.named, fun w9 hw => atoms_spec (ws := .code y_N_setValue b_N_setValue 5 none :: w0) B.pre w9 (List.mem_cons_of_mem _ hw), B.notSynchronized⟩
  have hD := hD0.self (sz := s.heap.size)
  generalize hAe : va_A (WS_N_setValue g_this_tape g_this_numeral g_this_room g_this_exact g_this_size g_this_again g_this_page g_this_writer h_this v_valueKind v_valueNumber v_valueExponent) s.heap.size = A at hD hX ⊢
  have hA : ∀ q : Nat, s.heap.size ≤ q → A q := fun q h => by rw [← hAe]; exact Or.inr h
  have hS : va_S A s.heap s.heap [] := va_S.rf
  have hl := lv_entry ([.ref h_this, .int p1, .long p2, .int p4]) (n := 5) (Nat.le_of_ble_eq_true rfl)
  rw [lg_entry_eq]
  generalize (lg_sl ([.ref h_this, .int p1, .long p2, .int p4]) ++ List.replicate (5 - (lg_sl ([.ref h_this, .int p1, .long p2, .int p4])).length) Slot.unset).toArray = ls at hl ⊢
  have hl : lv_has ls 5 [(0, .ref h_this), (1, .int p1), (2, .long p2), (4, .int p4)] := hl
  exact s_N_setValue_e cx hK hA hX v_valueKind v_valueNumber v_valueExponent p1 p2 p4 s.heap [] ls hP hD hS hl hf
def f_Integer_numberOfLeadingZeros_61 (y0 : Int32) (y1 : Int32) : Option (Int32) :=
  if y0 < (4 : Int32) then
    some (y1 - (ius y0 (1 : Int32)))
  else
    bd (y1 + (-2 : Int32)) fun x2 =>
    bd (ius y0 (2 : Int32)) fun x3 =>
    some (x2 - (ius x3 (1 : Int32)))
def f_Integer_numberOfLeadingZeros_48 (y0 : Int32) (y1 : Int32) : Option (Int32) :=
  if y0 < (16 : Int32) then
    f_Integer_numberOfLeadingZeros_61 y0 y1
  else
    bd (y1 + (-4 : Int32)) fun x5 =>
    bd (ius y0 (4 : Int32)) fun x6 =>
    f_Integer_numberOfLeadingZeros_61 x6 x5
def f_Integer_numberOfLeadingZeros_33 (y0 : Int32) (y1 : Int32) : Option (Int32) :=
  if y0 < (256 : Int32) then
    f_Integer_numberOfLeadingZeros_48 y0 y1
  else
    bd (y1 + (-8 : Int32)) fun x8 =>
    bd (ius y0 (8 : Int32)) fun x9 =>
    f_Integer_numberOfLeadingZeros_48 x9 x8
def f_Integer_numberOfLeadingZeros (p0 : Int32) : Option (Int32) :=
  if 0 < p0 then
    if p0 < (65536 : Int32) then
      f_Integer_numberOfLeadingZeros_33 p0 (31 : Int32)
    else
      bd ((31 : Int32) + (-16 : Int32)) fun x12 =>
      bd (ius p0 (16 : Int32)) fun x13 =>
      f_Integer_numberOfLeadingZeros_33 x13 x12
  else
    if p0 = 0 then
      some (32 : Int32)
    else
      some (0 : Int32)
set_option maxHeartbeats 4000000 in
set_option maxRecDepth 100000 in
theorem s_Integer_numberOfLeadingZeros_61 {p : Program} {l : Launch} {e : Env} {s : State} {m : MethodId} {args : Array Value} {below : List Frame} {meth : Method} {c : Code} {dC : Nat → ClassId} {dI : Nat → Nat → Nat} {A : Nat → Prop} {X : SXT} {res : Int32}  (cx : cxx p s m args meth c b_Integer_numberOfLeadingZeros 2 (some .int) R_Integer) (hK : va_K (dC, dI) classes [] s) (hA : ∀ q, s.heap.size ≤ q → A q) (hX : SX X A s s.heap)  : ∀ (y0 : Int32) (y1 : Int32) (H : Heap) (locs : List Loc) (ls : Array Slot), va_P (dC, dI) classes [] H → va_D A [] → va_S A s.heap H locs → lv_has ls 2 [(0, .int y0), (1, .int y1)] → f_Integer_numberOfLeadingZeros_61 y0 y1 = some res → W p l e ({ frames := 0, cells := 0, slots := 0, locals := 0 }) s m args below meth c H locs 0 0 (MQ below (va_Qi (fun (r : Int32) (_ : Unit) => some r = some res) (gB (dC, dI) [] A (fun (u : Unit) => [])) A) args s 0 0 A) (F0 m 61 ls []) := by
  intro y0 y1 H locs ls hP hD hS hl h
  obtain ⟨hx, hb, hr, hml, hown, ht, hlk⟩ := id cx
  refine lv_iload_n hx hb d_Integer_numberOfLeadingZeros_61 rfl (lv_at hl 0 rfl) ?_
  refine lv_iconst (v := 4) hx hb d_Integer_numberOfLeadingZeros_62 (by decide) ?_
  refine lv_icmp_lt (tgt := 73) hx hb d_Integer_numberOfLeadingZeros_63 (by decide) (fun c1 => ?_) (fun c1 => ?_)
  · have h := if_t c1 h
    refine lv_iload_n hx hb d_Integer_numberOfLeadingZeros_73 rfl (lv_at hl 1 rfl) ?_
    refine lv_iload_n hx hb d_Integer_numberOfLeadingZeros_74 rfl (lv_at hl 0 rfl) ?_
    refine lv_iconst (v := 1) hx hb d_Integer_numberOfLeadingZeros_75 (by decide) ?_
    refine lv_iushr (v := ius y0 (1 : Int32)) hx hb d_Integer_numberOfLeadingZeros_76 rfl ?_
    refine lv_isub hx hb d_Integer_numberOfLeadingZeros_77 ?_
    exact W.iret (v := (y1 - (ius y0 (1 : Int32)))) hx hb hr (fun t ht9 hW => ⟨⟨(y1 - (ius y0 (1 : Int32))), (), rfl, h, by rw [ht9]; exact hP, va_K.moved hW.alike hK, hD⟩, hS.F ht9⟩) hS.2.2 d_Integer_numberOfLeadingZeros_78 hlk
  · have h := if_f c1 h
    obtain ⟨x2, e_x2⟩ : ∃ y : Int32, y = y1 + (-2 : Int32) := ⟨_, rfl⟩
    refine lv_iinc (v := x2) (lv' := [(1, .int x2), (0, .int y0)]) hx hb d_Integer_numberOfLeadingZeros_66 hl (k := 1) rfl (by rw [e_x2]; rfl) (by decide) rfl (fun ls hl => ?_)
    have h := bd_g e_x2 h
    refine lv_iload_n hx hb d_Integer_numberOfLeadingZeros_69 rfl (lv_at hl 1 rfl) ?_
    refine lv_iconst (v := 2) hx hb d_Integer_numberOfLeadingZeros_70 (by decide) ?_
    refine lv_iushr (v := ius y0 (2 : Int32)) hx hb d_Integer_numberOfLeadingZeros_71 rfl ?_
    refine lv_topi (fun x3 e_x3 => ?_)
    have h := bd_g e_x3 h
    refine lv_istore_n (lv' := [(0, .int x3), (1, .int x2)]) hx hb d_Integer_numberOfLeadingZeros_72 rfl hl (by decide) rfl (fun ls hl => ?_)
    refine lv_iload_n hx hb d_Integer_numberOfLeadingZeros_73 rfl (lv_at hl 1 rfl) ?_
    refine lv_iload_n hx hb d_Integer_numberOfLeadingZeros_74 rfl (lv_at hl 0 rfl) ?_
    refine lv_iconst (v := 1) hx hb d_Integer_numberOfLeadingZeros_75 (by decide) ?_
    refine lv_iushr (v := ius x3 (1 : Int32)) hx hb d_Integer_numberOfLeadingZeros_76 rfl ?_
    refine lv_isub hx hb d_Integer_numberOfLeadingZeros_77 ?_
    exact W.iret (v := (x2 - (ius x3 (1 : Int32)))) hx hb hr (fun t ht9 hW => ⟨⟨(x2 - (ius x3 (1 : Int32))), (), rfl, h, by rw [ht9]; exact hP, va_K.moved hW.alike hK, hD⟩, hS.F ht9⟩) hS.2.2 d_Integer_numberOfLeadingZeros_78 hlk
set_option maxHeartbeats 4000000 in
set_option maxRecDepth 100000 in
theorem s_Integer_numberOfLeadingZeros_48 {p : Program} {l : Launch} {e : Env} {s : State} {m : MethodId} {args : Array Value} {below : List Frame} {meth : Method} {c : Code} {dC : Nat → ClassId} {dI : Nat → Nat → Nat} {A : Nat → Prop} {X : SXT} {res : Int32}  (cx : cxx p s m args meth c b_Integer_numberOfLeadingZeros 2 (some .int) R_Integer) (hK : va_K (dC, dI) classes [] s) (hA : ∀ q, s.heap.size ≤ q → A q) (hX : SX X A s s.heap)  : ∀ (y0 : Int32) (y1 : Int32) (H : Heap) (locs : List Loc) (ls : Array Slot), va_P (dC, dI) classes [] H → va_D A [] → va_S A s.heap H locs → lv_has ls 2 [(0, .int y0), (1, .int y1)] → f_Integer_numberOfLeadingZeros_48 y0 y1 = some res → W p l e ({ frames := 0, cells := 0, slots := 0, locals := 0 }) s m args below meth c H locs 0 0 (MQ below (va_Qi (fun (r : Int32) (_ : Unit) => some r = some res) (gB (dC, dI) [] A (fun (u : Unit) => [])) A) args s 0 0 A) (F0 m 48 ls []) := by
  intro y0 y1 H locs ls hP hD hS hl h
  obtain ⟨hx, hb, hr, hml, hown, ht, hlk⟩ := id cx
  refine lv_iload_n hx hb d_Integer_numberOfLeadingZeros_48 rfl (lv_at hl 0 rfl) ?_
  refine lv_bipush (v := 16) hx hb d_Integer_numberOfLeadingZeros_49 (by decide) ?_
  refine lv_icmp_lt (tgt := 61) hx hb d_Integer_numberOfLeadingZeros_51 (by decide) (fun c4 => ?_) (fun c4 => ?_)
  · have h := if_t c4 h
    exact s_Integer_numberOfLeadingZeros_61 cx hK hA hX y0 y1 H locs ls hP hD hS (lv_sub hl [0, 1] rfl) h
  · have h := if_f c4 h
    obtain ⟨x5, e_x5⟩ : ∃ y : Int32, y = y1 + (-4 : Int32) := ⟨_, rfl⟩
    refine lv_iinc (v := x5) (lv' := [(1, .int x5), (0, .int y0)]) hx hb d_Integer_numberOfLeadingZeros_54 hl (k := 1) rfl (by rw [e_x5]; rfl) (by decide) rfl (fun ls hl => ?_)
    have h := bd_g e_x5 h
    refine lv_iload_n hx hb d_Integer_numberOfLeadingZeros_57 rfl (lv_at hl 1 rfl) ?_
    refine lv_iconst (v := 4) hx hb d_Integer_numberOfLeadingZeros_58 (by decide) ?_
    refine lv_iushr (v := ius y0 (4 : Int32)) hx hb d_Integer_numberOfLeadingZeros_59 rfl ?_
    refine lv_topi (fun x6 e_x6 => ?_)
    have h := bd_g e_x6 h
    refine lv_istore_n (lv' := [(0, .int x6), (1, .int x5)]) hx hb d_Integer_numberOfLeadingZeros_60 rfl hl (by decide) rfl (fun ls hl => ?_)
    exact s_Integer_numberOfLeadingZeros_61 cx hK hA hX x6 x5 H locs ls hP hD hS (lv_sub hl [0, 1] rfl) h
set_option maxHeartbeats 4000000 in
set_option maxRecDepth 100000 in
theorem s_Integer_numberOfLeadingZeros_33 {p : Program} {l : Launch} {e : Env} {s : State} {m : MethodId} {args : Array Value} {below : List Frame} {meth : Method} {c : Code} {dC : Nat → ClassId} {dI : Nat → Nat → Nat} {A : Nat → Prop} {X : SXT} {res : Int32}  (cx : cxx p s m args meth c b_Integer_numberOfLeadingZeros 2 (some .int) R_Integer) (hK : va_K (dC, dI) classes [] s) (hA : ∀ q, s.heap.size ≤ q → A q) (hX : SX X A s s.heap)  : ∀ (y0 : Int32) (y1 : Int32) (H : Heap) (locs : List Loc) (ls : Array Slot), va_P (dC, dI) classes [] H → va_D A [] → va_S A s.heap H locs → lv_has ls 2 [(0, .int y0), (1, .int y1)] → f_Integer_numberOfLeadingZeros_33 y0 y1 = some res → W p l e ({ frames := 0, cells := 0, slots := 0, locals := 0 }) s m args below meth c H locs 0 0 (MQ below (va_Qi (fun (r : Int32) (_ : Unit) => some r = some res) (gB (dC, dI) [] A (fun (u : Unit) => [])) A) args s 0 0 A) (F0 m 33 ls []) := by
  intro y0 y1 H locs ls hP hD hS hl h
  obtain ⟨hx, hb, hr, hml, hown, ht, hlk⟩ := id cx
  refine lv_iload_n hx hb d_Integer_numberOfLeadingZeros_33 rfl (lv_at hl 0 rfl) ?_
  refine lv_sipush (v := 256) hx hb d_Integer_numberOfLeadingZeros_34 (by decide) ?_
  refine lv_icmp_lt (tgt := 48) hx hb d_Integer_numberOfLeadingZeros_37 (by decide) (fun c7 => ?_) (fun c7 => ?_)
  · have h := if_t c7 h
    exact s_Integer_numberOfLeadingZeros_48 cx hK hA hX y0 y1 H locs ls hP hD hS (lv_sub hl [0, 1] rfl) h
  · have h := if_f c7 h
    obtain ⟨x8, e_x8⟩ : ∃ y : Int32, y = y1 + (-8 : Int32) := ⟨_, rfl⟩
    refine lv_iinc (v := x8) (lv' := [(1, .int x8), (0, .int y0)]) hx hb d_Integer_numberOfLeadingZeros_40 hl (k := 1) rfl (by rw [e_x8]; rfl) (by decide) rfl (fun ls hl => ?_)
    have h := bd_g e_x8 h
    refine lv_iload_n hx hb d_Integer_numberOfLeadingZeros_43 rfl (lv_at hl 1 rfl) ?_
    refine lv_bipush (v := 8) hx hb d_Integer_numberOfLeadingZeros_44 (by decide) ?_
    refine lv_iushr (v := ius y0 (8 : Int32)) hx hb d_Integer_numberOfLeadingZeros_46 rfl ?_
    refine lv_topi (fun x9 e_x9 => ?_)
    have h := bd_g e_x9 h
    refine lv_istore_n (lv' := [(0, .int x9), (1, .int x8)]) hx hb d_Integer_numberOfLeadingZeros_47 rfl hl (by decide) rfl (fun ls hl => ?_)
    exact s_Integer_numberOfLeadingZeros_48 cx hK hA hX x9 x8 H locs ls hP hD hS (lv_sub hl [0, 1] rfl) h
set_option maxHeartbeats 4000000 in
set_option maxRecDepth 100000 in
theorem s_Integer_numberOfLeadingZeros_e {p : Program} {l : Launch} {e : Env} {s : State} {m : MethodId} {args : Array Value} {below : List Frame} {meth : Method} {c : Code} {dC : Nat → ClassId} {dI : Nat → Nat → Nat} {A : Nat → Prop} {X : SXT} {res : Int32} (cx : cxx p s m args meth c b_Integer_numberOfLeadingZeros 2 (some .int) R_Integer) (hK : va_K (dC, dI) classes [] s) (hA : ∀ q, s.heap.size ≤ q → A q) (hX : SX X A s s.heap) : ∀ (p0 : Int32) (H : Heap) (locs : List Loc) (ls : Array Slot), va_P (dC, dI) classes [] H → va_D A [] → va_S A s.heap H locs → lv_has ls 2 [(0, .int p0)] → f_Integer_numberOfLeadingZeros p0 = some res → W p l e ({ frames := 0, cells := 0, slots := 0, locals := 0 }) s m args below meth c H locs 0 0 (MQ below (va_Qi (fun (r : Int32) (_ : Unit) => some r = some res) (gB (dC, dI) [] A (fun (u : Unit) => [])) A) args s 0 0 A) (F0 m 0 ls []) := by
  intro p0 H locs ls hP hD hS hl h
  obtain ⟨hx, hb, hr, hml, hown, ht, hlk⟩ := id cx
  refine lv_iload_n hx hb d_Integer_numberOfLeadingZeros_0 rfl (lv_at hl 0 rfl) ?_
  refine lv_if_gt (tgt := 15) hx hb d_Integer_numberOfLeadingZeros_1 (by decide) (fun c10 => ?_) (fun c10 => ?_)
  · have h := if_t c10 h
    refine lv_bipush (v := 31) hx hb d_Integer_numberOfLeadingZeros_15 (by decide) ?_
    refine lv_istore_n (lv' := [(1, .int (31 : Int32)), (0, .int p0)]) hx hb d_Integer_numberOfLeadingZeros_17 rfl hl (by decide) rfl (fun ls hl => ?_)
    refine lv_iload_n hx hb d_Integer_numberOfLeadingZeros_18 rfl (lv_at hl 1 rfl) ?_
    refine lv_ldcw (v := 65536) hx hb hown (ht _ q_70) d_Integer_numberOfLeadingZeros_19 ?_
    refine lv_icmp_lt (tgt := 33) hx hb d_Integer_numberOfLeadingZeros_22 (by decide) (fun c11 => ?_) (fun c11 => ?_)
    · have h := if_t c11 h
      exact s_Integer_numberOfLeadingZeros_33 cx hK hA hX p0 (31 : Int32) H locs ls hP hD hS (lv_sub hl [1, 0] rfl) h
    · have h := if_f c11 h
      obtain ⟨x12, e_x12⟩ : ∃ y : Int32, y = (31 : Int32) + (-16 : Int32) := ⟨_, rfl⟩
      refine lv_iinc (v := x12) (lv' := [(1, .int x12), (0, .int p0)]) hx hb d_Integer_numberOfLeadingZeros_25 hl (k := 0) rfl (by rw [e_x12]; rfl) (by decide) rfl (fun ls hl => ?_)
      have h := bd_g e_x12 h
      refine lv_iload_n hx hb d_Integer_numberOfLeadingZeros_28 rfl (lv_at hl 1 rfl) ?_
      refine lv_bipush (v := 16) hx hb d_Integer_numberOfLeadingZeros_29 (by decide) ?_
      refine lv_iushr (v := ius p0 (16 : Int32)) hx hb d_Integer_numberOfLeadingZeros_31 rfl ?_
      refine lv_topi (fun x13 e_x13 => ?_)
      have h := bd_g e_x13 h
      refine lv_istore_n (lv' := [(0, .int x13), (1, .int x12)]) hx hb d_Integer_numberOfLeadingZeros_32 rfl hl (by decide) rfl (fun ls hl => ?_)
      exact s_Integer_numberOfLeadingZeros_33 cx hK hA hX x13 x12 H locs ls hP hD hS (lv_sub hl [0, 1] rfl) h
  · have h := if_f c10 h
    refine lv_iload_n hx hb d_Integer_numberOfLeadingZeros_4 rfl (lv_at hl 0 rfl) ?_
    refine lv_if_ne (tgt := 13) hx hb d_Integer_numberOfLeadingZeros_5 (by decide) (fun c14 => ?_) (fun c14 => ?_)
    · have h := if_f c14 h
      refine lv_iconst (v := 0) hx hb d_Integer_numberOfLeadingZeros_13 (by decide) ?_
      exact W.iret (v := (0 : Int32)) hx hb hr (fun t ht9 hW => ⟨⟨(0 : Int32), (), rfl, h, by rw [ht9]; exact hP, va_K.moved hW.alike hK, hD⟩, hS.F ht9⟩) hS.2.2 d_Integer_numberOfLeadingZeros_14 hlk
    · have h := if_t c14 h
      refine lv_bipush (v := 32) hx hb d_Integer_numberOfLeadingZeros_8 (by decide) ?_
      refine lv_goto (tgt := 14) hx hb d_Integer_numberOfLeadingZeros_10 (by decide) ?_
      exact W.iret (v := (32 : Int32)) hx hb hr (fun t ht9 hW => ⟨⟨(32 : Int32), (), rfl, h, by rw [ht9]; exact hP, va_K.moved hW.alike hK, hD⟩, hS.F ht9⟩) hS.2.2 d_Integer_numberOfLeadingZeros_14 hlk
set_option maxHeartbeats 4000000 in
set_option maxRecDepth 100000 in
theorem c_Integer_numberOfLeadingZeros (l : Launch) (dC : Nat → ClassId) (dI : Nat → Nat → Nat) (X : SXT) (sz : Nat) (p0 : Int32) (res : Int32) (hf : f_Integer_numberOfLeadingZeros p0 = some res) : Met l y_Integer_numberOfLeadingZeros (.code y_Integer_numberOfLeadingZeros b_Integer_numberOfLeadingZeros 2 (some .int) :: w0) ({ frames := 0, cells := 0, slots := 0, locals := 0 }) (va_Pc [.int p0] (gP (dC, dI) [] [] sz X)) (va_Qi (fun (r : Int32) (_ : Unit) => some r = some res) (gB (dC, dI) [] (va_A [] sz) (fun (u : Unit) => [])) (va_A [] sz)) 0 0 (va_A [] sz) := by
  refine Met.ofW (cc := b_Integer_numberOfLeadingZeros) (maxL := 2) (ret := (some .int)) (by decide) rfl ?_
  intro p e s m args below meth c s₁ B hml hv
  obtain ⟨rfl, hsz, hP, hK, hD0, hX⟩ := hv
  subst hsz
  have cx : cxx p s m ([.int p0] : List Value).toArray meth c b_Integer_numberOfLeadingZeros 2 (some .int) R_Integer := ⟨B.exec, B.bytes, B.returns, hml, findClass_of_methodNamed B.named, fun w9 hw => atoms_spec (ws := .code y_Integer_numberOfLeadingZeros b_Integer_numberOfLeadingZeros 2 (some .int) :: w0) B.pre w9 (List.mem_cons_of_mem _ hw), B.notSynchronized⟩
  have hD := hD0.self (sz := s.heap.size)
  generalize hAe : va_A [] s.heap.size = A at hD hX ⊢
  have hA : ∀ q : Nat, s.heap.size ≤ q → A q := fun q h => by rw [← hAe]; exact Or.inr h
  have hS : va_S A s.heap s.heap [] := va_S.rf
  have hl := lv_entry ([.int p0]) (n := 2) (Nat.le_of_ble_eq_true rfl)
  rw [lg_entry_eq]
  generalize (lg_sl ([.int p0]) ++ List.replicate (2 - (lg_sl ([.int p0])).length) Slot.unset).toArray = ls at hl ⊢
  have hl : lv_has ls 2 [(0, .int p0)] := hl
  exact s_Integer_numberOfLeadingZeros_e cx hK hA hX p0 s.heap [] ls hP hD hS hl hf
def f_Long_numberOfLeadingZeros (p0 : Int64) : Option (Int32) :=
  bd ((lus p0 (32 : Int32)).toInt32) fun x1 =>
  if x1 = 0 then
    bi1 (f_Integer_numberOfLeadingZeros (p0.toInt32)) fun r4 =>
    some ((32 : Int32) + r4)
  else
    bi1 (f_Integer_numberOfLeadingZeros x1) fun r3 =>
    some r3
set_option maxHeartbeats 4000000 in
set_option maxRecDepth 100000 in
theorem s_Long_numberOfLeadingZeros_e {p : Program} {l : Launch} {e : Env} {s : State} {m : MethodId} {args : Array Value} {below : List Frame} {meth : Method} {c : Code} {dC : Nat → ClassId} {dI : Nat → Nat → Nat} {A : Nat → Prop} {X : SXT} {res : Int32} (cx : cxx p s m args meth c b_Long_numberOfLeadingZeros 3 (some .int) R_Long) (hK : va_K (dC, dI) classes [] s) (hA : ∀ q, s.heap.size ≤ q → A q) (hX : SX X A s s.heap) : ∀ (p0 : Int64) (H : Heap) (locs : List Loc) (ls : Array Slot), va_P (dC, dI) classes [] H → va_D A [] → va_S A s.heap H locs → lv_has ls 3 [(0, .long p0)] → f_Long_numberOfLeadingZeros p0 = some res → W p l e ({ frames := 1, cells := 0, slots := 0, locals := 21 }) s m args below meth c H locs 0 0 (MQ below (va_Qi (fun (r : Int32) (_ : Unit) => some r = some res) (gB (dC, dI) [] A (fun (u : Unit) => [])) A) args s 0 0 A) (F0 m 0 ls []) := by
  intro p0 H locs ls hP hD hS hl h
  obtain ⟨hx, hb, hr, hml, hown, ht, hlk⟩ := id cx
  refine lv_lload_n hx hb d_Long_numberOfLeadingZeros_0 rfl (lv_at hl 0 rfl) ?_
  refine lv_bipush (v := 32) hx hb d_Long_numberOfLeadingZeros_1 (by decide) ?_
  refine lv_lushr (v := lus p0 (32 : Int32)) hx hb d_Long_numberOfLeadingZeros_3 rfl ?_
  refine lv_l2i (v := (lus p0 (32 : Int32)).toInt32) hx hb d_Long_numberOfLeadingZeros_4 rfl ?_
  refine lv_topi (fun x1 e_x1 => ?_)
  have h := bd_g e_x1 h
  refine lv_istore_n (lv' := [(2, .int x1), (0, .long p0)]) hx hb d_Long_numberOfLeadingZeros_5 rfl hl (by decide) rfl (fun ls hl => ?_)
  refine lv_iload_n hx hb d_Long_numberOfLeadingZeros_6 rfl (lv_at hl 0 rfl) ?_
  refine lv_if_ne (tgt := 21) hx hb d_Long_numberOfLeadingZeros_7 (by decide) (fun c2 => ?_) (fun c2 => ?_)
  · have h := if_f c2 h
    refine lv_iload_n hx hb d_Long_numberOfLeadingZeros_21 rfl (lv_at hl 0 rfl) ?_
    obtain ⟨r3, hf, h⟩ := bi1_x h
    refine clSi (D := (dC, dI)) (n := 1) (As := [.int x1]) ⟨hx, hb, hml, hown, ht⟩ (c_Integer_numberOfLeadingZeros l dC dI X  H.size x1 r3 hf) (gS q_71 q_72 q_73 q_74) (by decide +kernel) ⟨rfl, rfl, Nat.le_of_ble_eq_true rfl, Nat.le_of_ble_eq_true rfl⟩ hK hP hD hS hA hX [] [] [] rfl (wr := []) rfl (by decide) (by decide) (by decide) rfl rfl hl.1 rfl (lv_room (Nat.le_of_ble_eq_true rfl)) d_Long_numberOfLeadingZeros_22 ⟨Nat.zero_le _, Nat.zero_le _⟩ (fun r9 u9 H locs h9 hP hD hS => ?_)
    cases h9
    exact W.iret (v := r3) hx hb hr (fun t ht9 hW => ⟨⟨r3, (), rfl, h, by rw [ht9]; exact hP, va_K.moved hW.alike hK, hD⟩, hS.F ht9⟩) hS.2.2 d_Long_numberOfLeadingZeros_25 hlk
  · have h := if_t c2 h
    refine lv_bipush (v := 32) hx hb d_Long_numberOfLeadingZeros_10 (by decide) ?_
    refine lv_lload_n hx hb d_Long_numberOfLeadingZeros_12 rfl (lv_at hl 1 rfl) ?_
    refine lv_l2i (v := p0.toInt32) hx hb d_Long_numberOfLeadingZeros_13 rfl ?_
    obtain ⟨r4, hf, h⟩ := bi1_x h
    refine clSi (D := (dC, dI)) (n := 1) (As := [.int (p0.toInt32)]) ⟨hx, hb, hml, hown, ht⟩ (c_Integer_numberOfLeadingZeros l dC dI X  H.size (p0.toInt32) r4 hf) (gS q_71 q_72 q_73 q_74) (by decide +kernel) ⟨rfl, rfl, Nat.le_of_ble_eq_true rfl, Nat.le_of_ble_eq_true rfl⟩ hK hP hD hS hA hX [] [] [] rfl (wr := []) rfl (by decide) (by decide) (by decide) rfl rfl hl.1 rfl (lv_room (Nat.le_of_ble_eq_true rfl)) d_Long_numberOfLeadingZeros_14 ⟨Nat.zero_le _, Nat.zero_le _⟩ (fun r9 u9 H locs h9 hP hD hS => ?_)
    cases h9
    refine lv_iadd hx hb d_Long_numberOfLeadingZeros_17 ?_
    refine lv_goto (tgt := 25) hx hb d_Long_numberOfLeadingZeros_18 (by decide) ?_
    exact W.iret (v := ((32 : Int32) + r4)) hx hb hr (fun t ht9 hW => ⟨⟨((32 : Int32) + r4), (), rfl, h, by rw [ht9]; exact hP, va_K.moved hW.alike hK, hD⟩, hS.F ht9⟩) hS.2.2 d_Long_numberOfLeadingZeros_25 hlk
set_option maxHeartbeats 4000000 in
set_option maxRecDepth 100000 in
theorem c_Long_numberOfLeadingZeros (l : Launch) (dC : Nat → ClassId) (dI : Nat → Nat → Nat) (X : SXT) (sz : Nat) (p0 : Int64) (res : Int32) (hf : f_Long_numberOfLeadingZeros p0 = some res) : Met l y_Long_numberOfLeadingZeros (.code y_Long_numberOfLeadingZeros b_Long_numberOfLeadingZeros 3 (some .int) :: w0) ({ frames := 1, cells := 0, slots := 0, locals := 21 }) (va_Pc [.long p0] (gP (dC, dI) [] [] sz X)) (va_Qi (fun (r : Int32) (_ : Unit) => some r = some res) (gB (dC, dI) [] (va_A [] sz) (fun (u : Unit) => [])) (va_A [] sz)) 0 0 (va_A [] sz) := by
  refine Met.ofW (cc := b_Long_numberOfLeadingZeros) (maxL := 3) (ret := (some .int)) (by decide) rfl ?_
  intro p e s m args below meth c s₁ B hml hv
  obtain ⟨rfl, hsz, hP, hK, hD0, hX⟩ := hv
  subst hsz
  have cx : cxx p s m ([.long p0] : List Value).toArray meth c b_Long_numberOfLeadingZeros 3 (some .int) R_Long := ⟨B.exec, B.bytes, B.returns, hml, findClass_of_methodNamed B.named, fun w9 hw => atoms_spec (ws := .code y_Long_numberOfLeadingZeros b_Long_numberOfLeadingZeros 3 (some .int) :: w0) B.pre w9 (List.mem_cons_of_mem _ hw), B.notSynchronized⟩
  have hD := hD0.self (sz := s.heap.size)
  generalize hAe : va_A [] s.heap.size = A at hD hX ⊢
  have hA : ∀ q : Nat, s.heap.size ≤ q → A q := fun q h => by rw [← hAe]; exact Or.inr h
  have hS : va_S A s.heap s.heap [] := va_S.rf
  have hl := lv_entry ([.long p0]) (n := 3) (Nat.le_of_ble_eq_true rfl)
  rw [lg_entry_eq]
  generalize (lg_sl ([.long p0]) ++ List.replicate (3 - (lg_sl ([.long p0])).length) Slot.unset).toArray = ls at hl ⊢
  have hl : lv_has ls 3 [(0, .long p0)] := hl
  exact s_Long_numberOfLeadingZeros_e cx hK hA hX p0 s.heap [] ls hP hD hS hl hf
def f_N_bitsOf (p0 : Int64) : Option (Int32) :=
  bi1 (f_Long_numberOfLeadingZeros p0) fun r1 =>
  some ((64 : Int32) - r1)
set_option maxHeartbeats 4000000 in
set_option maxRecDepth 100000 in
theorem s_N_bitsOf_e {p : Program} {l : Launch} {e : Env} {s : State} {m : MethodId} {args : Array Value} {below : List Frame} {meth : Method} {c : Code} {dC : Nat → ClassId} {dI : Nat → Nat → Nat} {A : Nat → Prop} {X : SXT} {res : Int32} (cx : cxx p s m args meth c b_N_bitsOf 2 (some .int) R_N) (hK : va_K (dC, dI) classes [] s) (hA : ∀ q, s.heap.size ≤ q → A q) (hX : SX X A s s.heap) : ∀ (p0 : Int64) (H : Heap) (locs : List Loc) (ls : Array Slot), va_P (dC, dI) classes [] H → va_D A [] → va_S A s.heap H locs → lv_has ls 2 [(0, .long p0)] → f_N_bitsOf p0 = some res → W p l e ({ frames := 2, cells := 0, slots := 0, locals := 43 }) s m args below meth c H locs 0 0 (MQ below (va_Qi (fun (r : Int32) (_ : Unit) => some r = some res) (gB (dC, dI) [] A (fun (u : Unit) => [])) A) args s 0 0 A) (F0 m 0 ls []) := by
  intro p0 H locs ls hP hD hS hl h
  obtain ⟨hx, hb, hr, hml, hown, ht, hlk⟩ := id cx
  refine lv_bipush (v := 64) hx hb d_N_bitsOf_0 (by decide) ?_
  refine lv_lload_n hx hb d_N_bitsOf_2 rfl (lv_at hl 0 rfl) ?_
  obtain ⟨r1, hf, h⟩ := bi1_x h
  refine clSi (D := (dC, dI)) (n := 1) (As := [.long p0]) ⟨hx, hb, hml, hown, ht⟩ (c_Long_numberOfLeadingZeros l dC dI X  H.size p0 r1 hf) (gS q_75 q_76 q_77 q_78) (by decide +kernel) ⟨rfl, rfl, Nat.le_of_ble_eq_true rfl, Nat.le_of_ble_eq_true rfl⟩ hK hP hD hS hA hX [] [] [] rfl (wr := []) rfl (by decide) (by decide) (by decide) rfl rfl hl.1 rfl (lv_room (Nat.le_of_ble_eq_true rfl)) d_N_bitsOf_3 ⟨Nat.zero_le _, Nat.zero_le _⟩ (fun r9 u9 H locs h9 hP hD hS => ?_)
  cases h9
  refine lv_isub hx hb d_N_bitsOf_6 ?_
  exact W.iret (v := ((64 : Int32) - r1)) hx hb hr (fun t ht9 hW => ⟨⟨((64 : Int32) - r1), (), rfl, h, by rw [ht9]; exact hP, va_K.moved hW.alike hK, hD⟩, hS.F ht9⟩) hS.2.2 d_N_bitsOf_7 hlk
set_option maxHeartbeats 4000000 in
set_option maxRecDepth 100000 in
theorem c_N_bitsOf (l : Launch) (dC : Nat → ClassId) (dI : Nat → Nat → Nat) (X : SXT) (sz : Nat) (p0 : Int64) (res : Int32) (hf : f_N_bitsOf p0 = some res) : Met l y_N_bitsOf (.code y_N_bitsOf b_N_bitsOf 2 (some .int) :: w0) ({ frames := 2, cells := 0, slots := 0, locals := 43 }) (va_Pc [.long p0] (gP (dC, dI) [] [] sz X)) (va_Qi (fun (r : Int32) (_ : Unit) => some r = some res) (gB (dC, dI) [] (va_A [] sz) (fun (u : Unit) => [])) (va_A [] sz)) 0 0 (va_A [] sz) := by
  refine Met.ofW (cc := b_N_bitsOf) (maxL := 2) (ret := (some .int)) (by decide) rfl ?_
  intro p e s m args below meth c s₁ B hml hv
  obtain ⟨rfl, hsz, hP, hK, hD0, hX⟩ := hv
  subst hsz
  have cx : cxx p s m ([.long p0] : List Value).toArray meth c b_N_bitsOf 2 (some .int) R_N := ⟨B.exec, B.bytes, B.returns, hml, findClass_of_methodNamed B.named, fun w9 hw => atoms_spec (ws := .code y_N_bitsOf b_N_bitsOf 2 (some .int) :: w0) B.pre w9 (List.mem_cons_of_mem _ hw), B.notSynchronized⟩
  have hD := hD0.self (sz := s.heap.size)
  generalize hAe : va_A [] s.heap.size = A at hD hX ⊢
  have hA : ∀ q : Nat, s.heap.size ≤ q → A q := fun q h => by rw [← hAe]; exact Or.inr h
  have hS : va_S A s.heap s.heap [] := va_S.rf
  have hl := lv_entry ([.long p0]) (n := 2) (Nat.le_of_ble_eq_true rfl)
  rw [lg_entry_eq]
  generalize (lg_sl ([.long p0]) ++ List.replicate (2 - (lg_sl ([.long p0])).length) Slot.unset).toArray = ls at hl ⊢
  have hl : lv_has ls 2 [(0, .long p0)] := hl
  exact s_N_bitsOf_e cx hK hA hX p0 s.heap [] ls hP hD hS hl hf
def f_Integer_numberOfTrailingZeros_62 (y0 : Int32) (y1 : Int32) : Option (Int32) :=
  if y0 ≤ (4 : Int32) then
    some (y1 + (ius y0 (1 : Int32)))
  else
    bd (y1 + (2 : Int32)) fun x2 =>
    bd (ius y0 (2 : Int32)) fun x3 =>
    some (x2 + (ius x3 (1 : Int32)))
def f_Integer_numberOfTrailingZeros_49 (y0 : Int32) (y1 : Int32) : Option (Int32) :=
  if y0 ≤ (16 : Int32) then
    f_Integer_numberOfTrailingZeros_62 y0 y1
  else
    bd (y1 + (4 : Int32)) fun x5 =>
    bd (ius y0 (4 : Int32)) fun x6 =>
    f_Integer_numberOfTrailingZeros_62 x6 x5
def f_Integer_numberOfTrailingZeros_34 (y0 : Int32) (y1 : Int32) : Option (Int32) :=
  if y0 ≤ (256 : Int32) then
    f_Integer_numberOfTrailingZeros_49 y0 y1
  else
    bd (y1 + (8 : Int32)) fun x8 =>
    bd (ius y0 (8 : Int32)) fun x9 =>
    f_Integer_numberOfTrailingZeros_49 x9 x8
def f_Integer_numberOfTrailingZeros (p0 : Int32) : Option (Int32) :=
  bd ((p0 ^^^ (-1 : Int32)) &&& (p0 - (1 : Int32))) fun x10 =>
  if 0 < x10 then
    if x10 ≤ (65536 : Int32) then
      f_Integer_numberOfTrailingZeros_34 x10 (1 : Int32)
    else
      bd ((1 : Int32) + (16 : Int32)) fun x13 =>
      bd (ius x10 (16 : Int32)) fun x14 =>
      f_Integer_numberOfTrailingZeros_34 x14 x13
  else
    some (x10 &&& (32 : Int32))
set_option maxHeartbeats 4000000 in
set_option maxRecDepth 100000 in
theorem s_Integer_numberOfTrailingZeros_62 {p : Program} {l : Launch} {e : Env} {s : State} {m : MethodId} {args : Array Value} {below : List Frame} {meth : Method} {c : Code} {dC : Nat → ClassId} {dI : Nat → Nat → Nat} {A : Nat → Prop} {X : SXT} {res : Int32}  (cx : cxx p s m args meth c b_Integer_numberOfTrailingZeros 2 (some .int) R_Integer) (hK : va_K (dC, dI) classes [] s) (hA : ∀ q, s.heap.size ≤ q → A q) (hX : SX X A s s.heap)  : ∀ (y0 : Int32) (y1 : Int32) (H : Heap) (locs : List Loc) (ls : Array Slot), va_P (dC, dI) classes [] H → va_D A [] → va_S A s.heap H locs → lv_has ls 2 [(0, .int y0), (1, .int y1)] → f_Integer_numberOfTrailingZeros_62 y0 y1 = some res → W p l e ({ frames := 0, cells := 0, slots := 0, locals := 0 }) s m args below meth c H locs 0 0 (MQ below (va_Qi (fun (r : Int32) (_ : Unit) => some r = some res) (gB (dC, dI) [] A (fun (u : Unit) => [])) A) args s 0 0 A) (F0 m 62 ls []) := by
  intro y0 y1 H locs ls hP hD hS hl h
  obtain ⟨hx, hb, hr, hml, hown, ht, hlk⟩ := id cx
  refine lv_iload_n hx hb d_Integer_numberOfTrailingZeros_62 rfl (lv_at hl 0 rfl) ?_
  refine lv_iconst (v := 4) hx hb d_Integer_numberOfTrailingZeros_63 (by decide) ?_
  refine lv_icmp_le (tgt := 74) hx hb d_Integer_numberOfTrailingZeros_64 (by decide) (fun c1 => ?_) (fun c1 => ?_)
  · have h := if_t c1 h
    refine lv_iload_n hx hb d_Integer_numberOfTrailingZeros_74 rfl (lv_at hl 1 rfl) ?_
    refine lv_iload_n hx hb d_Integer_numberOfTrailingZeros_75 rfl (lv_at hl 0 rfl) ?_
    refine lv_iconst (v := 1) hx hb d_Integer_numberOfTrailingZeros_76 (by decide) ?_
    refine lv_iushr (v := ius y0 (1 : Int32)) hx hb d_Integer_numberOfTrailingZeros_77 rfl ?_
    refine lv_iadd hx hb d_Integer_numberOfTrailingZeros_78 ?_
    exact W.iret (v := (y1 + (ius y0 (1 : Int32)))) hx hb hr (fun t ht9 hW => ⟨⟨(y1 + (ius y0 (1 : Int32))), (), rfl, h, by rw [ht9]; exact hP, va_K.moved hW.alike hK, hD⟩, hS.F ht9⟩) hS.2.2 d_Integer_numberOfTrailingZeros_79 hlk
  · have h := if_f c1 h
    obtain ⟨x2, e_x2⟩ : ∃ y : Int32, y = y1 + (2 : Int32) := ⟨_, rfl⟩
    refine lv_iinc (v := x2) (lv' := [(1, .int x2), (0, .int y0)]) hx hb d_Integer_numberOfTrailingZeros_67 hl (k := 1) rfl (by rw [e_x2]; rfl) (by decide) rfl (fun ls hl => ?_)
    have h := bd_g e_x2 h
    refine lv_iload_n hx hb d_Integer_numberOfTrailingZeros_70 rfl (lv_at hl 1 rfl) ?_
    refine lv_iconst (v := 2) hx hb d_Integer_numberOfTrailingZeros_71 (by decide) ?_
    refine lv_iushr (v := ius y0 (2 : Int32)) hx hb d_Integer_numberOfTrailingZeros_72 rfl ?_
    refine lv_topi (fun x3 e_x3 => ?_)
    have h := bd_g e_x3 h
    refine lv_istore_n (lv' := [(0, .int x3), (1, .int x2)]) hx hb d_Integer_numberOfTrailingZeros_73 rfl hl (by decide) rfl (fun ls hl => ?_)
    refine lv_iload_n hx hb d_Integer_numberOfTrailingZeros_74 rfl (lv_at hl 1 rfl) ?_
    refine lv_iload_n hx hb d_Integer_numberOfTrailingZeros_75 rfl (lv_at hl 0 rfl) ?_
    refine lv_iconst (v := 1) hx hb d_Integer_numberOfTrailingZeros_76 (by decide) ?_
    refine lv_iushr (v := ius x3 (1 : Int32)) hx hb d_Integer_numberOfTrailingZeros_77 rfl ?_
    refine lv_iadd hx hb d_Integer_numberOfTrailingZeros_78 ?_
    exact W.iret (v := (x2 + (ius x3 (1 : Int32)))) hx hb hr (fun t ht9 hW => ⟨⟨(x2 + (ius x3 (1 : Int32))), (), rfl, h, by rw [ht9]; exact hP, va_K.moved hW.alike hK, hD⟩, hS.F ht9⟩) hS.2.2 d_Integer_numberOfTrailingZeros_79 hlk
set_option maxHeartbeats 4000000 in
set_option maxRecDepth 100000 in
theorem s_Integer_numberOfTrailingZeros_49 {p : Program} {l : Launch} {e : Env} {s : State} {m : MethodId} {args : Array Value} {below : List Frame} {meth : Method} {c : Code} {dC : Nat → ClassId} {dI : Nat → Nat → Nat} {A : Nat → Prop} {X : SXT} {res : Int32}  (cx : cxx p s m args meth c b_Integer_numberOfTrailingZeros 2 (some .int) R_Integer) (hK : va_K (dC, dI) classes [] s) (hA : ∀ q, s.heap.size ≤ q → A q) (hX : SX X A s s.heap)  : ∀ (y0 : Int32) (y1 : Int32) (H : Heap) (locs : List Loc) (ls : Array Slot), va_P (dC, dI) classes [] H → va_D A [] → va_S A s.heap H locs → lv_has ls 2 [(0, .int y0), (1, .int y1)] → f_Integer_numberOfTrailingZeros_49 y0 y1 = some res → W p l e ({ frames := 0, cells := 0, slots := 0, locals := 0 }) s m args below meth c H locs 0 0 (MQ below (va_Qi (fun (r : Int32) (_ : Unit) => some r = some res) (gB (dC, dI) [] A (fun (u : Unit) => [])) A) args s 0 0 A) (F0 m 49 ls []) := by
  intro y0 y1 H locs ls hP hD hS hl h
  obtain ⟨hx, hb, hr, hml, hown, ht, hlk⟩ := id cx
  refine lv_iload_n hx hb d_Integer_numberOfTrailingZeros_49 rfl (lv_at hl 0 rfl) ?_
  refine lv_bipush (v := 16) hx hb d_Integer_numberOfTrailingZeros_50 (by decide) ?_
  refine lv_icmp_le (tgt := 62) hx hb d_Integer_numberOfTrailingZeros_52 (by decide) (fun c4 => ?_) (fun c4 => ?_)
  · have h := if_t c4 h
    exact s_Integer_numberOfTrailingZeros_62 cx hK hA hX y0 y1 H locs ls hP hD hS (lv_sub hl [0, 1] rfl) h
  · have h := if_f c4 h
    obtain ⟨x5, e_x5⟩ : ∃ y : Int32, y = y1 + (4 : Int32) := ⟨_, rfl⟩
    refine lv_iinc (v := x5) (lv' := [(1, .int x5), (0, .int y0)]) hx hb d_Integer_numberOfTrailingZeros_55 hl (k := 1) rfl (by rw [e_x5]; rfl) (by decide) rfl (fun ls hl => ?_)
    have h := bd_g e_x5 h
    refine lv_iload_n hx hb d_Integer_numberOfTrailingZeros_58 rfl (lv_at hl 1 rfl) ?_
    refine lv_iconst (v := 4) hx hb d_Integer_numberOfTrailingZeros_59 (by decide) ?_
    refine lv_iushr (v := ius y0 (4 : Int32)) hx hb d_Integer_numberOfTrailingZeros_60 rfl ?_
    refine lv_topi (fun x6 e_x6 => ?_)
    have h := bd_g e_x6 h
    refine lv_istore_n (lv' := [(0, .int x6), (1, .int x5)]) hx hb d_Integer_numberOfTrailingZeros_61 rfl hl (by decide) rfl (fun ls hl => ?_)
    exact s_Integer_numberOfTrailingZeros_62 cx hK hA hX x6 x5 H locs ls hP hD hS (lv_sub hl [0, 1] rfl) h
set_option maxHeartbeats 4000000 in
set_option maxRecDepth 100000 in
theorem s_Integer_numberOfTrailingZeros_34 {p : Program} {l : Launch} {e : Env} {s : State} {m : MethodId} {args : Array Value} {below : List Frame} {meth : Method} {c : Code} {dC : Nat → ClassId} {dI : Nat → Nat → Nat} {A : Nat → Prop} {X : SXT} {res : Int32}  (cx : cxx p s m args meth c b_Integer_numberOfTrailingZeros 2 (some .int) R_Integer) (hK : va_K (dC, dI) classes [] s) (hA : ∀ q, s.heap.size ≤ q → A q) (hX : SX X A s s.heap)  : ∀ (y0 : Int32) (y1 : Int32) (H : Heap) (locs : List Loc) (ls : Array Slot), va_P (dC, dI) classes [] H → va_D A [] → va_S A s.heap H locs → lv_has ls 2 [(0, .int y0), (1, .int y1)] → f_Integer_numberOfTrailingZeros_34 y0 y1 = some res → W p l e ({ frames := 0, cells := 0, slots := 0, locals := 0 }) s m args below meth c H locs 0 0 (MQ below (va_Qi (fun (r : Int32) (_ : Unit) => some r = some res) (gB (dC, dI) [] A (fun (u : Unit) => [])) A) args s 0 0 A) (F0 m 34 ls []) := by
  intro y0 y1 H locs ls hP hD hS hl h
  obtain ⟨hx, hb, hr, hml, hown, ht, hlk⟩ := id cx
  refine lv_iload_n hx hb d_Integer_numberOfTrailingZeros_34 rfl (lv_at hl 0 rfl) ?_
  refine lv_sipush (v := 256) hx hb d_Integer_numberOfTrailingZeros_35 (by decide) ?_
  refine lv_icmp_le (tgt := 49) hx hb d_Integer_numberOfTrailingZeros_38 (by decide) (fun c7 => ?_) (fun c7 => ?_)
  · have h := if_t c7 h
    exact s_Integer_numberOfTrailingZeros_49 cx hK hA hX y0 y1 H locs ls hP hD hS (lv_sub hl [0, 1] rfl) h
  · have h := if_f c7 h
    obtain ⟨x8, e_x8⟩ : ∃ y : Int32, y = y1 + (8 : Int32) := ⟨_, rfl⟩
    refine lv_iinc (v := x8) (lv' := [(1, .int x8), (0, .int y0)]) hx hb d_Integer_numberOfTrailingZeros_41 hl (k := 1) rfl (by rw [e_x8]; rfl) (by decide) rfl (fun ls hl => ?_)
    have h := bd_g e_x8 h
    refine lv_iload_n hx hb d_Integer_numberOfTrailingZeros_44 rfl (lv_at hl 1 rfl) ?_
    refine lv_bipush (v := 8) hx hb d_Integer_numberOfTrailingZeros_45 (by decide) ?_
    refine lv_iushr (v := ius y0 (8 : Int32)) hx hb d_Integer_numberOfTrailingZeros_47 rfl ?_
    refine lv_topi (fun x9 e_x9 => ?_)
    have h := bd_g e_x9 h
    refine lv_istore_n (lv' := [(0, .int x9), (1, .int x8)]) hx hb d_Integer_numberOfTrailingZeros_48 rfl hl (by decide) rfl (fun ls hl => ?_)
    exact s_Integer_numberOfTrailingZeros_49 cx hK hA hX x9 x8 H locs ls hP hD hS (lv_sub hl [0, 1] rfl) h
set_option maxHeartbeats 4000000 in
set_option maxRecDepth 100000 in
theorem s_Integer_numberOfTrailingZeros_e {p : Program} {l : Launch} {e : Env} {s : State} {m : MethodId} {args : Array Value} {below : List Frame} {meth : Method} {c : Code} {dC : Nat → ClassId} {dI : Nat → Nat → Nat} {A : Nat → Prop} {X : SXT} {res : Int32} (cx : cxx p s m args meth c b_Integer_numberOfTrailingZeros 2 (some .int) R_Integer) (hK : va_K (dC, dI) classes [] s) (hA : ∀ q, s.heap.size ≤ q → A q) (hX : SX X A s s.heap) : ∀ (p0 : Int32) (H : Heap) (locs : List Loc) (ls : Array Slot), va_P (dC, dI) classes [] H → va_D A [] → va_S A s.heap H locs → lv_has ls 2 [(0, .int p0)] → f_Integer_numberOfTrailingZeros p0 = some res → W p l e ({ frames := 0, cells := 0, slots := 0, locals := 0 }) s m args below meth c H locs 0 0 (MQ below (va_Qi (fun (r : Int32) (_ : Unit) => some r = some res) (gB (dC, dI) [] A (fun (u : Unit) => [])) A) args s 0 0 A) (F0 m 0 ls []) := by
  intro p0 H locs ls hP hD hS hl h
  obtain ⟨hx, hb, hr, hml, hown, ht, hlk⟩ := id cx
  refine lv_iload_n hx hb d_Integer_numberOfTrailingZeros_0 rfl (lv_at hl 0 rfl) ?_
  refine lv_iconst (v := -1) hx hb d_Integer_numberOfTrailingZeros_1 (by decide) ?_
  refine lv_ixor hx hb d_Integer_numberOfTrailingZeros_2 ?_
  refine lv_iload_n hx hb d_Integer_numberOfTrailingZeros_3 rfl (lv_at hl 0 rfl) ?_
  refine lv_iconst (v := 1) hx hb d_Integer_numberOfTrailingZeros_4 (by decide) ?_
  refine lv_isub hx hb d_Integer_numberOfTrailingZeros_5 ?_
  refine lv_iand hx hb d_Integer_numberOfTrailingZeros_6 ?_
  refine lv_topi (fun x10 e_x10 => ?_)
  have h := bd_g e_x10 h
  refine lv_istore_n (lv' := [(0, .int x10)]) hx hb d_Integer_numberOfTrailingZeros_7 rfl hl (by decide) rfl (fun ls hl => ?_)
  refine lv_iload_n hx hb d_Integer_numberOfTrailingZeros_8 rfl (lv_at hl 0 rfl) ?_
  refine lv_if_gt (tgt := 17) hx hb d_Integer_numberOfTrailingZeros_9 (by decide) (fun c11 => ?_) (fun c11 => ?_)
  · have h := if_t c11 h
    refine lv_iconst (v := 1) hx hb d_Integer_numberOfTrailingZeros_17 (by decide) ?_
    refine lv_istore_n (lv' := [(1, .int (1 : Int32)), (0, .int x10)]) hx hb d_Integer_numberOfTrailingZeros_18 rfl hl (by decide) rfl (fun ls hl => ?_)
    refine lv_iload_n hx hb d_Integer_numberOfTrailingZeros_19 rfl (lv_at hl 1 rfl) ?_
    refine lv_ldcw (v := 65536) hx hb hown (ht _ q_70) d_Integer_numberOfTrailingZeros_20 ?_
    refine lv_icmp_le (tgt := 34) hx hb d_Integer_numberOfTrailingZeros_23 (by decide) (fun c12 => ?_) (fun c12 => ?_)
    · have h := if_t c12 h
      exact s_Integer_numberOfTrailingZeros_34 cx hK hA hX x10 (1 : Int32) H locs ls hP hD hS (lv_sub hl [1, 0] rfl) h
    · have h := if_f c12 h
      obtain ⟨x13, e_x13⟩ : ∃ y : Int32, y = (1 : Int32) + (16 : Int32) := ⟨_, rfl⟩
      refine lv_iinc (v := x13) (lv' := [(1, .int x13), (0, .int x10)]) hx hb d_Integer_numberOfTrailingZeros_26 hl (k := 0) rfl (by rw [e_x13]; rfl) (by decide) rfl (fun ls hl => ?_)
      have h := bd_g e_x13 h
      refine lv_iload_n hx hb d_Integer_numberOfTrailingZeros_29 rfl (lv_at hl 1 rfl) ?_
      refine lv_bipush (v := 16) hx hb d_Integer_numberOfTrailingZeros_30 (by decide) ?_
      refine lv_iushr (v := ius x10 (16 : Int32)) hx hb d_Integer_numberOfTrailingZeros_32 rfl ?_
      refine lv_topi (fun x14 e_x14 => ?_)
      have h := bd_g e_x14 h
      refine lv_istore_n (lv' := [(0, .int x14), (1, .int x13)]) hx hb d_Integer_numberOfTrailingZeros_33 rfl hl (by decide) rfl (fun ls hl => ?_)
      exact s_Integer_numberOfTrailingZeros_34 cx hK hA hX x14 x13 H locs ls hP hD hS (lv_sub hl [0, 1] rfl) h
  · have h := if_f c11 h
    refine lv_iload_n hx hb d_Integer_numberOfTrailingZeros_12 rfl (lv_at hl 0 rfl) ?_
    refine lv_bipush (v := 32) hx hb d_Integer_numberOfTrailingZeros_13 (by decide) ?_
    refine lv_iand hx hb d_Integer_numberOfTrailingZeros_15 ?_
    exact W.iret (v := (x10 &&& (32 : Int32))) hx hb hr (fun t ht9 hW => ⟨⟨(x10 &&& (32 : Int32)), (), rfl, h, by rw [ht9]; exact hP, va_K.moved hW.alike hK, hD⟩, hS.F ht9⟩) hS.2.2 d_Integer_numberOfTrailingZeros_16 hlk
set_option maxHeartbeats 4000000 in
set_option maxRecDepth 100000 in
theorem c_Integer_numberOfTrailingZeros (l : Launch) (dC : Nat → ClassId) (dI : Nat → Nat → Nat) (X : SXT) (sz : Nat) (p0 : Int32) (res : Int32) (hf : f_Integer_numberOfTrailingZeros p0 = some res) : Met l y_Integer_numberOfTrailingZeros (.code y_Integer_numberOfTrailingZeros b_Integer_numberOfTrailingZeros 2 (some .int) :: w0) ({ frames := 0, cells := 0, slots := 0, locals := 0 }) (va_Pc [.int p0] (gP (dC, dI) [] [] sz X)) (va_Qi (fun (r : Int32) (_ : Unit) => some r = some res) (gB (dC, dI) [] (va_A [] sz) (fun (u : Unit) => [])) (va_A [] sz)) 0 0 (va_A [] sz) := by
  refine Met.ofW (cc := b_Integer_numberOfTrailingZeros) (maxL := 2) (ret := (some .int)) (by decide) rfl ?_
  intro p e s m args below meth c s₁ B hml hv
  obtain ⟨rfl, hsz, hP, hK, hD0, hX⟩ := hv
  subst hsz
  have cx : cxx p s m ([.int p0] : List Value).toArray meth c b_Integer_numberOfTrailingZeros 2 (some .int) R_Integer := ⟨B.exec, B.bytes, B.returns, hml, findClass_of_methodNamed B.named, fun w9 hw => atoms_spec (ws := .code y_Integer_numberOfTrailingZeros b_Integer_numberOfTrailingZeros 2 (some .int) :: w0) B.pre w9 (List.mem_cons_of_mem _ hw), B.notSynchronized⟩
  have hD := hD0.self (sz := s.heap.size)
  generalize hAe : va_A [] s.heap.size = A at hD hX ⊢
  have hA : ∀ q : Nat, s.heap.size ≤ q → A q := fun q h => by rw [← hAe]; exact Or.inr h
  have hS : va_S A s.heap s.heap [] := va_S.rf
  have hl := lv_entry ([.int p0]) (n := 2) (Nat.le_of_ble_eq_true rfl)
  rw [lg_entry_eq]
  generalize (lg_sl ([.int p0]) ++ List.replicate (2 - (lg_sl ([.int p0])).length) Slot.unset).toArray = ls at hl ⊢
  have hl : lv_has ls 2 [(0, .int p0)] := hl
  exact s_Integer_numberOfTrailingZeros_e cx hK hA hX p0 s.heap [] ls hP hD hS hl hf
def f_Long_numberOfTrailingZeros (p0 : Int64) : Option (Int32) :=
  bd (p0.toInt32) fun x1 =>
  if x1 = 0 then
    bi1 (f_Integer_numberOfTrailingZeros ((lus p0 (32 : Int32)).toInt32)) fun r4 =>
    some ((32 : Int32) + r4)
  else
    bi1 (f_Integer_numberOfTrailingZeros x1) fun r3 =>
    some r3
set_option maxHeartbeats 4000000 in
set_option maxRecDepth 100000 in
theorem s_Long_numberOfTrailingZeros_e {p : Program} {l : Launch} {e : Env} {s : State} {m : MethodId} {args : Array Value} {below : List Frame} {meth : Method} {c : Code} {dC : Nat → ClassId} {dI : Nat → Nat → Nat} {A : Nat → Prop} {X : SXT} {res : Int32} (cx : cxx p s m args meth c b_Long_numberOfTrailingZeros 3 (some .int) R_Long) (hK : va_K (dC, dI) classes [] s) (hA : ∀ q, s.heap.size ≤ q → A q) (hX : SX X A s s.heap) : ∀ (p0 : Int64) (H : Heap) (locs : List Loc) (ls : Array Slot), va_P (dC, dI) classes [] H → va_D A [] → va_S A s.heap H locs → lv_has ls 3 [(0, .long p0)] → f_Long_numberOfTrailingZeros p0 = some res → W p l e ({ frames := 1, cells := 0, slots := 0, locals := 21 }) s m args below meth c H locs 0 0 (MQ below (va_Qi (fun (r : Int32) (_ : Unit) => some r = some res) (gB (dC, dI) [] A (fun (u : Unit) => [])) A) args s 0 0 A) (F0 m 0 ls []) := by
  intro p0 H locs ls hP hD hS hl h
  obtain ⟨hx, hb, hr, hml, hown, ht, hlk⟩ := id cx
  refine lv_lload_n hx hb d_Long_numberOfTrailingZeros_0 rfl (lv_at hl 0 rfl) ?_
  refine lv_l2i (v := p0.toInt32) hx hb d_Long_numberOfTrailingZeros_1 rfl ?_
  refine lv_topi (fun x1 e_x1 => ?_)
  have h := bd_g e_x1 h
  refine lv_istore_n (lv' := [(2, .int x1), (0, .long p0)]) hx hb d_Long_numberOfTrailingZeros_2 rfl hl (by decide) rfl (fun ls hl => ?_)
  refine lv_iload_n hx hb d_Long_numberOfTrailingZeros_3 rfl (lv_at hl 0 rfl) ?_
  refine lv_if_ne (tgt := 21) hx hb d_Long_numberOfTrailingZeros_4 (by decide) (fun c2 => ?_) (fun c2 => ?_)
  · have h := if_f c2 h
    refine lv_iload_n hx hb d_Long_numberOfTrailingZeros_21 rfl (lv_at hl 0 rfl) ?_
    obtain ⟨r3, hf, h⟩ := bi1_x h
    refine clSi (D := (dC, dI)) (n := 1) (As := [.int x1]) ⟨hx, hb, hml, hown, ht⟩ (c_Integer_numberOfTrailingZeros l dC dI X  H.size x1 r3 hf) (gS q_79 q_80 q_73 q_81) (by decide +kernel) ⟨rfl, rfl, Nat.le_of_ble_eq_true rfl, Nat.le_of_ble_eq_true rfl⟩ hK hP hD hS hA hX [] [] [] rfl (wr := []) rfl (by decide) (by decide) (by decide) rfl rfl hl.1 rfl (lv_room (Nat.le_of_ble_eq_true rfl)) d_Long_numberOfTrailingZeros_22 ⟨Nat.zero_le _, Nat.zero_le _⟩ (fun r9 u9 H locs h9 hP hD hS => ?_)
    cases h9
    exact W.iret (v := r3) hx hb hr (fun t ht9 hW => ⟨⟨r3, (), rfl, h, by rw [ht9]; exact hP, va_K.moved hW.alike hK, hD⟩, hS.F ht9⟩) hS.2.2 d_Long_numberOfTrailingZeros_25 hlk
  · have h := if_t c2 h
    refine lv_bipush (v := 32) hx hb d_Long_numberOfTrailingZeros_7 (by decide) ?_
    refine lv_lload_n hx hb d_Long_numberOfTrailingZeros_9 rfl (lv_at hl 1 rfl) ?_
    refine lv_bipush (v := 32) hx hb d_Long_numberOfTrailingZeros_10 (by decide) ?_
    refine lv_lushr (v := lus p0 (32 : Int32)) hx hb d_Long_numberOfTrailingZeros_12 rfl ?_
    refine lv_l2i (v := (lus p0 (32 : Int32)).toInt32) hx hb d_Long_numberOfTrailingZeros_13 rfl ?_
    obtain ⟨r4, hf, h⟩ := bi1_x h
    refine clSi (D := (dC, dI)) (n := 1) (As := [.int ((lus p0 (32 : Int32)).toInt32)]) ⟨hx, hb, hml, hown, ht⟩ (c_Integer_numberOfTrailingZeros l dC dI X  H.size ((lus p0 (32 : Int32)).toInt32) r4 hf) (gS q_79 q_80 q_73 q_81) (by decide +kernel) ⟨rfl, rfl, Nat.le_of_ble_eq_true rfl, Nat.le_of_ble_eq_true rfl⟩ hK hP hD hS hA hX [] [] [] rfl (wr := []) rfl (by decide) (by decide) (by decide) rfl rfl hl.1 rfl (lv_room (Nat.le_of_ble_eq_true rfl)) d_Long_numberOfTrailingZeros_14 ⟨Nat.zero_le _, Nat.zero_le _⟩ (fun r9 u9 H locs h9 hP hD hS => ?_)
    cases h9
    refine lv_iadd hx hb d_Long_numberOfTrailingZeros_17 ?_
    refine lv_goto (tgt := 25) hx hb d_Long_numberOfTrailingZeros_18 (by decide) ?_
    exact W.iret (v := ((32 : Int32) + r4)) hx hb hr (fun t ht9 hW => ⟨⟨((32 : Int32) + r4), (), rfl, h, by rw [ht9]; exact hP, va_K.moved hW.alike hK, hD⟩, hS.F ht9⟩) hS.2.2 d_Long_numberOfTrailingZeros_25 hlk
set_option maxHeartbeats 4000000 in
set_option maxRecDepth 100000 in
theorem c_Long_numberOfTrailingZeros (l : Launch) (dC : Nat → ClassId) (dI : Nat → Nat → Nat) (X : SXT) (sz : Nat) (p0 : Int64) (res : Int32) (hf : f_Long_numberOfTrailingZeros p0 = some res) : Met l y_Long_numberOfTrailingZeros (.code y_Long_numberOfTrailingZeros b_Long_numberOfTrailingZeros 3 (some .int) :: w0) ({ frames := 1, cells := 0, slots := 0, locals := 21 }) (va_Pc [.long p0] (gP (dC, dI) [] [] sz X)) (va_Qi (fun (r : Int32) (_ : Unit) => some r = some res) (gB (dC, dI) [] (va_A [] sz) (fun (u : Unit) => [])) (va_A [] sz)) 0 0 (va_A [] sz) := by
  refine Met.ofW (cc := b_Long_numberOfTrailingZeros) (maxL := 3) (ret := (some .int)) (by decide) rfl ?_
  intro p e s m args below meth c s₁ B hml hv
  obtain ⟨rfl, hsz, hP, hK, hD0, hX⟩ := hv
  subst hsz
  have cx : cxx p s m ([.long p0] : List Value).toArray meth c b_Long_numberOfTrailingZeros 3 (some .int) R_Long := ⟨B.exec, B.bytes, B.returns, hml, findClass_of_methodNamed B.named, fun w9 hw => atoms_spec (ws := .code y_Long_numberOfTrailingZeros b_Long_numberOfTrailingZeros 3 (some .int) :: w0) B.pre w9 (List.mem_cons_of_mem _ hw), B.notSynchronized⟩
  have hD := hD0.self (sz := s.heap.size)
  generalize hAe : va_A [] s.heap.size = A at hD hX ⊢
  have hA : ∀ q : Nat, s.heap.size ≤ q → A q := fun q h => by rw [← hAe]; exact Or.inr h
  have hS : va_S A s.heap s.heap [] := va_S.rf
  have hl := lv_entry ([.long p0]) (n := 3) (Nat.le_of_ble_eq_true rfl)
  rw [lg_entry_eq]
  generalize (lg_sl ([.long p0]) ++ List.replicate (3 - (lg_sl ([.long p0])).length) Slot.unset).toArray = ls at hl ⊢
  have hl : lv_has ls 3 [(0, .long p0)] := hl
  exact s_Long_numberOfTrailingZeros_e cx hK hA hX p0 s.heap [] ls hP hD hS hl hf
abbrev WS_Size_setInfinite (h_this : Nat)  (v_factor : Int64) (v_power : Int32) (v_infinite : Int32) : va_W := [(h_this, .inr (4, [.long v_factor, .int v_power, .int v_infinite]))]
def f_Size_setInfinite (v_factor : Int64) (v_power : Int32) (v_infinite : Int32) : Option (Int64 × Int32 × Int32) :=
  some ((0 : Int64), (0 : Int32), (1 : Int32))
set_option maxHeartbeats 4000000 in
set_option maxRecDepth 100000 in
theorem s_Size_setInfinite_e {p : Program} {l : Launch} {e : Env} {s : State} {m : MethodId} {args : Array Value} {below : List Frame} {meth : Method} {c : Code} {dC : Nat → ClassId} {dI : Nat → Nat → Nat} {A : Nat → Prop} {X : SXT} {h_this : Nat} {res : Int64 × Int32 × Int32} (cx : cxx p s m args meth c b_Size_setInfinite 1 none R_Size) (hK : va_K (dC, dI) classes [] s) (hA : ∀ q, s.heap.size ≤ q → A q) (hX : SX X A s s.heap) : ∀ (v_factor : Int64) (v_power : Int32) (v_infinite : Int32) (H : Heap) (locs : List Loc) (ls : Array Slot), va_P (dC, dI) classes (WS_Size_setInfinite h_this v_factor v_power v_infinite) H → va_D A (WS_Size_setInfinite h_this v_factor v_power v_infinite) → va_S A s.heap H locs → lv_has ls 1 [(0, .ref h_this)] → f_Size_setInfinite v_factor v_power v_infinite = some res → W p l e ({ frames := 0, cells := 0, slots := 0, locals := 0 }) s m args below meth c H locs 0 0 (MQ below (va_Qv (fun (u : Int64 × Int32 × Int32) => some u = some res) (gB (dC, dI) [] A (fun (u : Int64 × Int32 × Int32) => (WS_Size_setInfinite h_this u.1 u.2.1 u.2.2))) A) args s 0 0 A) (F0 m 0 ls []) := by
  intro v_factor v_power v_infinite H locs ls hP hD hS hl h
  obtain ⟨hx, hb, hr, hml, hown, ht, hlk⟩ := id cx
  refine lv_aload_n hx hb d_Size_setInfinite_0 rfl (lv_at hl 0 rfl) ?_
  refine lv_lconst (v := 0) hx hb d_Size_setInfinite_1 (by decide) ?_
  refine va_put (D := (dC, dI)) (ci := 4) (v := .long (0 : Int64)) (ty := .long) (C := R_Size) (T := F_Size) (N := 3) hx hb ht i_Size t_Size t_Size_ok n_Size hown hK hP hD hS 0 rfl rfl 0 (by decide) (ht _ q_82) (fun _ h9 => h9) rfl (t_Size_ok 0 (by decide)) rfl rfl (Nat.le_of_ble_eq_true rfl) d_Size_setInfinite_2 (fun H locs hP hD hS => ?_)
  have hP : va_P (dC, dI) classes (WS_Size_setInfinite h_this (0 : Int64) v_power v_infinite) H := hP
  have hD : va_D A (WS_Size_setInfinite h_this (0 : Int64) v_power v_infinite) := hD
  refine lv_aload_n hx hb d_Size_setInfinite_5 rfl (lv_at hl 0 rfl) ?_
  refine lv_iconst (v := 0) hx hb d_Size_setInfinite_6 (by decide) ?_
  refine va_put (D := (dC, dI)) (ci := 4) (v := .int (0 : Int32)) (ty := .int) (C := R_Size) (T := F_Size) (N := 3) hx hb ht i_Size t_Size t_Size_ok n_Size hown hK hP hD hS 0 rfl rfl 1 (by decide) (ht _ q_83) (fun _ h9 => h9) rfl (t_Size_ok 1 (by decide)) rfl rfl (Nat.le_of_ble_eq_true rfl) d_Size_setInfinite_7 (fun H locs hP hD hS => ?_)
  have hP : va_P (dC, dI) classes (WS_Size_setInfinite h_this (0 : Int64) (0 : Int32) v_infinite) H := hP
  have hD : va_D A (WS_Size_setInfinite h_this (0 : Int64) (0 : Int32) v_infinite) := hD
  refine lv_aload_n hx hb d_Size_setInfinite_10 rfl (lv_at hl 0 rfl) ?_
  refine lv_iconst (v := 1) hx hb d_Size_setInfinite_11 (by decide) ?_
  refine va_put (D := (dC, dI)) (ci := 4) (v := .int (1 : Int32)) (ty := .boolean) (C := R_Size) (T := F_Size) (N := 3) hx hb ht i_Size t_Size t_Size_ok n_Size hown hK hP hD hS 0 rfl rfl 2 (by decide) (ht _ q_84) (fun _ h9 => h9) rfl (t_Size_ok 2 (by decide)) rfl rfl (Nat.le_of_ble_eq_true rfl) d_Size_setInfinite_12 (fun H locs hP hD hS => ?_)
  have hP : va_P (dC, dI) classes (WS_Size_setInfinite h_this (0 : Int64) (0 : Int32) (1 : Int32)) H := hP
  have hD : va_D A (WS_Size_setInfinite h_this (0 : Int64) (0 : Int32) (1 : Int32)) := hD
  exact W.vret hx hb hr (fun t ht9 hW => ⟨⟨((0 : Int64), (0 : Int32), (1 : Int32)), rfl, h, by rw [ht9]; exact hP, va_K.moved hW.alike hK, hD⟩, hS.F ht9⟩) hS.2.2 d_Size_setInfinite_15 hlk
set_option maxHeartbeats 4000000 in
set_option maxRecDepth 100000 in
theorem c_Size_setInfinite (l : Launch) (dC : Nat → ClassId) (dI : Nat → Nat → Nat) (X : SXT) (h_this : Nat) (sz : Nat) (v_factor : Int64) (v_power : Int32) (v_infinite : Int32) (res : Int64 × Int32 × Int32) (hf : f_Size_setInfinite v_factor v_power v_infinite = some res) : Met l y_Size_setInfinite (.code y_Size_setInfinite b_Size_setInfinite 1 none :: w0) ({ frames := 0, cells := 0, slots := 0, locals := 0 }) (va_Pc [.ref h_this] (gP (dC, dI) (WS_Size_setInfinite h_this v_factor v_power v_infinite) [] sz X)) (va_Qv (fun (u : Int64 × Int32 × Int32) => some u = some res) (gB (dC, dI) [] (va_A (WS_Size_setInfinite h_this v_factor v_power v_infinite) sz) (fun (u : Int64 × Int32 × Int32) => (WS_Size_setInfinite h_this u.1 u.2.1 u.2.2))) (va_A (WS_Size_setInfinite h_this v_factor v_power v_infinite) sz)) 0 0 (va_A (WS_Size_setInfinite h_this v_factor v_power v_infinite) sz) := by
  refine Met.ofW (cc := b_Size_setInfinite) (maxL := 1) (ret := none) (by decide) rfl ?_
  intro p e s m args below meth c s₁ B hml hv
  obtain ⟨rfl, hsz, hP, hK, hD0, hX⟩ := hv
  subst hsz
  have cx : cxx p s m ([.ref h_this] : List Value).toArray meth c b_Size_setInfinite 1 none R_Size := ⟨B.exec, B.bytes, B.returns, hml, findClass_of_methodNamed B.named, fun w9 hw => atoms_spec (ws := .code y_Size_setInfinite b_Size_setInfinite 1 none :: w0) B.pre w9 (List.mem_cons_of_mem _ hw), B.notSynchronized⟩
  have hD := hD0.self (sz := s.heap.size)
  generalize hAe : va_A (WS_Size_setInfinite h_this v_factor v_power v_infinite) s.heap.size = A at hD hX ⊢
  have hA : ∀ q : Nat, s.heap.size ≤ q → A q := fun q h => by rw [← hAe]; exact Or.inr h
  have hS : va_S A s.heap s.heap [] := va_S.rf
  have hl := lv_entry ([.ref h_this]) (n := 1) (Nat.le_of_ble_eq_true rfl)
  rw [lg_entry_eq]
  generalize (lg_sl ([.ref h_this]) ++ List.replicate (1 - (lg_sl ([.ref h_this])).length) Slot.unset).toArray = ls at hl ⊢
  have hl : lv_has ls 1 [(0, .ref h_this)] := hl
  exact s_Size_setInfinite_e cx hK hA hX v_factor v_power v_infinite s.heap [] ls hP hD hS hl hf
abbrev WS_Size_setReduced (h_this : Nat)  (v_factor : Int64) (v_power : Int32) (v_infinite : Int32) : va_W := [(h_this, .inr (4, [.long v_factor, .int v_power, .int v_infinite]))]
def f_Size_setReduced_39 (v_factor : Int64) (v_power : Int32) (v_infinite : Int32) (z1 : Int32) : Option (Int64 × Int32 × Int32) :=
  bi1 (f_N_bitsOf v_factor) fun r1 =>
  if (r1 + z1) ≤ (1024 : Int32) then
    some (v_factor, z1, (0 : Int32))
  else
    bi3 (f_Size_setInfinite v_factor z1 (0 : Int32)) fun v3 v4 v5 =>
    some (v3, v4, v5)
def f_Size_setReduced_14 (v_factor : Int64) (v_power : Int32) (v_infinite : Int32) (y1 : Int64) (y3 : Int32) (z0 : Int32) : Option (Int64 × Int32 × Int32) :=
  bd (lus y1 z0) fun x6 =>
  if y1 = (0 : Int64) then
    f_Size_setReduced_39 x6 v_power v_infinite (0 : Int32)
  else
    f_Size_setReduced_39 x6 v_power v_infinite (y3 + z0)
def f_Size_setReduced (v_factor : Int64) (v_power : Int32) (v_infinite : Int32) (p1 : Int64) (p3 : Int32) : Option (Int64 × Int32 × Int32) :=
  if p1 = (0 : Int64) then
    f_Size_setReduced_14 v_factor v_power v_infinite p1 p3 (0 : Int32)
  else
    bi1 (f_Long_numberOfTrailingZeros p1) fun r9 =>
    f_Size_setReduced_14 v_factor v_power v_infinite p1 p3 r9
set_option maxHeartbeats 4000000 in
set_option maxRecDepth 100000 in
theorem s_Size_setReduced_39 {p : Program} {l : Launch} {e : Env} {s : State} {m : MethodId} {args : Array Value} {below : List Frame} {meth : Method} {c : Code} {dC : Nat → ClassId} {dI : Nat → Nat → Nat} {A : Nat → Prop} {X : SXT} {h_this : Nat} {res : Int64 × Int32 × Int32}  (cx : cxx p s m args meth c b_Size_setReduced 5 none R_Size) (hK : va_K (dC, dI) classes [] s) (hA : ∀ q, s.heap.size ≤ q → A q) (hX : SX X A s s.heap)  : ∀ (v_factor : Int64) (v_power : Int32) (v_infinite : Int32) (z1 : Int32) (H : Heap) (locs : List Loc) (ls : Array Slot), va_P (dC, dI) classes (WS_Size_setReduced h_this v_factor v_power v_infinite) H → va_D A (WS_Size_setReduced h_this v_factor v_power v_infinite) → va_S A s.heap H locs → lv_has ls 5 [(0, .ref h_this)] → f_Size_setReduced_39 v_factor v_power v_infinite z1 = some res → W p l e ({ frames := 3, cells := 0, slots := 0, locals := 64 }) s m args below meth c H locs 0 0 (MQ below (va_Qv (fun (u : Int64 × Int32 × Int32) => some u = some res) (gB (dC, dI) [] A (fun (u : Int64 × Int32 × Int32) => (WS_Size_setReduced h_this u.1 u.2.1 u.2.2))) A) args s 0 0 A) (F0 m 39 ls [.int z1, .ref h_this]) := by
  intro v_factor v_power v_infinite z1 H locs ls hP hD hS hl h
  obtain ⟨hx, hb, hr, hml, hown, ht, hlk⟩ := id cx
  refine va_put (D := (dC, dI)) (ci := 4) (v := .int z1) (ty := .int) (C := R_Size) (T := F_Size) (N := 3) hx hb ht i_Size t_Size t_Size_ok n_Size hown hK hP hD hS 0 rfl rfl 1 (by decide) (ht _ q_83) (fun _ h9 => h9) rfl (t_Size_ok 1 (by decide)) rfl rfl (Nat.le_of_ble_eq_true rfl) d_Size_setReduced_39 (fun H locs hP hD hS => ?_)
  have hP : va_P (dC, dI) classes (WS_Size_setReduced h_this v_factor z1 v_infinite) H := hP
  have hD : va_D A (WS_Size_setReduced h_this v_factor z1 v_infinite) := hD
  refine lv_aload_n hx hb d_Size_setReduced_42 rfl (lv_at hl 0 rfl) ?_
  refine lv_iconst (v := 0) hx hb d_Size_setReduced_43 (by decide) ?_
  refine va_put (D := (dC, dI)) (ci := 4) (v := .int (0 : Int32)) (ty := .boolean) (C := R_Size) (T := F_Size) (N := 3) hx hb ht i_Size t_Size t_Size_ok n_Size hown hK hP hD hS 0 rfl rfl 2 (by decide) (ht _ q_84) (fun _ h9 => h9) rfl (t_Size_ok 2 (by decide)) rfl rfl (Nat.le_of_ble_eq_true rfl) d_Size_setReduced_44 (fun H locs hP hD hS => ?_)
  have hP : va_P (dC, dI) classes (WS_Size_setReduced h_this v_factor z1 (0 : Int32)) H := hP
  have hD : va_D A (WS_Size_setReduced h_this v_factor z1 (0 : Int32)) := hD
  refine lv_aload_n hx hb d_Size_setReduced_47 rfl (lv_at hl 0 rfl) ?_
  refine va_get (D := (dC, dI)) (ci := 4) (v := .long v_factor) (C := R_Size) (T := F_Size) (N := 3) hx hb ht i_Size hown hK hP 0 rfl rfl 0 (by decide) (ht _ q_82) (fun _ h9 => h9) rfl d_Size_setReduced_48 ?_
  obtain ⟨r1, hf, h⟩ := bi1_x h
  refine clNi (D := (dC, dI)) (n := 1) (As := [.long v_factor]) ⟨hx, hb, hml, hown, ht⟩ (c_N_bitsOf l dC dI X  H.size v_factor r1 hf) (hX.nest 0 rfl) (gN q_85 q_86 q_87) (by decide +kernel) ⟨rfl, rfl, Nat.le_of_ble_eq_true rfl, Nat.le_of_ble_eq_true rfl⟩ hK hP hD hS hA hX [] [0] [] rfl (wr := [(h_this, .inr (4, [.long v_factor, .int z1, .int (0 : Int32)]))]) rfl (by decide) (by decide) (by decide) rfl rfl hl.1 rfl (lv_room (Nat.le_of_ble_eq_true rfl)) d_Size_setReduced_51 ⟨Nat.zero_le _, Nat.zero_le _⟩ (fun r9 u9 H locs h9 hP hD hS => ?_)
  cases h9
  have hP : va_P (dC, dI) classes (WS_Size_setReduced h_this v_factor z1 (0 : Int32)) H := hP.sub [0] rfl
  have hD : va_D A (WS_Size_setReduced h_this v_factor z1 (0 : Int32)) := hD.sub [0] (by decide) rfl
  refine lv_aload_n hx hb d_Size_setReduced_54 rfl (lv_at hl 0 rfl) ?_
  refine va_get (D := (dC, dI)) (ci := 4) (v := .int z1) (C := R_Size) (T := F_Size) (N := 3) hx hb ht i_Size hown hK hP 0 rfl rfl 1 (by decide) (ht _ q_83) (fun _ h9 => h9) rfl d_Size_setReduced_55 ?_
  refine lv_iadd hx hb d_Size_setReduced_58 ?_
  refine lv_sipush (v := 1024) hx hb d_Size_setReduced_59 (by decide) ?_
  refine lv_icmp_le (tgt := 69) hx hb d_Size_setReduced_62 (by decide) (fun c2 => ?_) (fun c2 => ?_)
  · have h := if_t c2 h
    exact W.vret hx hb hr (fun t ht9 hW => ⟨⟨(v_factor, z1, (0 : Int32)), rfl, h, by rw [ht9]; exact hP, va_K.moved hW.alike hK, hD⟩, hS.F ht9⟩) hS.2.2 d_Size_setReduced_69 hlk
  · have h := if_f c2 h
    refine lv_aload_n hx hb d_Size_setReduced_65 rfl (lv_at hl 0 rfl) ?_
    obtain ⟨v3, v4, v5, hf, h⟩ := bi3_x h
    refine clVv (D := (dC, dI)) (n := 0) (As := []) ⟨hx, hb, hml, hown, ht⟩ (c_Size_setInfinite l dC dI X h_this H.size v_factor z1 (0 : Int32) (v3, v4, v5) hf) (gV q_88 q_89 q_90 q_91 q_92) (by decide +kernel) ⟨rfl, rfl, Nat.le_of_ble_eq_true rfl, Nat.le_of_ble_eq_true rfl⟩ hK hP hD hS hA hX [0] [] [] rfl (wr := []) rfl (by decide) (by decide) (by decide) rfl (va_recv hK hP (ci := 4) (q0 := 0) rfl rfl) rfl hl.1 rfl (lv_room (Nat.le_of_ble_eq_true rfl)) d_Size_setReduced_66 ⟨Nat.zero_le _, Nat.zero_le _⟩ (fun u9 H locs h9 hP hD hS => ?_)
    cases h9
    have hP : va_P (dC, dI) classes (WS_Size_setReduced h_this v3 v4 v5) H := hP.sub [0] rfl
    have hD : va_D A (WS_Size_setReduced h_this v3 v4 v5) := hD.sub [0] (by decide) rfl
    exact W.vret hx hb hr (fun t ht9 hW => ⟨⟨(v3, v4, v5), rfl, h, by rw [ht9]; exact hP, va_K.moved hW.alike hK, hD⟩, hS.F ht9⟩) hS.2.2 d_Size_setReduced_69 hlk
set_option maxHeartbeats 4000000 in
set_option maxRecDepth 100000 in
theorem s_Size_setReduced_14 {p : Program} {l : Launch} {e : Env} {s : State} {m : MethodId} {args : Array Value} {below : List Frame} {meth : Method} {c : Code} {dC : Nat → ClassId} {dI : Nat → Nat → Nat} {A : Nat → Prop} {X : SXT} {h_this : Nat} {res : Int64 × Int32 × Int32}  (cx : cxx p s m args meth c b_Size_setReduced 5 none R_Size) (hK : va_K (dC, dI) classes [] s) (hA : ∀ q, s.heap.size ≤ q → A q) (hX : SX X A s s.heap)  : ∀ (v_factor : Int64) (v_power : Int32) (v_infinite : Int32) (y1 : Int64) (y3 : Int32) (z0 : Int32) (H : Heap) (locs : List Loc) (ls : Array Slot), va_P (dC, dI) classes (WS_Size_setReduced h_this v_factor v_power v_infinite) H → va_D A (WS_Size_setReduced h_this v_factor v_power v_infinite) → va_S A s.heap H locs → lv_has ls 5 [(0, .ref h_this), (1, .long y1), (3, .int y3)] → f_Size_setReduced_14 v_factor v_power v_infinite y1 y3 z0 = some res → W p l e ({ frames := 3, cells := 0, slots := 0, locals := 64 }) s m args below meth c H locs 0 0 (MQ below (va_Qv (fun (u : Int64 × Int32 × Int32) => some u = some res) (gB (dC, dI) [] A (fun (u : Int64 × Int32 × Int32) => (WS_Size_setReduced h_this u.1 u.2.1 u.2.2))) A) args s 0 0 A) (F0 m 14 ls [.int z0]) := by
  intro v_factor v_power v_infinite y1 y3 z0 H locs ls hP hD hS hl h
  obtain ⟨hx, hb, hr, hml, hown, ht, hlk⟩ := id cx
  refine lv_istore (lv' := [(4, .int z0), (0, .ref h_this), (1, .long y1), (3, .int y3)]) hx hb d_Size_setReduced_14 hl (by decide) rfl (fun ls hl => ?_)
  refine lv_aload_n hx hb d_Size_setReduced_16 rfl (lv_at hl 1 rfl) ?_
  refine lv_lload_n hx hb d_Size_setReduced_17 rfl (lv_at hl 2 rfl) ?_
  refine lv_iload hx hb d_Size_setReduced_18 (lv_at hl 0 rfl) ?_
  refine lv_lushr (v := lus y1 z0) hx hb d_Size_setReduced_20 rfl ?_
  refine lv_topl (fun x6 e_x6 => ?_)
  have h := bd_g e_x6 h
  refine va_put (D := (dC, dI)) (ci := 4) (v := .long x6) (ty := .long) (C := R_Size) (T := F_Size) (N := 3) hx hb ht i_Size t_Size t_Size_ok n_Size hown hK hP hD hS 0 rfl rfl 0 (by decide) (ht _ q_82) (fun _ h9 => h9) rfl (t_Size_ok 0 (by decide)) rfl rfl (Nat.le_of_ble_eq_true rfl) d_Size_setReduced_21 (fun H locs hP hD hS => ?_)
  have hP : va_P (dC, dI) classes (WS_Size_setReduced h_this x6 v_power v_infinite) H := hP
  have hD : va_D A (WS_Size_setReduced h_this x6 v_power v_infinite) := hD
  refine lv_aload_n hx hb d_Size_setReduced_24 rfl (lv_at hl 1 rfl) ?_
  refine lv_lload_n hx hb d_Size_setReduced_25 rfl (lv_at hl 2 rfl) ?_
  refine lv_lconst (v := 0) hx hb d_Size_setReduced_26 (by decide) ?_
  refine W.lcmp hx hb d_Size_setReduced_27 ?_
  refine lv_if_ne (tgt := 35) hx hb d_Size_setReduced_28 (by decide) (fun c7 => ?_) (fun c7 => ?_)
  · have c7 := fun h9 => c7 ((lg_cmp_eq _ _).mpr h9)
    have h := if_f c7 h
    refine lv_iload_n hx hb d_Size_setReduced_35 rfl (lv_at hl 3 rfl) ?_
    refine lv_iload hx hb d_Size_setReduced_36 (lv_at hl 0 rfl) ?_
    refine lv_iadd hx hb d_Size_setReduced_38 ?_
    exact s_Size_setReduced_39 cx hK hA hX x6 v_power v_infinite (y3 + z0) H locs ls hP hD hS (lv_sub hl [1] rfl) h
  · have c7 := (lg_cmp_eq _ _).mp c7
    have h := if_t c7 h
    refine lv_iconst (v := 0) hx hb d_Size_setReduced_31 (by decide) ?_
    refine lv_goto (tgt := 39) hx hb d_Size_setReduced_32 (by decide) ?_
    exact s_Size_setReduced_39 cx hK hA hX x6 v_power v_infinite (0 : Int32) H locs ls hP hD hS (lv_sub hl [1] rfl) h
set_option maxHeartbeats 4000000 in
set_option maxRecDepth 100000 in
theorem s_Size_setReduced_e {p : Program} {l : Launch} {e : Env} {s : State} {m : MethodId} {args : Array Value} {below : List Frame} {meth : Method} {c : Code} {dC : Nat → ClassId} {dI : Nat → Nat → Nat} {A : Nat → Prop} {X : SXT} {h_this : Nat} {res : Int64 × Int32 × Int32} (cx : cxx p s m args meth c b_Size_setReduced 5 none R_Size) (hK : va_K (dC, dI) classes [] s) (hA : ∀ q, s.heap.size ≤ q → A q) (hX : SX X A s s.heap) : ∀ (v_factor : Int64) (v_power : Int32) (v_infinite : Int32) (p1 : Int64) (p3 : Int32) (H : Heap) (locs : List Loc) (ls : Array Slot), va_P (dC, dI) classes (WS_Size_setReduced h_this v_factor v_power v_infinite) H → va_D A (WS_Size_setReduced h_this v_factor v_power v_infinite) → va_S A s.heap H locs → lv_has ls 5 [(0, .ref h_this), (1, .long p1), (3, .int p3)] → f_Size_setReduced v_factor v_power v_infinite p1 p3 = some res → W p l e ({ frames := 3, cells := 0, slots := 0, locals := 64 }) s m args below meth c H locs 0 0 (MQ below (va_Qv (fun (u : Int64 × Int32 × Int32) => some u = some res) (gB (dC, dI) [] A (fun (u : Int64 × Int32 × Int32) => (WS_Size_setReduced h_this u.1 u.2.1 u.2.2))) A) args s 0 0 A) (F0 m 0 ls []) := by
  intro v_factor v_power v_infinite p1 p3 H locs ls hP hD hS hl h
  obtain ⟨hx, hb, hr, hml, hown, ht, hlk⟩ := id cx
  refine lv_lload_n hx hb d_Size_setReduced_0 rfl (lv_at hl 1 rfl) ?_
  refine lv_lconst (v := 0) hx hb d_Size_setReduced_1 (by decide) ?_
  refine W.lcmp hx hb d_Size_setReduced_2 ?_
  refine lv_if_ne (tgt := 10) hx hb d_Size_setReduced_3 (by decide) (fun c8 => ?_) (fun c8 => ?_)
  · have c8 := fun h9 => c8 ((lg_cmp_eq _ _).mpr h9)
    have h := if_f c8 h
    refine lv_lload_n hx hb d_Size_setReduced_10 rfl (lv_at hl 1 rfl) ?_
    obtain ⟨r9, hf, h⟩ := bi1_x h
    refine clSi (D := (dC, dI)) (n := 1) (As := [.long p1]) ⟨hx, hb, hml, hown, ht⟩ (c_Long_numberOfTrailingZeros l dC dI X  H.size p1 r9 hf) (gS q_93 q_94 q_77 q_95) (by decide +kernel) ⟨rfl, rfl, Nat.le_of_ble_eq_true rfl, Nat.le_of_ble_eq_true rfl⟩ hK hP hD hS hA hX [] [0] [] rfl (wr := [(h_this, .inr (4, [.long v_factor, .int v_power, .int v_infinite]))]) rfl (by decide) (by decide) (by decide) rfl rfl hl.1 rfl (lv_room (Nat.le_of_ble_eq_true rfl)) d_Size_setReduced_11 ⟨Nat.zero_le _, Nat.zero_le _⟩ (fun r9 u9 H locs h9 hP hD hS => ?_)
    cases h9
    have hP : va_P (dC, dI) classes (WS_Size_setReduced h_this v_factor v_power v_infinite) H := hP.sub [0] rfl
    have hD : va_D A (WS_Size_setReduced h_this v_factor v_power v_infinite) := hD.sub [0] (by decide) rfl
    exact s_Size_setReduced_14 cx hK hA hX v_factor v_power v_infinite p1 p3 r9 H locs ls hP hD hS (lv_sub hl [0, 1, 2] rfl) h
  · have c8 := (lg_cmp_eq _ _).mp c8
    have h := if_t c8 h
    refine lv_iconst (v := 0) hx hb d_Size_setReduced_6 (by decide) ?_
    refine lv_goto (tgt := 14) hx hb d_Size_setReduced_7 (by decide) ?_
    exact s_Size_setReduced_14 cx hK hA hX v_factor v_power v_infinite p1 p3 (0 : Int32) H locs ls hP hD hS (lv_sub hl [0, 1, 2] rfl) h
set_option maxHeartbeats 4000000 in
set_option maxRecDepth 100000 in
theorem c_Size_setReduced (l : Launch) (dC : Nat → ClassId) (dI : Nat → Nat → Nat) (X : SXT) (h_this : Nat) (sz : Nat) (v_factor : Int64) (v_power : Int32) (v_infinite : Int32) (p1 : Int64) (p3 : Int32) (res : Int64 × Int32 × Int32) (hf : f_Size_setReduced v_factor v_power v_infinite p1 p3 = some res) : Met l y_Size_setReduced (.code y_Size_setReduced b_Size_setReduced 5 none :: w0) ({ frames := 3, cells := 0, slots := 0, locals := 64 }) (va_Pc [.ref h_this, .long p1, .int p3] (gP (dC, dI) (WS_Size_setReduced h_this v_factor v_power v_infinite) [] sz X)) (va_Qv (fun (u : Int64 × Int32 × Int32) => some u = some res) (gB (dC, dI) [] (va_A (WS_Size_setReduced h_this v_factor v_power v_infinite) sz) (fun (u : Int64 × Int32 × Int32) => (WS_Size_setReduced h_this u.1 u.2.1 u.2.2))) (va_A (WS_Size_setReduced h_this v_factor v_power v_infinite) sz)) 0 0 (va_A (WS_Size_setReduced h_this v_factor v_power v_infinite) sz) := by
  refine Met.ofW (cc := b_Size_setReduced) (maxL := 5) (ret := none) (by decide) rfl ?_
  intro p e s m args below meth c s₁ B hml hv
  obtain ⟨rfl, hsz, hP, hK, hD0, hX⟩ := hv
  subst hsz
  have cx : cxx p s m ([.ref h_this, .long p1, .int p3] : List Value).toArray meth c b_Size_setReduced 5 none R_Size := ⟨B.exec, B.bytes, B.returns, hml, findClass_of_methodNamed B.named, fun w9 hw => atoms_spec (ws := .code y_Size_setReduced b_Size_setReduced 5 none :: w0) B.pre w9 (List.mem_cons_of_mem _ hw), B.notSynchronized⟩
  have hD := hD0.self (sz := s.heap.size)
  generalize hAe : va_A (WS_Size_setReduced h_this v_factor v_power v_infinite) s.heap.size = A at hD hX ⊢
  have hA : ∀ q : Nat, s.heap.size ≤ q → A q := fun q h => by rw [← hAe]; exact Or.inr h
  have hS : va_S A s.heap s.heap [] := va_S.rf
  have hl := lv_entry ([.ref h_this, .long p1, .int p3]) (n := 5) (Nat.le_of_ble_eq_true rfl)
  rw [lg_entry_eq]
  generalize (lg_sl ([.ref h_this, .long p1, .int p3]) ++ List.replicate (5 - (lg_sl ([.ref h_this, .long p1, .int p3])).length) Slot.unset).toArray = ls at hl ⊢
  have hl : lv_has ls 5 [(0, .ref h_this), (1, .long p1), (3, .int p3)] := hl
  exact s_Size_setReduced_e cx hK hA hX v_factor v_power v_infinite p1 p3 s.heap [] ls hP hD hS hl hf
abbrev WS_Size_setNearest (h_this : Nat)  (v_factor : Int64) (v_power : Int32) (v_infinite : Int32) : va_W := [(h_this, .inr (4, [.long v_factor, .int v_power, .int v_infinite]))]
def f_Size_setNearest_124 (v_factor : Int64) (v_power : Int32) (v_infinite : Int32) (y4 : Int32) (y5 : Int32) (z1 : Int64) : Option (Int64 × Int32 × Int32) :=
  bi3 (f_Size_setReduced v_factor v_power v_infinite z1 (y4 + y5)) fun v1 v2 v3 =>
  some (v1, v2, v3)
def f_Size_setNearest_107 (v_factor : Int64) (v_power : Int32) (v_infinite : Int32) (y4 : Int32) (y5 : Int32) (y6 : Int64) (z0 : Int32) : Option (Int64 × Int32 × Int32) :=
  if z0 = 0 then
    f_Size_setNearest_124 v_factor v_power v_infinite y4 y5 y6
  else
    f_Size_setNearest_124 v_factor v_power v_infinite y4 y5 (y6 + (1 : Int64))
def f_Size_setNearest_106 (v_factor : Int64) (v_power : Int32) (v_infinite : Int32) (y4 : Int32) (y5 : Int32) (y6 : Int64) : Option (Int64 × Int32 × Int32) :=
  f_Size_setNearest_107 v_factor v_power v_infinite y4 y5 y6 (0 : Int32)
def f_Size_setNearest_102 (v_factor : Int64) (v_power : Int32) (v_infinite : Int32) (y4 : Int32) (y5 : Int32) (y6 : Int64) : Option (Int64 × Int32 × Int32) :=
  f_Size_setNearest_107 v_factor v_power v_infinite y4 y5 y6 (1 : Int32)
def f_Size_setNearest (v_factor : Int64) (v_power : Int32) (v_infinite : Int32) (p1 : Int64) (p3 : Int32) (p4 : Int32) : Option (Int64 × Int32 × Int32) :=
  bi1 (f_N_bitsOf p1) fun r5 =>
  bd (imx (r5 - (53 : Int32)) ((-1074 : Int32) - p4)) fun x6 =>
  if 0 < x6 then
    if x6 ≤ (63 : Int32) then
      bd (lus p1 x6) fun x9 =>
      bd (p1 &&& ((lsl (1 : Int64) x6) - (1 : Int64))) fun x10 =>
      bd (lsl (1 : Int64) (x6 - (1 : Int32))) fun x11 =>
      if x11 < x10 then
        f_Size_setNearest_102 v_factor v_power v_infinite p4 x6 x9
      else
        if x10 = x11 then
          if p3 = 0 then
            if (x9 &&& (1 : Int64)) = (1 : Int64) then
              f_Size_setNearest_102 v_factor v_power v_infinite p4 x6 x9
            else
              f_Size_setNearest_106 v_factor v_power v_infinite p4 x6 x9
          else
            f_Size_setNearest_102 v_factor v_power v_infinite p4 x6 x9
        else
          f_Size_setNearest_106 v_factor v_power v_infinite p4 x6 x9
    else
      bi3 (f_Size_setReduced v_factor v_power v_infinite (0 : Int64) (0 : Int32)) fun v16 v17 v18 =>
      some (v16, v17, v18)
  else
    bi3 (f_Size_setReduced v_factor v_power v_infinite p1 p4) fun v19 v20 v21 =>
    some (v19, v20, v21)
set_option maxHeartbeats 4000000 in
set_option maxRecDepth 100000 in
theorem s_Size_setNearest_124 {p : Program} {l : Launch} {e : Env} {s : State} {m : MethodId} {args : Array Value} {below : List Frame} {meth : Method} {c : Code} {dC : Nat → ClassId} {dI : Nat → Nat → Nat} {A : Nat → Prop} {X : SXT} {h_this : Nat} {res : Int64 × Int32 × Int32}  (cx : cxx p s m args meth c b_Size_setNearest 13 none R_Size) (hK : va_K (dC, dI) classes [] s) (hA : ∀ q, s.heap.size ≤ q → A q) (hX : SX X A s s.heap)  : ∀ (v_factor : Int64) (v_power : Int32) (v_infinite : Int32) (y4 : Int32) (y5 : Int32) (z1 : Int64) (H : Heap) (locs : List Loc) (ls : Array Slot), va_P (dC, dI) classes (WS_Size_setNearest h_this v_factor v_power v_infinite) H → va_D A (WS_Size_setNearest h_this v_factor v_power v_infinite) → va_S A s.heap H locs → lv_has ls 13 [(0, .ref h_this), (4, .int y4), (5, .int y5)] → f_Size_setNearest_124 v_factor v_power v_infinite y4 y5 z1 = some res → W p l e ({ frames := 4, cells := 0, slots := 0, locals := 88 }) s m args below meth c H locs 0 0 (MQ below (va_Qv (fun (u : Int64 × Int32 × Int32) => some u = some res) (gB (dC, dI) [] A (fun (u : Int64 × Int32 × Int32) => (WS_Size_setNearest h_this u.1 u.2.1 u.2.2))) A) args s 0 0 A) (F0 m 124 ls [.long z1, .ref h_this]) := by
  intro v_factor v_power v_infinite y4 y5 z1 H locs ls hP hD hS hl h
  obtain ⟨hx, hb, hr, hml, hown, ht, hlk⟩ := id cx
  refine lv_iload hx hb d_Size_setNearest_124 (lv_at hl 1 rfl) ?_
  refine lv_iload hx hb d_Size_setNearest_126 (lv_at hl 2 rfl) ?_
  refine lv_iadd hx hb d_Size_setNearest_128 ?_
  obtain ⟨v1, v2, v3, hf, h⟩ := bi3_x h
  refine clVv (D := (dC, dI)) (n := 2) (As := [.long z1, .int (y4 + y5)]) ⟨hx, hb, hml, hown, ht⟩ (c_Size_setReduced l dC dI X h_this H.size v_factor v_power v_infinite z1 (y4 + y5) (v1, v2, v3) hf) (gV q_96 q_97 q_98 q_91 q_99) (by decide +kernel) ⟨rfl, rfl, Nat.le_of_ble_eq_true rfl, Nat.le_of_ble_eq_true rfl⟩ hK hP hD hS hA hX [0] [] [] rfl (wr := []) rfl (by decide) (by decide) (by decide) rfl (va_recv hK hP (ci := 4) (q0 := 0) rfl rfl) rfl hl.1 rfl (lv_room (Nat.le_of_ble_eq_true rfl)) d_Size_setNearest_129 ⟨Nat.zero_le _, Nat.zero_le _⟩ (fun u9 H locs h9 hP hD hS => ?_)
  cases h9
  have hP : va_P (dC, dI) classes (WS_Size_setNearest h_this v1 v2 v3) H := hP.sub [0] rfl
  have hD : va_D A (WS_Size_setNearest h_this v1 v2 v3) := hD.sub [0] (by decide) rfl
  exact W.vret hx hb hr (fun t ht9 hW => ⟨⟨(v1, v2, v3), rfl, h, by rw [ht9]; exact hP, va_K.moved hW.alike hK, hD⟩, hS.F ht9⟩) hS.2.2 d_Size_setNearest_132 hlk
set_option maxHeartbeats 4000000 in
set_option maxRecDepth 100000 in
theorem s_Size_setNearest_107 {p : Program} {l : Launch} {e : Env} {s : State} {m : MethodId} {args : Array Value} {below : List Frame} {meth : Method} {c : Code} {dC : Nat → ClassId} {dI : Nat → Nat → Nat} {A : Nat → Prop} {X : SXT} {h_this : Nat} {res : Int64 × Int32 × Int32}  (cx : cxx p s m args meth c b_Size_setNearest 13 none R_Size) (hK : va_K (dC, dI) classes [] s) (hA : ∀ q, s.heap.size ≤ q → A q) (hX : SX X A s s.heap)  : ∀ (v_factor : Int64) (v_power : Int32) (v_infinite : Int32) (y4 : Int32) (y5 : Int32) (y6 : Int64) (z0 : Int32) (H : Heap) (locs : List Loc) (ls : Array Slot), va_P (dC, dI) classes (WS_Size_setNearest h_this v_factor v_power v_infinite) H → va_D A (WS_Size_setNearest h_this v_factor v_power v_infinite) → va_S A s.heap H locs → lv_has ls 13 [(0, .ref h_this), (4, .int y4), (5, .int y5), (6, .long y6)] → f_Size_setNearest_107 v_factor v_power v_infinite y4 y5 y6 z0 = some res → W p l e ({ frames := 4, cells := 0, slots := 0, locals := 88 }) s m args below meth c H locs 0 0 (MQ below (va_Qv (fun (u : Int64 × Int32 × Int32) => some u = some res) (gB (dC, dI) [] A (fun (u : Int64 × Int32 × Int32) => (WS_Size_setNearest h_this u.1 u.2.1 u.2.2))) A) args s 0 0 A) (F0 m 107 ls [.int z0]) := by
  intro v_factor v_power v_infinite y4 y5 y6 z0 H locs ls hP hD hS hl h
  obtain ⟨hx, hb, hr, hml, hown, ht, hlk⟩ := id cx
  refine lv_istore (lv' := [(12, .int z0), (0, .ref h_this), (4, .int y4), (5, .int y5), (6, .long y6)]) hx hb d_Size_setNearest_107 hl (by decide) rfl (fun ls hl => ?_)
  refine lv_aload_n hx hb d_Size_setNearest_109 rfl (lv_at hl 1 rfl) ?_
  refine lv_iload hx hb d_Size_setNearest_110 (lv_at hl 0 rfl) ?_
  refine lv_if_eq (tgt := 122) hx hb d_Size_setNearest_112 (by decide) (fun c4 => ?_) (fun c4 => ?_)
  · have h := if_t c4 h
    refine lv_lload hx hb d_Size_setNearest_122 (lv_at hl 4 rfl) ?_
    exact s_Size_setNearest_124 cx hK hA hX v_factor v_power v_infinite y4 y5 y6 H locs ls hP hD hS (lv_sub hl [1, 2, 3] rfl) h
  · have h := if_f c4 h
    refine lv_lload hx hb d_Size_setNearest_115 (lv_at hl 4 rfl) ?_
    refine lv_lconst (v := 1) hx hb d_Size_setNearest_117 (by decide) ?_
    refine lv_ladd hx hb d_Size_setNearest_118 ?_
    refine lv_goto (tgt := 124) hx hb d_Size_setNearest_119 (by decide) ?_
    exact s_Size_setNearest_124 cx hK hA hX v_factor v_power v_infinite y4 y5 (y6 + (1 : Int64)) H locs ls hP hD hS (lv_sub hl [1, 2, 3] rfl) h
set_option maxHeartbeats 4000000 in
set_option maxRecDepth 100000 in
theorem s_Size_setNearest_106 {p : Program} {l : Launch} {e : Env} {s : State} {m : MethodId} {args : Array Value} {below : List Frame} {meth : Method} {c : Code} {dC : Nat → ClassId} {dI : Nat → Nat → Nat} {A : Nat → Prop} {X : SXT} {h_this : Nat} {res : Int64 × Int32 × Int32}  (cx : cxx p s m args meth c b_Size_setNearest 13 none R_Size) (hK : va_K (dC, dI) classes [] s) (hA : ∀ q, s.heap.size ≤ q → A q) (hX : SX X A s s.heap)  : ∀ (v_factor : Int64) (v_power : Int32) (v_infinite : Int32) (y4 : Int32) (y5 : Int32) (y6 : Int64) (H : Heap) (locs : List Loc) (ls : Array Slot), va_P (dC, dI) classes (WS_Size_setNearest h_this v_factor v_power v_infinite) H → va_D A (WS_Size_setNearest h_this v_factor v_power v_infinite) → va_S A s.heap H locs → lv_has ls 13 [(0, .ref h_this), (4, .int y4), (5, .int y5), (6, .long y6)] → f_Size_setNearest_106 v_factor v_power v_infinite y4 y5 y6 = some res → W p l e ({ frames := 4, cells := 0, slots := 0, locals := 88 }) s m args below meth c H locs 0 0 (MQ below (va_Qv (fun (u : Int64 × Int32 × Int32) => some u = some res) (gB (dC, dI) [] A (fun (u : Int64 × Int32 × Int32) => (WS_Size_setNearest h_this u.1 u.2.1 u.2.2))) A) args s 0 0 A) (F0 m 106 ls []) := by
  intro v_factor v_power v_infinite y4 y5 y6 H locs ls hP hD hS hl h
  obtain ⟨hx, hb, hr, hml, hown, ht, hlk⟩ := id cx
  refine lv_iconst (v := 0) hx hb d_Size_setNearest_106 (by decide) ?_
  exact s_Size_setNearest_107 cx hK hA hX v_factor v_power v_infinite y4 y5 y6 (0 : Int32) H locs ls hP hD hS (lv_sub hl [0, 1, 2, 3] rfl) h
set_option maxHeartbeats 4000000 in
set_option maxRecDepth 100000 in
theorem s_Size_setNearest_102 {p : Program} {l : Launch} {e : Env} {s : State} {m : MethodId} {args : Array Value} {below : List Frame} {meth : Method} {c : Code} {dC : Nat → ClassId} {dI : Nat → Nat → Nat} {A : Nat → Prop} {X : SXT} {h_this : Nat} {res : Int64 × Int32 × Int32}  (cx : cxx p s m args meth c b_Size_setNearest 13 none R_Size) (hK : va_K (dC, dI) classes [] s) (hA : ∀ q, s.heap.size ≤ q → A q) (hX : SX X A s s.heap)  : ∀ (v_factor : Int64) (v_power : Int32) (v_infinite : Int32) (y4 : Int32) (y5 : Int32) (y6 : Int64) (H : Heap) (locs : List Loc) (ls : Array Slot), va_P (dC, dI) classes (WS_Size_setNearest h_this v_factor v_power v_infinite) H → va_D A (WS_Size_setNearest h_this v_factor v_power v_infinite) → va_S A s.heap H locs → lv_has ls 13 [(0, .ref h_this), (4, .int y4), (5, .int y5), (6, .long y6)] → f_Size_setNearest_102 v_factor v_power v_infinite y4 y5 y6 = some res → W p l e ({ frames := 4, cells := 0, slots := 0, locals := 88 }) s m args below meth c H locs 0 0 (MQ below (va_Qv (fun (u : Int64 × Int32 × Int32) => some u = some res) (gB (dC, dI) [] A (fun (u : Int64 × Int32 × Int32) => (WS_Size_setNearest h_this u.1 u.2.1 u.2.2))) A) args s 0 0 A) (F0 m 102 ls []) := by
  intro v_factor v_power v_infinite y4 y5 y6 H locs ls hP hD hS hl h
  obtain ⟨hx, hb, hr, hml, hown, ht, hlk⟩ := id cx
  refine lv_iconst (v := 1) hx hb d_Size_setNearest_102 (by decide) ?_
  refine lv_goto (tgt := 107) hx hb d_Size_setNearest_103 (by decide) ?_
  exact s_Size_setNearest_107 cx hK hA hX v_factor v_power v_infinite y4 y5 y6 (1 : Int32) H locs ls hP hD hS (lv_sub hl [0, 1, 2, 3] rfl) h
set_option maxHeartbeats 4000000 in
set_option maxRecDepth 100000 in
theorem s_Size_setNearest_e {p : Program} {l : Launch} {e : Env} {s : State} {m : MethodId} {args : Array Value} {below : List Frame} {meth : Method} {c : Code} {dC : Nat → ClassId} {dI : Nat → Nat → Nat} {A : Nat → Prop} {X : SXT} {h_this : Nat} {res : Int64 × Int32 × Int32} (cx : cxx p s m args meth c b_Size_setNearest 13 none R_Size) (hK : va_K (dC, dI) classes [] s) (hA : ∀ q, s.heap.size ≤ q → A q) (hX : SX X A s s.heap) : ∀ (v_factor : Int64) (v_power : Int32) (v_infinite : Int32) (p1 : Int64) (p3 : Int32) (p4 : Int32) (H : Heap) (locs : List Loc) (ls : Array Slot), va_P (dC, dI) classes (WS_Size_setNearest h_this v_factor v_power v_infinite) H → va_D A (WS_Size_setNearest h_this v_factor v_power v_infinite) → va_S A s.heap H locs → lv_has ls 13 [(0, .ref h_this), (1, .long p1), (3, .int p3), (4, .int p4)] → f_Size_setNearest v_factor v_power v_infinite p1 p3 p4 = some res → W p l e ({ frames := 4, cells := 0, slots := 0, locals := 88 }) s m args below meth c H locs 0 0 (MQ below (va_Qv (fun (u : Int64 × Int32 × Int32) => some u = some res) (gB (dC, dI) [] A (fun (u : Int64 × Int32 × Int32) => (WS_Size_setNearest h_this u.1 u.2.1 u.2.2))) A) args s 0 0 A) (F0 m 0 ls []) := by
  intro v_factor v_power v_infinite p1 p3 p4 H locs ls hP hD hS hl h
  obtain ⟨hx, hb, hr, hml, hown, ht, hlk⟩ := id cx
  refine lv_lload_n hx hb d_Size_setNearest_0 rfl (lv_at hl 1 rfl) ?_
  obtain ⟨r5, hf, h⟩ := bi1_x h
  refine clNi (D := (dC, dI)) (n := 1) (As := [.long p1]) ⟨hx, hb, hml, hown, ht⟩ (c_N_bitsOf l dC dI X  H.size p1 r5 hf) (hX.nest 0 rfl) (gN q_85 q_86 q_87) (by decide +kernel) ⟨rfl, rfl, Nat.le_of_ble_eq_true rfl, Nat.le_of_ble_eq_true rfl⟩ hK hP hD hS hA hX [] [0] [] rfl (wr := [(h_this, .inr (4, [.long v_factor, .int v_power, .int v_infinite]))]) rfl (by decide) (by decide) (by decide) rfl rfl hl.1 rfl (lv_room (Nat.le_of_ble_eq_true rfl)) d_Size_setNearest_1 ⟨Nat.zero_le _, Nat.zero_le _⟩ (fun r9 u9 H locs h9 hP hD hS => ?_)
  cases h9
  have hP : va_P (dC, dI) classes (WS_Size_setNearest h_this v_factor v_power v_infinite) H := hP.sub [0] rfl
  have hD : va_D A (WS_Size_setNearest h_this v_factor v_power v_infinite) := hD.sub [0] (by decide) rfl
  refine lv_bipush (v := 53) hx hb d_Size_setNearest_4 (by decide) ?_
  refine lv_isub hx hb d_Size_setNearest_6 ?_
  refine lv_sipush (v := -1074) hx hb d_Size_setNearest_7 (by decide) ?_
  refine lv_iload hx hb d_Size_setNearest_10 (lv_at hl 3 rfl) ?_
  refine lv_isub hx hb d_Size_setNearest_12 ?_
  refine va_mmax hx hb (hml.trans hl.1.symm) hown (ht _ q_100) (ht _ q_101) (ht _ q_40) (ht _ q_102) (Nat.le_of_ble_eq_true rfl) (Nat.le_of_ble_eq_true rfl) (Nat.zero_le _) (Nat.zero_le _) d_Size_setNearest_13 ?_
  refine W.eq (g2 := F0 m 16 ls (.int (imx (r5 - (53 : Int32)) ((-1074 : Int32) - p4)) :: [])) rfl ?_
  refine lv_topi (fun x6 e_x6 => ?_)
  have h := bd_g e_x6 h
  refine lv_istore (lv' := [(5, .int x6), (0, .ref h_this), (1, .long p1), (3, .int p3), (4, .int p4)]) hx hb d_Size_setNearest_16 hl (by decide) rfl (fun ls hl => ?_)
  refine lv_iload hx hb d_Size_setNearest_18 (lv_at hl 0 rfl) ?_
  refine lv_if_gt (tgt := 33) hx hb d_Size_setNearest_20 (by decide) (fun c7 => ?_) (fun c7 => ?_)
  · have h := if_t c7 h
    refine lv_iload hx hb d_Size_setNearest_33 (lv_at hl 0 rfl) ?_
    refine lv_bipush (v := 63) hx hb d_Size_setNearest_35 (by decide) ?_
    refine lv_icmp_le (tgt := 49) hx hb d_Size_setNearest_37 (by decide) (fun c8 => ?_) (fun c8 => ?_)
    · have h := if_t c8 h
      refine lv_lload_n hx hb d_Size_setNearest_49 rfl (lv_at hl 2 rfl) ?_
      refine lv_iload hx hb d_Size_setNearest_50 (lv_at hl 0 rfl) ?_
      refine lv_lushr (v := lus p1 x6) hx hb d_Size_setNearest_52 rfl ?_
      refine lv_topl (fun x9 e_x9 => ?_)
      have h := bd_g e_x9 h
      refine lv_lstore (lv' := [(6, .long x9), (5, .int x6), (0, .ref h_this), (1, .long p1), (3, .int p3), (4, .int p4)]) hx hb d_Size_setNearest_53 hl (by decide) rfl (fun ls hl => ?_)
      refine lv_lload_n hx hb d_Size_setNearest_55 rfl (lv_at hl 3 rfl) ?_
      refine lv_lconst (v := 1) hx hb d_Size_setNearest_56 (by decide) ?_
      refine lv_iload hx hb d_Size_setNearest_57 (lv_at hl 1 rfl) ?_
      refine lv_lshl (v := lsl (1 : Int64) x6) hx hb d_Size_setNearest_59 rfl ?_
      refine lv_lconst (v := 1) hx hb d_Size_setNearest_60 (by decide) ?_
      refine lv_lsub hx hb d_Size_setNearest_61 ?_
      refine lv_land hx hb d_Size_setNearest_62 ?_
      refine lv_topl (fun x10 e_x10 => ?_)
      have h := bd_g e_x10 h
      refine lv_lstore (lv' := [(8, .long x10), (6, .long x9), (5, .int x6), (0, .ref h_this), (1, .long p1), (3, .int p3), (4, .int p4)]) hx hb d_Size_setNearest_63 hl (by decide) rfl (fun ls hl => ?_)
      refine lv_lconst (v := 1) hx hb d_Size_setNearest_65 (by decide) ?_
      refine lv_iload hx hb d_Size_setNearest_66 (lv_at hl 2 rfl) ?_
      refine lv_iconst (v := 1) hx hb d_Size_setNearest_68 (by decide) ?_
      refine lv_isub hx hb d_Size_setNearest_69 ?_
      refine lv_lshl (v := lsl (1 : Int64) (x6 - (1 : Int32))) hx hb d_Size_setNearest_70 rfl ?_
      refine lv_topl (fun x11 e_x11 => ?_)
      have h := bd_g e_x11 h
      refine lv_lstore (lv' := [(10, .long x11), (8, .long x10), (6, .long x9), (5, .int x6), (0, .ref h_this), (1, .long p1), (3, .int p3), (4, .int p4)]) hx hb d_Size_setNearest_71 hl (by decide) rfl (fun ls hl => ?_)
      refine lv_lload hx hb d_Size_setNearest_73 (lv_at hl 1 rfl) ?_
      refine lv_lload hx hb d_Size_setNearest_75 (lv_at hl 0 rfl) ?_
      refine W.lcmp hx hb d_Size_setNearest_77 ?_
      refine lv_if_gt (tgt := 102) hx hb d_Size_setNearest_78 (by decide) (fun c12 => ?_) (fun c12 => ?_)
      · have c12 := (lg_cmp_gt _ _).mp c12
        have h := if_t c12 h
        exact s_Size_setNearest_102 cx hK hA hX v_factor v_power v_infinite p4 x6 x9 H locs ls hP hD hS (lv_sub hl [4, 7, 3, 2] rfl) h
      · have c12 := fun h9 => c12 ((lg_cmp_gt _ _).mpr h9)
        have h := if_f c12 h
        refine lv_lload hx hb d_Size_setNearest_81 (lv_at hl 1 rfl) ?_
        refine lv_lload hx hb d_Size_setNearest_83 (lv_at hl 0 rfl) ?_
        refine W.lcmp hx hb d_Size_setNearest_85 ?_
        refine lv_if_ne (tgt := 106) hx hb d_Size_setNearest_86 (by decide) (fun c13 => ?_) (fun c13 => ?_)
        · have c13 := fun h9 => c13 ((lg_cmp_eq _ _).mpr h9)
          have h := if_f c13 h
          exact s_Size_setNearest_106 cx hK hA hX v_factor v_power v_infinite p4 x6 x9 H locs ls hP hD hS (lv_sub hl [4, 7, 3, 2] rfl) h
        · have c13 := (lg_cmp_eq _ _).mp c13
          have h := if_t c13 h
          refine lv_iload_n hx hb d_Size_setNearest_89 rfl (lv_at hl 6 rfl) ?_
          refine lv_if_ne (tgt := 102) hx hb d_Size_setNearest_90 (by decide) (fun c14 => ?_) (fun c14 => ?_)
          · have h := if_f c14 h
            exact s_Size_setNearest_102 cx hK hA hX v_factor v_power v_infinite p4 x6 x9 H locs ls hP hD hS (lv_sub hl [4, 7, 3, 2] rfl) h
          · have h := if_t c14 h
            refine lv_lload hx hb d_Size_setNearest_93 (lv_at hl 2 rfl) ?_
            refine lv_lconst (v := 1) hx hb d_Size_setNearest_95 (by decide) ?_
            refine lv_land hx hb d_Size_setNearest_96 ?_
            refine lv_lconst (v := 1) hx hb d_Size_setNearest_97 (by decide) ?_
            refine W.lcmp hx hb d_Size_setNearest_98 ?_
            refine lv_if_ne (tgt := 106) hx hb d_Size_setNearest_99 (by decide) (fun c15 => ?_) (fun c15 => ?_)
            · have c15 := fun h9 => c15 ((lg_cmp_eq _ _).mpr h9)
              have h := if_f c15 h
              exact s_Size_setNearest_106 cx hK hA hX v_factor v_power v_infinite p4 x6 x9 H locs ls hP hD hS (lv_sub hl [4, 7, 3, 2] rfl) h
            · have c15 := (lg_cmp_eq _ _).mp c15
              have h := if_t c15 h
              exact s_Size_setNearest_102 cx hK hA hX v_factor v_power v_infinite p4 x6 x9 H locs ls hP hD hS (lv_sub hl [4, 7, 3, 2] rfl) h
    · have h := if_f c8 h
      refine lv_aload_n hx hb d_Size_setNearest_40 rfl (lv_at hl 1 rfl) ?_
      refine lv_lconst (v := 0) hx hb d_Size_setNearest_41 (by decide) ?_
      refine lv_iconst (v := 0) hx hb d_Size_setNearest_42 (by decide) ?_
      obtain ⟨v16, v17, v18, hf, h⟩ := bi3_x h
      refine clVv (D := (dC, dI)) (n := 2) (As := [.long (0 : Int64), .int (0 : Int32)]) ⟨hx, hb, hml, hown, ht⟩ (c_Size_setReduced l dC dI X h_this H.size v_factor v_power v_infinite (0 : Int64) (0 : Int32) (v16, v17, v18) hf) (gV q_96 q_97 q_98 q_91 q_99) (by decide +kernel) ⟨rfl, rfl, Nat.le_of_ble_eq_true rfl, Nat.le_of_ble_eq_true rfl⟩ hK hP hD hS hA hX [0] [] [] rfl (wr := []) rfl (by decide) (by decide) (by decide) rfl (va_recv hK hP (ci := 4) (q0 := 0) rfl rfl) rfl hl.1 rfl (lv_room (Nat.le_of_ble_eq_true rfl)) d_Size_setNearest_43 ⟨Nat.zero_le _, Nat.zero_le _⟩ (fun u9 H locs h9 hP hD hS => ?_)
      cases h9
      have hP : va_P (dC, dI) classes (WS_Size_setNearest h_this v16 v17 v18) H := hP.sub [0] rfl
      have hD : va_D A (WS_Size_setNearest h_this v16 v17 v18) := hD.sub [0] (by decide) rfl
      refine lv_goto (tgt := 132) hx hb d_Size_setNearest_46 (by decide) ?_
      exact W.vret hx hb hr (fun t ht9 hW => ⟨⟨(v16, v17, v18), rfl, h, by rw [ht9]; exact hP, va_K.moved hW.alike hK, hD⟩, hS.F ht9⟩) hS.2.2 d_Size_setNearest_132 hlk
  · have h := if_f c7 h
    refine lv_aload_n hx hb d_Size_setNearest_23 rfl (lv_at hl 1 rfl) ?_
    refine lv_lload_n hx hb d_Size_setNearest_24 rfl (lv_at hl 2 rfl) ?_
    refine lv_iload hx hb d_Size_setNearest_25 (lv_at hl 4 rfl) ?_
    obtain ⟨v19, v20, v21, hf, h⟩ := bi3_x h
    refine clVv (D := (dC, dI)) (n := 2) (As := [.long p1, .int p4]) ⟨hx, hb, hml, hown, ht⟩ (c_Size_setReduced l dC dI X h_this H.size v_factor v_power v_infinite p1 p4 (v19, v20, v21) hf) (gV q_96 q_97 q_98 q_91 q_99) (by decide +kernel) ⟨rfl, rfl, Nat.le_of_ble_eq_true rfl, Nat.le_of_ble_eq_true rfl⟩ hK hP hD hS hA hX [0] [] [] rfl (wr := []) rfl (by decide) (by decide) (by decide) rfl (va_recv hK hP (ci := 4) (q0 := 0) rfl rfl) rfl hl.1 rfl (lv_room (Nat.le_of_ble_eq_true rfl)) d_Size_setNearest_27 ⟨Nat.zero_le _, Nat.zero_le _⟩ (fun u9 H locs h9 hP hD hS => ?_)
    cases h9
    have hP : va_P (dC, dI) classes (WS_Size_setNearest h_this v19 v20 v21) H := hP.sub [0] rfl
    have hD : va_D A (WS_Size_setNearest h_this v19 v20 v21) := hD.sub [0] (by decide) rfl
    refine lv_goto (tgt := 132) hx hb d_Size_setNearest_30 (by decide) ?_
    exact W.vret hx hb hr (fun t ht9 hW => ⟨⟨(v19, v20, v21), rfl, h, by rw [ht9]; exact hP, va_K.moved hW.alike hK, hD⟩, hS.F ht9⟩) hS.2.2 d_Size_setNearest_132 hlk
set_option maxHeartbeats 4000000 in
set_option maxRecDepth 100000 in
theorem c_Size_setNearest (l : Launch) (dC : Nat → ClassId) (dI : Nat → Nat → Nat) (X : SXT) (h_this : Nat) (sz : Nat) (v_factor : Int64) (v_power : Int32) (v_infinite : Int32) (p1 : Int64) (p3 : Int32) (p4 : Int32) (res : Int64 × Int32 × Int32) (hf : f_Size_setNearest v_factor v_power v_infinite p1 p3 p4 = some res) : Met l y_Size_setNearest (.code y_Size_setNearest b_Size_setNearest 13 none :: w0) ({ frames := 4, cells := 0, slots := 0, locals := 88 }) (va_Pc [.ref h_this, .long p1, .int p3, .int p4] (gP (dC, dI) (WS_Size_setNearest h_this v_factor v_power v_infinite) [] sz X)) (va_Qv (fun (u : Int64 × Int32 × Int32) => some u = some res) (gB (dC, dI) [] (va_A (WS_Size_setNearest h_this v_factor v_power v_infinite) sz) (fun (u : Int64 × Int32 × Int32) => (WS_Size_setNearest h_this u.1 u.2.1 u.2.2))) (va_A (WS_Size_setNearest h_this v_factor v_power v_infinite) sz)) 0 0 (va_A (WS_Size_setNearest h_this v_factor v_power v_infinite) sz) := by
  refine Met.ofW (cc := b_Size_setNearest) (maxL := 13) (ret := none) (by decide) rfl ?_
  intro p e s m args below meth c s₁ B hml hv
  obtain ⟨rfl, hsz, hP, hK, hD0, hX⟩ := hv
  subst hsz
  have cx : cxx p s m ([.ref h_this, .long p1, .int p3, .int p4] : List Value).toArray meth c b_Size_setNearest 13 none R_Size := ⟨B.exec, B.bytes, B.returns, hml, findClass_of_methodNamed B.named, fun w9 hw => atoms_spec (ws := .code y_Size_setNearest b_Size_setNearest 13 none :: w0) B.pre w9 (List.mem_cons_of_mem _ hw), B.notSynchronized⟩
  have hD := hD0.self (sz := s.heap.size)
  generalize hAe : va_A (WS_Size_setNearest h_this v_factor v_power v_infinite) s.heap.size = A at hD hX ⊢
  have hA : ∀ q : Nat, s.heap.size ≤ q → A q := fun q h => by rw [← hAe]; exact Or.inr h
  have hS : va_S A s.heap s.heap [] := va_S.rf
  have hl := lv_entry ([.ref h_this, .long p1, .int p3, .int p4]) (n := 13) (Nat.le_of_ble_eq_true rfl)
  rw [lg_entry_eq]
  generalize (lg_sl ([.ref h_this, .long p1, .int p3, .int p4]) ++ List.replicate (13 - (lg_sl ([.ref h_this, .long p1, .int p3, .int p4])).length) Slot.unset).toArray = ls at hl ⊢
  have hl : lv_has ls 13 [(0, .ref h_this), (1, .long p1), (3, .int p3), (4, .int p4)] := hl
  exact s_Size_setNearest_e cx hK hA hX v_factor v_power v_infinite p1 p3 p4 s.heap [] ls hP hD hS hl hf

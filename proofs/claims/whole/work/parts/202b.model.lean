abbrev WS_M_wrong (g_this_above : Nat) (g_this_below : Nat) (g_this_limbs : Nat) (g_this_exact : Nat) (g_this_round : Nat) (g_this_out : Nat) (g_this_body : Nat) (h_this : Nat) (h_this_digit : Nat) (h_this_tape : Nat) (c_this_digit : ClassId) (c_this_tape : ClassId) (v_size : Int32) (v_kind : Int32) (v_number : Int64) (v_exponent : Int32) (v_aboveSize : Int32) (v_belowSize : Int32) (v_state : Int32) (v_digits : Int32) (v_behind : Int32) (v_power : Int32) (v_powerLess : Int32) (v_less : Int32) (v_plainDigits : Int32) (v_sixteen : Int32) (v_limbCount : Int32) (v_length : Int32) (v_point : Int32) (v_roundLength : Int32) (v_roundPoint : Int32) (v_written : Int32) (v_bodySize : Int32) (a_digit : (Nat → Int32)) (a_tape : (Nat → Int32)) : va_W := [(h_this, .inr (7, [.ref h_this_tape, .int v_size, .int v_kind, .long v_number, .int v_exponent, .ref g_this_above, .int v_aboveSize, .ref g_this_below, .int v_belowSize, .int v_state, .int v_digits, .ref h_this_digit, .int v_behind, .int v_power, .int v_powerLess, .int v_less, .int v_plainDigits, .int v_sixteen, .ref g_this_limbs, .int v_limbCount, .ref g_this_exact, .int v_length, .int v_point, .ref g_this_round, .int v_roundLength, .int v_roundPoint, .ref g_this_out, .int v_written, .ref g_this_body, .int v_bodySize])), (h_this_digit, .inl (c_this_digit, 1200, .inl a_digit)), (h_this_tape, .inl (c_this_tape, 1200, .inl a_tape))]
def f_M_wrong_100 (v_size : Int32) (v_state : Int32) (v_digits : Int32) (v_behind : Int32) (v_power : Int32) (v_powerLess : Int32) (v_less : Int32) (v_plainDigits : Int32) (v_sixteen : Int32) (a_digit : (Nat → Int32)) (a_tape : (Nat → Int32)) : Option (Int32 × Int32 × Int32 × Int32 × Int32 × Int32 × Int32 × Int32 × Int32 × (Nat → Int32)) :=
  bi1 (f_M_isWhole v_state) fun r1 =>
  if r1 = 0 then
    some (v_size, v_state, v_digits, v_behind, v_power, v_powerLess, v_less, v_plainDigits, v_sixteen, a_digit)
  else
    some ((-1 : Int32), v_state, v_digits, v_behind, v_power, v_powerLess, v_less, v_plainDigits, v_sixteen, a_digit)
def f_M_wrong_42b (k42 : Int32 → Int32 → Int32 → Int32 → Int32 → Int32 → Int32 → Int32 → Int32 → (Nat → Int32) → (Nat → Int32) → Int32 → Option (Int32 × Int32 × Int32 × Int32 × Int32 × Int32 × Int32 × Int32 × Int32 × (Nat → Int32))) (v_size : Int32) (v_state : Int32) (v_digits : Int32) (v_behind : Int32) (v_power : Int32) (v_powerLess : Int32) (v_less : Int32) (v_plainDigits : Int32) (v_sixteen : Int32) (a_digit : (Nat → Int32)) (a_tape : (Nat → Int32)) (y1 : Int32) : Option (Int32 × Int32 × Int32 × Int32 × Int32 × Int32 × Int32 × Int32 × Int32 × (Nat → Int32)) :=
  if v_size ≤ y1 then
    f_M_wrong_100 v_size v_state v_digits v_behind v_power v_powerLess v_less v_plainDigits v_sixteen a_digit a_tape
  else
    ck (gin y1 1200) <|
    bi1 (f_M_next v_state ((a_tape y1.toNatClampNeg) &&& (255 : Int32))) fun r5 =>
    if 0 ≤ r5 then
      ck (gin y1 1200) <|
      bi8 (f_M_note v_digits v_behind v_power v_powerLess v_less v_plainDigits v_sixteen a_digit r5 ((a_tape y1.toNatClampNeg) &&& (255 : Int32))) fun v8 v9 v10 v11 v12 v13 v14 a15 =>
      bd (y1 + (1 : Int32)) fun x16 =>
      k42 v_size r5 v8 v9 v10 v11 v12 v13 v14 a15 a_tape x16
    else
      some (y1, v_state, v_digits, v_behind, v_power, v_powerLess, v_less, v_plainDigits, v_sixteen, a_digit)
def f_M_wrong_42 : Nat → Int32 → Int32 → Int32 → Int32 → Int32 → Int32 → Int32 → Int32 → Int32 → (Nat → Int32) → (Nat → Int32) → Int32 → Option (Int32 × Int32 × Int32 × Int32 × Int32 × Int32 × Int32 × Int32 × Int32 × (Nat → Int32))
  | 0 => fun _ _ _ _ _ _ _ _ _ _ _ _ => none
  | n + 1 => fun v_size v_state v_digits v_behind v_power v_powerLess v_less v_plainDigits v_sixteen a_digit a_tape y1 => f_M_wrong_42b (f_M_wrong_42 n) v_size v_state v_digits v_behind v_power v_powerLess v_less v_plainDigits v_sixteen a_digit a_tape y1
def f_M_wrong (v_size : Int32) (v_state : Int32) (v_digits : Int32) (v_behind : Int32) (v_power : Int32) (v_powerLess : Int32) (v_less : Int32) (v_plainDigits : Int32) (v_sixteen : Int32) (a_digit : (Nat → Int32)) (a_tape : (Nat → Int32)) : Option (Int32 × Int32 × Int32 × Int32 × Int32 × Int32 × Int32 × Int32 × Int32 × (Nat → Int32)) :=
  f_M_wrong_42 fu v_size (0 : Int32) (0 : Int32) (0 : Int32) (0 : Int32) (0 : Int32) (0 : Int32) (1 : Int32) (0 : Int32) a_digit a_tape (0 : Int32)
set_option maxHeartbeats 4000000 in
set_option maxRecDepth 100000 in
theorem s_M_wrong_100 {p : Program} {l : Launch} {e : Env} {s : State} {m : MethodId} {args : Array Value} {below : List Frame} {meth : Method} {c : Code} {dC : Nat → ClassId} {dI : Nat → Nat → Nat} {A : Nat → Prop} {X : SXT} {g_this_above : Nat} {g_this_below : Nat} {g_this_limbs : Nat} {g_this_exact : Nat} {g_this_round : Nat} {g_this_out : Nat} {g_this_body : Nat} {h_this : Nat} {h_this_digit : Nat} {h_this_tape : Nat} {c_this_digit : ClassId} {c_this_tape : ClassId} {v_kind : Int32} {v_number : Int64} {v_exponent : Int32} {v_aboveSize : Int32} {v_belowSize : Int32} {v_limbCount : Int32} {v_length : Int32} {v_point : Int32} {v_roundLength : Int32} {v_roundPoint : Int32} {v_written : Int32} {v_bodySize : Int32} {res : Int32 × Int32 × Int32 × Int32 × Int32 × Int32 × Int32 × Int32 × Int32 × (Nat → Int32)}  (cx : cxx p s m args meth c b_M_wrong 3 (some .int) R_M) (hK : va_K (dC, dI) classes [(c_this_digit, .byte), (c_this_tape, .byte)] s) (hA : ∀ q, s.heap.size ≤ q → A q) (hX : SX X A s s.heap)  : ∀ (v_size : Int32) (v_state : Int32) (v_digits : Int32) (v_behind : Int32) (v_power : Int32) (v_powerLess : Int32) (v_less : Int32) (v_plainDigits : Int32) (v_sixteen : Int32) (a_digit : (Nat → Int32)) (a_tape : (Nat → Int32)) (H : Heap) (locs : List Loc) (ls : Array Slot), va_P (dC, dI) classes (WS_M_wrong g_this_above g_this_below g_this_limbs g_this_exact g_this_round g_this_out g_this_body h_this h_this_digit h_this_tape c_this_digit c_this_tape v_size v_kind v_number v_exponent v_aboveSize v_belowSize v_state v_digits v_behind v_power v_powerLess v_less v_plainDigits v_sixteen v_limbCount v_length v_point v_roundLength v_roundPoint v_written v_bodySize a_digit a_tape) H → va_D A (WS_M_wrong g_this_above g_this_below g_this_limbs g_this_exact g_this_round g_this_out g_this_body h_this h_this_digit h_this_tape c_this_digit c_this_tape v_size v_kind v_number v_exponent v_aboveSize v_belowSize v_state v_digits v_behind v_power v_powerLess v_less v_plainDigits v_sixteen v_limbCount v_length v_point v_roundLength v_roundPoint v_written v_bodySize a_digit a_tape) → va_S A s.heap H locs → lv_has ls 3 [(0, .ref h_this)] → f_M_wrong_100 v_size v_state v_digits v_behind v_power v_powerLess v_less v_plainDigits v_sixteen a_digit a_tape = some res → W p l e ({ frames := 3, cells := 0, slots := 0, locals := 63 }) s m args below meth c H locs 0 0 (MQ below (va_Qi (fun (r : Int32) (u : Int32 × Int32 × Int32 × Int32 × Int32 × Int32 × Int32 × Int32 × (Nat → Int32)) => some (r, u) = some res) (gB (dC, dI) [(c_this_digit, .byte), (c_this_tape, .byte)] A (fun (u : Int32 × Int32 × Int32 × Int32 × Int32 × Int32 × Int32 × Int32 × (Nat → Int32)) => (WS_M_wrong g_this_above g_this_below g_this_limbs g_this_exact g_this_round g_this_out g_this_body h_this h_this_digit h_this_tape c_this_digit c_this_tape v_size v_kind v_number v_exponent v_aboveSize v_belowSize u.1 u.2.1 u.2.2.1 u.2.2.2.1 u.2.2.2.2.1 u.2.2.2.2.2.1 u.2.2.2.2.2.2.1 u.2.2.2.2.2.2.2.1 v_limbCount v_length v_point v_roundLength v_roundPoint v_written v_bodySize u.2.2.2.2.2.2.2.2 a_tape))) A) args s 0 0 A) (F0 m 100 ls []) := by
  intro v_size v_state v_digits v_behind v_power v_powerLess v_less v_plainDigits v_sixteen a_digit a_tape H locs ls hP hD hS hl h
  obtain ⟨hx, hb, hr, hml, hown, ht, hlk⟩ := id cx
  refine lv_aload_n hx hb d_M_wrong_100 rfl (lv_at hl 0 rfl) ?_
  refine va_get (D := (dC, dI)) (ci := 7) (v := .int v_state) (C := R_M) (T := F_M) (N := 30) hx hb ht i_M hown hK hP 0 rfl rfl 9 (by decide) (ht _ q_531) (fun _ h9 => h9) rfl d_M_wrong_101 ?_
  obtain ⟨r1, hf, h⟩ := bi1_x h
  refine clSi (D := (dC, dI)) (n := 1) (As := [.int v_state]) ⟨hx, hb, hml, hown, ht⟩ (c_M_isWhole l dC dI X  H.size v_state r1 hf) (gS q_532 q_533 q_490 q_534) (by decide +kernel) ⟨rfl, rfl, Nat.le_of_ble_eq_true rfl, Nat.le_of_ble_eq_true rfl⟩ hK hP hD hS hA hX [] [0, 1, 2] [] rfl (wr := [(h_this, .inr (7, [.ref h_this_tape, .int v_size, .int v_kind, .long v_number, .int v_exponent, .ref g_this_above, .int v_aboveSize, .ref g_this_below, .int v_belowSize, .int v_state, .int v_digits, .ref h_this_digit, .int v_behind, .int v_power, .int v_powerLess, .int v_less, .int v_plainDigits, .int v_sixteen, .ref g_this_limbs, .int v_limbCount, .ref g_this_exact, .int v_length, .int v_point, .ref g_this_round, .int v_roundLength, .int v_roundPoint, .ref g_this_out, .int v_written, .ref g_this_body, .int v_bodySize])), (h_this_digit, .inl (c_this_digit, 1200, .inl a_digit)), (h_this_tape, .inl (c_this_tape, 1200, .inl a_tape))]) rfl (by decide) (by decide) (by decide) rfl rfl hl.1 rfl (lv_room (Nat.le_of_ble_eq_true rfl)) d_M_wrong_104 ⟨Nat.zero_le _, Nat.zero_le _⟩ (fun r9 u9 H locs h9 hP hD hS => ?_)
  cases h9
  have hP : va_P (dC, dI) classes (WS_M_wrong g_this_above g_this_below g_this_limbs g_this_exact g_this_round g_this_out g_this_body h_this h_this_digit h_this_tape c_this_digit c_this_tape v_size v_kind v_number v_exponent v_aboveSize v_belowSize v_state v_digits v_behind v_power v_powerLess v_less v_plainDigits v_sixteen v_limbCount v_length v_point v_roundLength v_roundPoint v_written v_bodySize a_digit a_tape) H := hP.sub [0, 1, 2] rfl
  have hD : va_D A (WS_M_wrong g_this_above g_this_below g_this_limbs g_this_exact g_this_round g_this_out g_this_body h_this h_this_digit h_this_tape c_this_digit c_this_tape v_size v_kind v_number v_exponent v_aboveSize v_belowSize v_state v_digits v_behind v_power v_powerLess v_less v_plainDigits v_sixteen v_limbCount v_length v_point v_roundLength v_roundPoint v_written v_bodySize a_digit a_tape) := hD.sub [0, 1, 2] (by decide) rfl
  refine lv_if_eq (tgt := 114) hx hb d_M_wrong_107 (by decide) (fun c2 => ?_) (fun c2 => ?_)
  · have h := if_t c2 h
    refine lv_aload_n hx hb d_M_wrong_114 rfl (lv_at hl 0 rfl) ?_
    refine va_get (D := (dC, dI)) (ci := 7) (v := .int v_size) (C := R_M) (T := F_M) (N := 30) hx hb ht i_M hown hK hP 0 rfl rfl 1 (by decide) (ht _ q_482) (fun _ h9 => h9) rfl d_M_wrong_115 ?_
    exact W.iret (v := v_size) hx hb hr (fun t ht9 hW => ⟨⟨v_size, (v_state, v_digits, v_behind, v_power, v_powerLess, v_less, v_plainDigits, v_sixteen, a_digit), rfl, h, by rw [ht9]; exact hP, va_K.moved hW.alike hK, hD⟩, hS.F ht9⟩) hS.2.2 d_M_wrong_118 hlk
  · have h := if_f c2 h
    refine lv_iconst (v := -1) hx hb d_M_wrong_110 (by decide) ?_
    refine lv_goto (tgt := 118) hx hb d_M_wrong_111 (by decide) ?_
    exact W.iret (v := (-1 : Int32)) hx hb hr (fun t ht9 hW => ⟨⟨(-1 : Int32), (v_state, v_digits, v_behind, v_power, v_powerLess, v_less, v_plainDigits, v_sixteen, a_digit), rfl, h, by rw [ht9]; exact hP, va_K.moved hW.alike hK, hD⟩, hS.F ht9⟩) hS.2.2 d_M_wrong_118 hlk
set_option maxHeartbeats 4000000 in
set_option maxRecDepth 100000 in
theorem s_M_wrong_42b {p : Program} {l : Launch} {e : Env} {s : State} {m : MethodId} {args : Array Value} {below : List Frame} {meth : Method} {c : Code} {dC : Nat → ClassId} {dI : Nat → Nat → Nat} {A : Nat → Prop} {X : SXT} {g_this_above : Nat} {g_this_below : Nat} {g_this_limbs : Nat} {g_this_exact : Nat} {g_this_round : Nat} {g_this_out : Nat} {g_this_body : Nat} {h_this : Nat} {h_this_digit : Nat} {h_this_tape : Nat} {c_this_digit : ClassId} {c_this_tape : ClassId} {v_kind : Int32} {v_number : Int64} {v_exponent : Int32} {v_aboveSize : Int32} {v_belowSize : Int32} {v_limbCount : Int32} {v_length : Int32} {v_point : Int32} {v_roundLength : Int32} {v_roundPoint : Int32} {v_written : Int32} {v_bodySize : Int32} {res : Int32 × Int32 × Int32 × Int32 × Int32 × Int32 × Int32 × Int32 × Int32 × (Nat → Int32)} {k42 : Int32 → Int32 → Int32 → Int32 → Int32 → Int32 → Int32 → Int32 → Int32 → (Nat → Int32) → (Nat → Int32) → Int32 → Option (Int32 × Int32 × Int32 × Int32 × Int32 × Int32 × Int32 × Int32 × Int32 × (Nat → Int32))} (cx : cxx p s m args meth c b_M_wrong 3 (some .int) R_M) (hK : va_K (dC, dI) classes [(c_this_digit, .byte), (c_this_tape, .byte)] s) (hA : ∀ q, s.heap.size ≤ q → A q) (hX : SX X A s s.heap) (hk42 : ∀ (v_size : Int32) (v_state : Int32) (v_digits : Int32) (v_behind : Int32) (v_power : Int32) (v_powerLess : Int32) (v_less : Int32) (v_plainDigits : Int32) (v_sixteen : Int32) (a_digit : (Nat → Int32)) (a_tape : (Nat → Int32)) (y1 : Int32) (H : Heap) (locs : List Loc) (ls : Array Slot), va_P (dC, dI) classes (WS_M_wrong g_this_above g_this_below g_this_limbs g_this_exact g_this_round g_this_out g_this_body h_this h_this_digit h_this_tape c_this_digit c_this_tape v_size v_kind v_number v_exponent v_aboveSize v_belowSize v_state v_digits v_behind v_power v_powerLess v_less v_plainDigits v_sixteen v_limbCount v_length v_point v_roundLength v_roundPoint v_written v_bodySize a_digit a_tape) H → va_D A (WS_M_wrong g_this_above g_this_below g_this_limbs g_this_exact g_this_round g_this_out g_this_body h_this h_this_digit h_this_tape c_this_digit c_this_tape v_size v_kind v_number v_exponent v_aboveSize v_belowSize v_state v_digits v_behind v_power v_powerLess v_less v_plainDigits v_sixteen v_limbCount v_length v_point v_roundLength v_roundPoint v_written v_bodySize a_digit a_tape) → va_S A s.heap H locs → lv_has ls 3 [(0, .ref h_this), (1, .int y1)] → k42 v_size v_state v_digits v_behind v_power v_powerLess v_less v_plainDigits v_sixteen a_digit a_tape y1 = some res → W p l e ({ frames := 3, cells := 0, slots := 0, locals := 63 }) s m args below meth c H locs 0 0 (MQ below (va_Qi (fun (r : Int32) (u : Int32 × Int32 × Int32 × Int32 × Int32 × Int32 × Int32 × Int32 × (Nat → Int32)) => some (r, u) = some res) (gB (dC, dI) [(c_this_digit, .byte), (c_this_tape, .byte)] A (fun (u : Int32 × Int32 × Int32 × Int32 × Int32 × Int32 × Int32 × Int32 × (Nat → Int32)) => (WS_M_wrong g_this_above g_this_below g_this_limbs g_this_exact g_this_round g_this_out g_this_body h_this h_this_digit h_this_tape c_this_digit c_this_tape v_size v_kind v_number v_exponent v_aboveSize v_belowSize u.1 u.2.1 u.2.2.1 u.2.2.2.1 u.2.2.2.2.1 u.2.2.2.2.2.1 u.2.2.2.2.2.2.1 u.2.2.2.2.2.2.2.1 v_limbCount v_length v_point v_roundLength v_roundPoint v_written v_bodySize u.2.2.2.2.2.2.2.2 a_tape))) A) args s 0 0 A) (F0 m 42 ls [])) : ∀ (v_size : Int32) (v_state : Int32) (v_digits : Int32) (v_behind : Int32) (v_power : Int32) (v_powerLess : Int32) (v_less : Int32) (v_plainDigits : Int32) (v_sixteen : Int32) (a_digit : (Nat → Int32)) (a_tape : (Nat → Int32)) (y1 : Int32) (H : Heap) (locs : List Loc) (ls : Array Slot), va_P (dC, dI) classes (WS_M_wrong g_this_above g_this_below g_this_limbs g_this_exact g_this_round g_this_out g_this_body h_this h_this_digit h_this_tape c_this_digit c_this_tape v_size v_kind v_number v_exponent v_aboveSize v_belowSize v_state v_digits v_behind v_power v_powerLess v_less v_plainDigits v_sixteen v_limbCount v_length v_point v_roundLength v_roundPoint v_written v_bodySize a_digit a_tape) H → va_D A (WS_M_wrong g_this_above g_this_below g_this_limbs g_this_exact g_this_round g_this_out g_this_body h_this h_this_digit h_this_tape c_this_digit c_this_tape v_size v_kind v_number v_exponent v_aboveSize v_belowSize v_state v_digits v_behind v_power v_powerLess v_less v_plainDigits v_sixteen v_limbCount v_length v_point v_roundLength v_roundPoint v_written v_bodySize a_digit a_tape) → va_S A s.heap H locs → lv_has ls 3 [(0, .ref h_this), (1, .int y1)] → f_M_wrong_42b k42 v_size v_state v_digits v_behind v_power v_powerLess v_less v_plainDigits v_sixteen a_digit a_tape y1 = some res → W p l e ({ frames := 3, cells := 0, slots := 0, locals := 63 }) s m args below meth c H locs 0 0 (MQ below (va_Qi (fun (r : Int32) (u : Int32 × Int32 × Int32 × Int32 × Int32 × Int32 × Int32 × Int32 × (Nat → Int32)) => some (r, u) = some res) (gB (dC, dI) [(c_this_digit, .byte), (c_this_tape, .byte)] A (fun (u : Int32 × Int32 × Int32 × Int32 × Int32 × Int32 × Int32 × Int32 × (Nat → Int32)) => (WS_M_wrong g_this_above g_this_below g_this_limbs g_this_exact g_this_round g_this_out g_this_body h_this h_this_digit h_this_tape c_this_digit c_this_tape v_size v_kind v_number v_exponent v_aboveSize v_belowSize u.1 u.2.1 u.2.2.1 u.2.2.2.1 u.2.2.2.2.1 u.2.2.2.2.2.1 u.2.2.2.2.2.2.1 u.2.2.2.2.2.2.2.1 v_limbCount v_length v_point v_roundLength v_roundPoint v_written v_bodySize u.2.2.2.2.2.2.2.2 a_tape))) A) args s 0 0 A) (F0 m 42 ls []) := by
  intro v_size v_state v_digits v_behind v_power v_powerLess v_less v_plainDigits v_sixteen a_digit a_tape y1 H locs ls hP hD hS hl h
  obtain ⟨hx, hb, hr, hml, hown, ht, hlk⟩ := id cx
  refine lv_iload_n hx hb d_M_wrong_42 rfl (lv_at hl 1 rfl) ?_
  refine lv_aload_n hx hb d_M_wrong_43 rfl (lv_at hl 0 rfl) ?_
  refine va_get (D := (dC, dI)) (ci := 7) (v := .int v_size) (C := R_M) (T := F_M) (N := 30) hx hb ht i_M hown hK hP 0 rfl rfl 1 (by decide) (ht _ q_482) (fun _ h9 => h9) rfl d_M_wrong_44 ?_
  refine lv_icmp_ge (tgt := 100) hx hb d_M_wrong_47 (by decide) (fun c3 => ?_) (fun c3 => ?_)
  · have h := if_t c3 h
    exact s_M_wrong_100 cx hK hA hX v_size v_state v_digits v_behind v_power v_powerLess v_less v_plainDigits v_sixteen a_digit a_tape H locs ls hP hD hS (lv_sub hl [0] rfl) h
  · have h := if_f c3 h
    refine lv_aload_n hx hb d_M_wrong_50 rfl (lv_at hl 0 rfl) ?_
    refine va_get (D := (dC, dI)) (ci := 7) (v := .int v_state) (C := R_M) (T := F_M) (N := 30) hx hb ht i_M hown hK hP 0 rfl rfl 9 (by decide) (ht _ q_531) (fun _ h9 => h9) rfl d_M_wrong_51 ?_
    refine lv_aload_n hx hb d_M_wrong_54 rfl (lv_at hl 0 rfl) ?_
    refine va_get (D := (dC, dI)) (ci := 7) (v := .ref h_this_tape) (C := R_M) (T := F_M) (N := 30) hx hb ht i_M hown hK hP 0 rfl rfl 0 (by decide) (ht _ q_483) (fun _ h9 => h9) rfl d_M_wrong_55 ?_
    refine lv_iload_n hx hb d_M_wrong_58 rfl (lv_at hl 1 rfl) ?_
    obtain ⟨c4, h⟩ := ck_x h
    refine va_bald (D := (dC, dI)) hx hb hK hP 2 1 rfl rfl c4 d_M_wrong_59 ?_
    refine lv_sipush (v := 255) hx hb d_M_wrong_60 (by decide) ?_
    refine lv_iand hx hb d_M_wrong_63 ?_
    obtain ⟨r5, hf, h⟩ := bi1_x h
    refine clSi (D := (dC, dI)) (n := 2) (As := [.int v_state, .int ((a_tape y1.toNatClampNeg) &&& (255 : Int32))]) ⟨hx, hb, hml, hown, ht⟩ (c_M_next l dC dI X  H.size v_state ((a_tape y1.toNatClampNeg) &&& (255 : Int32)) r5 hf) (gS q_535 q_536 q_490 q_537) (by decide +kernel) ⟨rfl, rfl, Nat.le_of_ble_eq_true rfl, Nat.le_of_ble_eq_true rfl⟩ hK hP hD hS hA hX [] [0, 1, 2] [] rfl (wr := [(h_this, .inr (7, [.ref h_this_tape, .int v_size, .int v_kind, .long v_number, .int v_exponent, .ref g_this_above, .int v_aboveSize, .ref g_this_below, .int v_belowSize, .int v_state, .int v_digits, .ref h_this_digit, .int v_behind, .int v_power, .int v_powerLess, .int v_less, .int v_plainDigits, .int v_sixteen, .ref g_this_limbs, .int v_limbCount, .ref g_this_exact, .int v_length, .int v_point, .ref g_this_round, .int v_roundLength, .int v_roundPoint, .ref g_this_out, .int v_written, .ref g_this_body, .int v_bodySize])), (h_this_digit, .inl (c_this_digit, 1200, .inl a_digit)), (h_this_tape, .inl (c_this_tape, 1200, .inl a_tape))]) rfl (by decide) (by decide) (by decide) rfl rfl hl.1 rfl (lv_room (Nat.le_of_ble_eq_true rfl)) d_M_wrong_64 ⟨Nat.zero_le _, Nat.zero_le _⟩ (fun r9 u9 H locs h9 hP hD hS => ?_)
    cases h9
    have hP : va_P (dC, dI) classes (WS_M_wrong g_this_above g_this_below g_this_limbs g_this_exact g_this_round g_this_out g_this_body h_this h_this_digit h_this_tape c_this_digit c_this_tape v_size v_kind v_number v_exponent v_aboveSize v_belowSize v_state v_digits v_behind v_power v_powerLess v_less v_plainDigits v_sixteen v_limbCount v_length v_point v_roundLength v_roundPoint v_written v_bodySize a_digit a_tape) H := hP.sub [0, 1, 2] rfl
    have hD : va_D A (WS_M_wrong g_this_above g_this_below g_this_limbs g_this_exact g_this_round g_this_out g_this_body h_this h_this_digit h_this_tape c_this_digit c_this_tape v_size v_kind v_number v_exponent v_aboveSize v_belowSize v_state v_digits v_behind v_power v_powerLess v_less v_plainDigits v_sixteen v_limbCount v_length v_point v_roundLength v_roundPoint v_written v_bodySize a_digit a_tape) := hD.sub [0, 1, 2] (by decide) rfl
    refine lv_istore_n (lv' := [(2, .int r5), (0, .ref h_this), (1, .int y1)]) hx hb d_M_wrong_67 rfl hl (by decide) rfl (fun ls hl => ?_)
    refine lv_iload_n hx hb d_M_wrong_68 rfl (lv_at hl 0 rfl) ?_
    refine lv_if_ge (tgt := 74) hx hb d_M_wrong_69 (by decide) (fun c6 => ?_) (fun c6 => ?_)
    · have h := if_t c6 h
      refine lv_aload_n hx hb d_M_wrong_74 rfl (lv_at hl 1 rfl) ?_
      refine lv_iload_n hx hb d_M_wrong_75 rfl (lv_at hl 0 rfl) ?_
      refine va_put (D := (dC, dI)) (ci := 7) (v := .int r5) (ty := .int) (C := R_M) (T := F_M) (N := 30) hx hb ht i_M t_M t_M_ok n_M hown hK hP hD hS 0 rfl rfl 9 (by decide) (ht _ q_531) (fun _ h9 => h9) rfl (t_M_ok 9 (by decide)) rfl rfl (Nat.le_of_ble_eq_true rfl) d_M_wrong_76 (fun H locs hP hD hS => ?_)
      have hP : va_P (dC, dI) classes (WS_M_wrong g_this_above g_this_below g_this_limbs g_this_exact g_this_round g_this_out g_this_body h_this h_this_digit h_this_tape c_this_digit c_this_tape v_size v_kind v_number v_exponent v_aboveSize v_belowSize r5 v_digits v_behind v_power v_powerLess v_less v_plainDigits v_sixteen v_limbCount v_length v_point v_roundLength v_roundPoint v_written v_bodySize a_digit a_tape) H := hP
      have hD : va_D A (WS_M_wrong g_this_above g_this_below g_this_limbs g_this_exact g_this_round g_this_out g_this_body h_this h_this_digit h_this_tape c_this_digit c_this_tape v_size v_kind v_number v_exponent v_aboveSize v_belowSize r5 v_digits v_behind v_power v_powerLess v_less v_plainDigits v_sixteen v_limbCount v_length v_point v_roundLength v_roundPoint v_written v_bodySize a_digit a_tape) := hD
      refine lv_aload_n hx hb d_M_wrong_79 rfl (lv_at hl 1 rfl) ?_
      refine lv_iload_n hx hb d_M_wrong_80 rfl (lv_at hl 0 rfl) ?_
      refine lv_aload_n hx hb d_M_wrong_81 rfl (lv_at hl 1 rfl) ?_
      refine va_get (D := (dC, dI)) (ci := 7) (v := .ref h_this_tape) (C := R_M) (T := F_M) (N := 30) hx hb ht i_M hown hK hP 0 rfl rfl 0 (by decide) (ht _ q_483) (fun _ h9 => h9) rfl d_M_wrong_82 ?_
      refine lv_iload_n hx hb d_M_wrong_85 rfl (lv_at hl 2 rfl) ?_
      obtain ⟨c7, h⟩ := ck_x h
      refine va_bald (D := (dC, dI)) hx hb hK hP 2 1 rfl rfl c7 d_M_wrong_86 ?_
      refine lv_sipush (v := 255) hx hb d_M_wrong_87 (by decide) ?_
      refine lv_iand hx hb d_M_wrong_90 ?_
      obtain ⟨v8, v9, v10, v11, v12, v13, v14, a15, hf, h⟩ := bi8_x h
      refine clVv (D := (dC, dI)) (n := 2) (As := [.int r5, .int ((a_tape y1.toNatClampNeg) &&& (255 : Int32))]) ⟨hx, hb, hml, hown, ht⟩ (c_M_note l dC dI X h_this_tape g_this_above g_this_below g_this_limbs g_this_exact g_this_round g_this_out g_this_body h_this h_this_digit c_this_digit H.size v_size v_kind v_number v_exponent v_aboveSize v_belowSize r5 v_digits v_behind v_power v_powerLess v_less v_plainDigits v_sixteen v_limbCount v_length v_point v_roundLength v_roundPoint v_written v_bodySize a_digit r5 ((a_tape y1.toNatClampNeg) &&& (255 : Int32)) (v8, v9, v10, v11, v12, v13, v14, a15) hf) (gV q_538 q_539 q_540 q_490 q_541) (by decide +kernel) ⟨rfl, rfl, Nat.le_of_ble_eq_true rfl, Nat.le_of_ble_eq_true rfl⟩ hK hP hD hS hA hX [0, 1] [2] [0] rfl (wr := [(h_this_tape, .inl (c_this_tape, 1200, .inl a_tape))]) rfl (by decide) (by decide) (by decide) rfl (va_recv hK hP (ci := 7) (q0 := 0) rfl rfl) rfl hl.1 rfl (lv_room (Nat.le_of_ble_eq_true rfl)) d_M_wrong_91 ⟨Nat.zero_le _, Nat.zero_le _⟩ (fun u9 H locs h9 hP hD hS => ?_)
      cases h9
      have hP : va_P (dC, dI) classes (WS_M_wrong g_this_above g_this_below g_this_limbs g_this_exact g_this_round g_this_out g_this_body h_this h_this_digit h_this_tape c_this_digit c_this_tape v_size v_kind v_number v_exponent v_aboveSize v_belowSize r5 v8 v9 v10 v11 v12 v13 v14 v_limbCount v_length v_point v_roundLength v_roundPoint v_written v_bodySize a15 a_tape) H := hP.sub [1, 2, 0] rfl
      have hD : va_D A (WS_M_wrong g_this_above g_this_below g_this_limbs g_this_exact g_this_round g_this_out g_this_body h_this h_this_digit h_this_tape c_this_digit c_this_tape v_size v_kind v_number v_exponent v_aboveSize v_belowSize r5 v8 v9 v10 v11 v12 v13 v14 v_limbCount v_length v_point v_roundLength v_roundPoint v_written v_bodySize a15 a_tape) := hD.sub [1, 2, 0] (by decide) rfl
      obtain ⟨x16, e_x16⟩ : ∃ y : Int32, y = y1 + (1 : Int32) := ⟨_, rfl⟩
      refine lv_iinc (v := x16) (lv' := [(1, .int x16), (2, .int r5), (0, .ref h_this)]) hx hb d_M_wrong_94 hl (k := 2) rfl (by rw [e_x16]; rfl) (by decide) rfl (fun ls hl => ?_)
      have h := bd_g e_x16 h
      refine lv_goto (tgt := 42) hx hb d_M_wrong_97 (by decide) ?_
      exact hk42 v_size r5 v8 v9 v10 v11 v12 v13 v14 a15 a_tape x16 H locs ls hP hD hS (lv_sub hl [2, 0] rfl) h
    · have h := if_f c6 h
      refine lv_iload_n hx hb d_M_wrong_72 rfl (lv_at hl 2 rfl) ?_
      exact W.iret (v := y1) hx hb hr (fun t ht9 hW => ⟨⟨y1, (v_state, v_digits, v_behind, v_power, v_powerLess, v_less, v_plainDigits, v_sixteen, a_digit), rfl, h, by rw [ht9]; exact hP, va_K.moved hW.alike hK, hD⟩, hS.F ht9⟩) hS.2.2 d_M_wrong_73 hlk
set_option maxHeartbeats 4000000 in
set_option maxRecDepth 100000 in
theorem s_M_wrong_42 {p : Program} {l : Launch} {e : Env} {s : State} {m : MethodId} {args : Array Value} {below : List Frame} {meth : Method} {c : Code} {dC : Nat → ClassId} {dI : Nat → Nat → Nat} {A : Nat → Prop} {X : SXT} {g_this_above : Nat} {g_this_below : Nat} {g_this_limbs : Nat} {g_this_exact : Nat} {g_this_round : Nat} {g_this_out : Nat} {g_this_body : Nat} {h_this : Nat} {h_this_digit : Nat} {h_this_tape : Nat} {c_this_digit : ClassId} {c_this_tape : ClassId} {v_kind : Int32} {v_number : Int64} {v_exponent : Int32} {v_aboveSize : Int32} {v_belowSize : Int32} {v_limbCount : Int32} {v_length : Int32} {v_point : Int32} {v_roundLength : Int32} {v_roundPoint : Int32} {v_written : Int32} {v_bodySize : Int32} {res : Int32 × Int32 × Int32 × Int32 × Int32 × Int32 × Int32 × Int32 × Int32 × (Nat → Int32)}  (cx : cxx p s m args meth c b_M_wrong 3 (some .int) R_M) (hK : va_K (dC, dI) classes [(c_this_digit, .byte), (c_this_tape, .byte)] s) (hA : ∀ q, s.heap.size ≤ q → A q) (hX : SX X A s s.heap)  : ∀ n : Nat, ∀ (v_size : Int32) (v_state : Int32) (v_digits : Int32) (v_behind : Int32) (v_power : Int32) (v_powerLess : Int32) (v_less : Int32) (v_plainDigits : Int32) (v_sixteen : Int32) (a_digit : (Nat → Int32)) (a_tape : (Nat → Int32)) (y1 : Int32) (H : Heap) (locs : List Loc) (ls : Array Slot), va_P (dC, dI) classes (WS_M_wrong g_this_above g_this_below g_this_limbs g_this_exact g_this_round g_this_out g_this_body h_this h_this_digit h_this_tape c_this_digit c_this_tape v_size v_kind v_number v_exponent v_aboveSize v_belowSize v_state v_digits v_behind v_power v_powerLess v_less v_plainDigits v_sixteen v_limbCount v_length v_point v_roundLength v_roundPoint v_written v_bodySize a_digit a_tape) H → va_D A (WS_M_wrong g_this_above g_this_below g_this_limbs g_this_exact g_this_round g_this_out g_this_body h_this h_this_digit h_this_tape c_this_digit c_this_tape v_size v_kind v_number v_exponent v_aboveSize v_belowSize v_state v_digits v_behind v_power v_powerLess v_less v_plainDigits v_sixteen v_limbCount v_length v_point v_roundLength v_roundPoint v_written v_bodySize a_digit a_tape) → va_S A s.heap H locs → lv_has ls 3 [(0, .ref h_this), (1, .int y1)] → f_M_wrong_42 n v_size v_state v_digits v_behind v_power v_powerLess v_less v_plainDigits v_sixteen a_digit a_tape y1 = some res → W p l e ({ frames := 3, cells := 0, slots := 0, locals := 63 }) s m args below meth c H locs 0 0 (MQ below (va_Qi (fun (r : Int32) (u : Int32 × Int32 × Int32 × Int32 × Int32 × Int32 × Int32 × Int32 × (Nat → Int32)) => some (r, u) = some res) (gB (dC, dI) [(c_this_digit, .byte), (c_this_tape, .byte)] A (fun (u : Int32 × Int32 × Int32 × Int32 × Int32 × Int32 × Int32 × Int32 × (Nat → Int32)) => (WS_M_wrong g_this_above g_this_below g_this_limbs g_this_exact g_this_round g_this_out g_this_body h_this h_this_digit h_this_tape c_this_digit c_this_tape v_size v_kind v_number v_exponent v_aboveSize v_belowSize u.1 u.2.1 u.2.2.1 u.2.2.2.1 u.2.2.2.2.1 u.2.2.2.2.2.1 u.2.2.2.2.2.2.1 u.2.2.2.2.2.2.2.1 v_limbCount v_length v_point v_roundLength v_roundPoint v_written v_bodySize u.2.2.2.2.2.2.2.2 a_tape))) A) args s 0 0 A) (F0 m 42 ls []) := by
  intro n
  induction n with
  | zero =>
    intro v_size v_state v_digits v_behind v_power v_powerLess v_less v_plainDigits v_sixteen a_digit a_tape y1 H locs ls hP hD hS hl h
    have h9 : (none : Option (Int32 × Int32 × Int32 × Int32 × Int32 × Int32 × Int32 × Int32 × Int32 × (Nat → Int32))) = some res := h
    cases h9
  | succ n ih =>
    intro v_size v_state v_digits v_behind v_power v_powerLess v_less v_plainDigits v_sixteen a_digit a_tape y1 H locs ls hP hD hS hl h
    exact s_M_wrong_42b cx hK hA hX ih v_size v_state v_digits v_behind v_power v_powerLess v_less v_plainDigits v_sixteen a_digit a_tape y1 H locs ls hP hD hS hl h
set_option maxHeartbeats 4000000 in
set_option maxRecDepth 100000 in
theorem s_M_wrong_e {p : Program} {l : Launch} {e : Env} {s : State} {m : MethodId} {args : Array Value} {below : List Frame} {meth : Method} {c : Code} {dC : Nat → ClassId} {dI : Nat → Nat → Nat} {A : Nat → Prop} {X : SXT} {g_this_above : Nat} {g_this_below : Nat} {g_this_limbs : Nat} {g_this_exact : Nat} {g_this_round : Nat} {g_this_out : Nat} {g_this_body : Nat} {h_this : Nat} {h_this_digit : Nat} {h_this_tape : Nat} {c_this_digit : ClassId} {c_this_tape : ClassId} {v_kind : Int32} {v_number : Int64} {v_exponent : Int32} {v_aboveSize : Int32} {v_belowSize : Int32} {v_limbCount : Int32} {v_length : Int32} {v_point : Int32} {v_roundLength : Int32} {v_roundPoint : Int32} {v_written : Int32} {v_bodySize : Int32} {res : Int32 × Int32 × Int32 × Int32 × Int32 × Int32 × Int32 × Int32 × Int32 × (Nat → Int32)} (cx : cxx p s m args meth c b_M_wrong 3 (some .int) R_M) (hK : va_K (dC, dI) classes [(c_this_digit, .byte), (c_this_tape, .byte)] s) (hA : ∀ q, s.heap.size ≤ q → A q) (hX : SX X A s s.heap) : ∀ (v_size : Int32) (v_state : Int32) (v_digits : Int32) (v_behind : Int32) (v_power : Int32) (v_powerLess : Int32) (v_less : Int32) (v_plainDigits : Int32) (v_sixteen : Int32) (a_digit : (Nat → Int32)) (a_tape : (Nat → Int32)) (H : Heap) (locs : List Loc) (ls : Array Slot), va_P (dC, dI) classes (WS_M_wrong g_this_above g_this_below g_this_limbs g_this_exact g_this_round g_this_out g_this_body h_this h_this_digit h_this_tape c_this_digit c_this_tape v_size v_kind v_number v_exponent v_aboveSize v_belowSize v_state v_digits v_behind v_power v_powerLess v_less v_plainDigits v_sixteen v_limbCount v_length v_point v_roundLength v_roundPoint v_written v_bodySize a_digit a_tape) H → va_D A (WS_M_wrong g_this_above g_this_below g_this_limbs g_this_exact g_this_round g_this_out g_this_body h_this h_this_digit h_this_tape c_this_digit c_this_tape v_size v_kind v_number v_exponent v_aboveSize v_belowSize v_state v_digits v_behind v_power v_powerLess v_less v_plainDigits v_sixteen v_limbCount v_length v_point v_roundLength v_roundPoint v_written v_bodySize a_digit a_tape) → va_S A s.heap H locs → lv_has ls 3 [(0, .ref h_this)] → f_M_wrong v_size v_state v_digits v_behind v_power v_powerLess v_less v_plainDigits v_sixteen a_digit a_tape = some res → W p l e ({ frames := 3, cells := 0, slots := 0, locals := 63 }) s m args below meth c H locs 0 0 (MQ below (va_Qi (fun (r : Int32) (u : Int32 × Int32 × Int32 × Int32 × Int32 × Int32 × Int32 × Int32 × (Nat → Int32)) => some (r, u) = some res) (gB (dC, dI) [(c_this_digit, .byte), (c_this_tape, .byte)] A (fun (u : Int32 × Int32 × Int32 × Int32 × Int32 × Int32 × Int32 × Int32 × (Nat → Int32)) => (WS_M_wrong g_this_above g_this_below g_this_limbs g_this_exact g_this_round g_this_out g_this_body h_this h_this_digit h_this_tape c_this_digit c_this_tape v_size v_kind v_number v_exponent v_aboveSize v_belowSize u.1 u.2.1 u.2.2.1 u.2.2.2.1 u.2.2.2.2.1 u.2.2.2.2.2.1 u.2.2.2.2.2.2.1 u.2.2.2.2.2.2.2.1 v_limbCount v_length v_point v_roundLength v_roundPoint v_written v_bodySize u.2.2.2.2.2.2.2.2 a_tape))) A) args s 0 0 A) (F0 m 0 ls []) := by
  intro v_size v_state v_digits v_behind v_power v_powerLess v_less v_plainDigits v_sixteen a_digit a_tape H locs ls hP hD hS hl h
  obtain ⟨hx, hb, hr, hml, hown, ht, hlk⟩ := id cx
  refine lv_aload_n hx hb d_M_wrong_0 rfl (lv_at hl 0 rfl) ?_
  refine lv_iconst (v := 0) hx hb d_M_wrong_1 (by decide) ?_
  refine va_put (D := (dC, dI)) (ci := 7) (v := .int (0 : Int32)) (ty := .int) (C := R_M) (T := F_M) (N := 30) hx hb ht i_M t_M t_M_ok n_M hown hK hP hD hS 0 rfl rfl 9 (by decide) (ht _ q_531) (fun _ h9 => h9) rfl (t_M_ok 9 (by decide)) rfl rfl (Nat.le_of_ble_eq_true rfl) d_M_wrong_2 (fun H locs hP hD hS => ?_)
  have hP : va_P (dC, dI) classes (WS_M_wrong g_this_above g_this_below g_this_limbs g_this_exact g_this_round g_this_out g_this_body h_this h_this_digit h_this_tape c_this_digit c_this_tape v_size v_kind v_number v_exponent v_aboveSize v_belowSize (0 : Int32) v_digits v_behind v_power v_powerLess v_less v_plainDigits v_sixteen v_limbCount v_length v_point v_roundLength v_roundPoint v_written v_bodySize a_digit a_tape) H := hP
  have hD : va_D A (WS_M_wrong g_this_above g_this_below g_this_limbs g_this_exact g_this_round g_this_out g_this_body h_this h_this_digit h_this_tape c_this_digit c_this_tape v_size v_kind v_number v_exponent v_aboveSize v_belowSize (0 : Int32) v_digits v_behind v_power v_powerLess v_less v_plainDigits v_sixteen v_limbCount v_length v_point v_roundLength v_roundPoint v_written v_bodySize a_digit a_tape) := hD
  refine lv_aload_n hx hb d_M_wrong_5 rfl (lv_at hl 0 rfl) ?_
  refine lv_iconst (v := 0) hx hb d_M_wrong_6 (by decide) ?_
  refine va_put (D := (dC, dI)) (ci := 7) (v := .int (0 : Int32)) (ty := .int) (C := R_M) (T := F_M) (N := 30) hx hb ht i_M t_M t_M_ok n_M hown hK hP hD hS 0 rfl rfl 10 (by decide) (ht _ q_526) (fun _ h9 => h9) rfl (t_M_ok 10 (by decide)) rfl rfl (Nat.le_of_ble_eq_true rfl) d_M_wrong_7 (fun H locs hP hD hS => ?_)
  have hP : va_P (dC, dI) classes (WS_M_wrong g_this_above g_this_below g_this_limbs g_this_exact g_this_round g_this_out g_this_body h_this h_this_digit h_this_tape c_this_digit c_this_tape v_size v_kind v_number v_exponent v_aboveSize v_belowSize (0 : Int32) (0 : Int32) v_behind v_power v_powerLess v_less v_plainDigits v_sixteen v_limbCount v_length v_point v_roundLength v_roundPoint v_written v_bodySize a_digit a_tape) H := hP
  have hD : va_D A (WS_M_wrong g_this_above g_this_below g_this_limbs g_this_exact g_this_round g_this_out g_this_body h_this h_this_digit h_this_tape c_this_digit c_this_tape v_size v_kind v_number v_exponent v_aboveSize v_belowSize (0 : Int32) (0 : Int32) v_behind v_power v_powerLess v_less v_plainDigits v_sixteen v_limbCount v_length v_point v_roundLength v_roundPoint v_written v_bodySize a_digit a_tape) := hD
  refine lv_aload_n hx hb d_M_wrong_10 rfl (lv_at hl 0 rfl) ?_
  refine lv_iconst (v := 0) hx hb d_M_wrong_11 (by decide) ?_
  refine va_put (D := (dC, dI)) (ci := 7) (v := .int (0 : Int32)) (ty := .int) (C := R_M) (T := F_M) (N := 30) hx hb ht i_M t_M t_M_ok n_M hown hK hP hD hS 0 rfl rfl 12 (by decide) (ht _ q_524) (fun _ h9 => h9) rfl (t_M_ok 12 (by decide)) rfl rfl (Nat.le_of_ble_eq_true rfl) d_M_wrong_12 (fun H locs hP hD hS => ?_)
  have hP : va_P (dC, dI) classes (WS_M_wrong g_this_above g_this_below g_this_limbs g_this_exact g_this_round g_this_out g_this_body h_this h_this_digit h_this_tape c_this_digit c_this_tape v_size v_kind v_number v_exponent v_aboveSize v_belowSize (0 : Int32) (0 : Int32) (0 : Int32) v_power v_powerLess v_less v_plainDigits v_sixteen v_limbCount v_length v_point v_roundLength v_roundPoint v_written v_bodySize a_digit a_tape) H := hP
  have hD : va_D A (WS_M_wrong g_this_above g_this_below g_this_limbs g_this_exact g_this_round g_this_out g_this_body h_this h_this_digit h_this_tape c_this_digit c_this_tape v_size v_kind v_number v_exponent v_aboveSize v_belowSize (0 : Int32) (0 : Int32) (0 : Int32) v_power v_powerLess v_less v_plainDigits v_sixteen v_limbCount v_length v_point v_roundLength v_roundPoint v_written v_bodySize a_digit a_tape) := hD
  refine lv_aload_n hx hb d_M_wrong_15 rfl (lv_at hl 0 rfl) ?_
  refine lv_iconst (v := 0) hx hb d_M_wrong_16 (by decide) ?_
  refine va_put (D := (dC, dI)) (ci := 7) (v := .int (0 : Int32)) (ty := .int) (C := R_M) (T := F_M) (N := 30) hx hb ht i_M t_M t_M_ok n_M hown hK hP hD hS 0 rfl rfl 13 (by decide) (ht _ q_522) (fun _ h9 => h9) rfl (t_M_ok 13 (by decide)) rfl rfl (Nat.le_of_ble_eq_true rfl) d_M_wrong_17 (fun H locs hP hD hS => ?_)
  have hP : va_P (dC, dI) classes (WS_M_wrong g_this_above g_this_below g_this_limbs g_this_exact g_this_round g_this_out g_this_body h_this h_this_digit h_this_tape c_this_digit c_this_tape v_size v_kind v_number v_exponent v_aboveSize v_belowSize (0 : Int32) (0 : Int32) (0 : Int32) (0 : Int32) v_powerLess v_less v_plainDigits v_sixteen v_limbCount v_length v_point v_roundLength v_roundPoint v_written v_bodySize a_digit a_tape) H := hP
  have hD : va_D A (WS_M_wrong g_this_above g_this_below g_this_limbs g_this_exact g_this_round g_this_out g_this_body h_this h_this_digit h_this_tape c_this_digit c_this_tape v_size v_kind v_number v_exponent v_aboveSize v_belowSize (0 : Int32) (0 : Int32) (0 : Int32) (0 : Int32) v_powerLess v_less v_plainDigits v_sixteen v_limbCount v_length v_point v_roundLength v_roundPoint v_written v_bodySize a_digit a_tape) := hD
  refine lv_aload_n hx hb d_M_wrong_20 rfl (lv_at hl 0 rfl) ?_
  refine lv_iconst (v := 0) hx hb d_M_wrong_21 (by decide) ?_
  refine va_put (D := (dC, dI)) (ci := 7) (v := .int (0 : Int32)) (ty := .boolean) (C := R_M) (T := F_M) (N := 30) hx hb ht i_M t_M t_M_ok n_M hown hK hP hD hS 0 rfl rfl 14 (by decide) (ht _ q_527) (fun _ h9 => h9) rfl (t_M_ok 14 (by decide)) rfl rfl (Nat.le_of_ble_eq_true rfl) d_M_wrong_22 (fun H locs hP hD hS => ?_)
  have hP : va_P (dC, dI) classes (WS_M_wrong g_this_above g_this_below g_this_limbs g_this_exact g_this_round g_this_out g_this_body h_this h_this_digit h_this_tape c_this_digit c_this_tape v_size v_kind v_number v_exponent v_aboveSize v_belowSize (0 : Int32) (0 : Int32) (0 : Int32) (0 : Int32) (0 : Int32) v_less v_plainDigits v_sixteen v_limbCount v_length v_point v_roundLength v_roundPoint v_written v_bodySize a_digit a_tape) H := hP
  have hD : va_D A (WS_M_wrong g_this_above g_this_below g_this_limbs g_this_exact g_this_round g_this_out g_this_body h_this h_this_digit h_this_tape c_this_digit c_this_tape v_size v_kind v_number v_exponent v_aboveSize v_belowSize (0 : Int32) (0 : Int32) (0 : Int32) (0 : Int32) (0 : Int32) v_less v_plainDigits v_sixteen v_limbCount v_length v_point v_roundLength v_roundPoint v_written v_bodySize a_digit a_tape) := hD
  refine lv_aload_n hx hb d_M_wrong_25 rfl (lv_at hl 0 rfl) ?_
  refine lv_iconst (v := 0) hx hb d_M_wrong_26 (by decide) ?_
  refine va_put (D := (dC, dI)) (ci := 7) (v := .int (0 : Int32)) (ty := .boolean) (C := R_M) (T := F_M) (N := 30) hx hb ht i_M t_M t_M_ok n_M hown hK hP hD hS 0 rfl rfl 15 (by decide) (ht _ q_530) (fun _ h9 => h9) rfl (t_M_ok 15 (by decide)) rfl rfl (Nat.le_of_ble_eq_true rfl) d_M_wrong_27 (fun H locs hP hD hS => ?_)
  have hP : va_P (dC, dI) classes (WS_M_wrong g_this_above g_this_below g_this_limbs g_this_exact g_this_round g_this_out g_this_body h_this h_this_digit h_this_tape c_this_digit c_this_tape v_size v_kind v_number v_exponent v_aboveSize v_belowSize (0 : Int32) (0 : Int32) (0 : Int32) (0 : Int32) (0 : Int32) (0 : Int32) v_plainDigits v_sixteen v_limbCount v_length v_point v_roundLength v_roundPoint v_written v_bodySize a_digit a_tape) H := hP
  have hD : va_D A (WS_M_wrong g_this_above g_this_below g_this_limbs g_this_exact g_this_round g_this_out g_this_body h_this h_this_digit h_this_tape c_this_digit c_this_tape v_size v_kind v_number v_exponent v_aboveSize v_belowSize (0 : Int32) (0 : Int32) (0 : Int32) (0 : Int32) (0 : Int32) (0 : Int32) v_plainDigits v_sixteen v_limbCount v_length v_point v_roundLength v_roundPoint v_written v_bodySize a_digit a_tape) := hD
  refine lv_aload_n hx hb d_M_wrong_30 rfl (lv_at hl 0 rfl) ?_
  refine lv_iconst (v := 0) hx hb d_M_wrong_31 (by decide) ?_
  refine va_put (D := (dC, dI)) (ci := 7) (v := .int (0 : Int32)) (ty := .boolean) (C := R_M) (T := F_M) (N := 30) hx hb ht i_M t_M t_M_ok n_M hown hK hP hD hS 0 rfl rfl 17 (by decide) (ht _ q_529) (fun _ h9 => h9) rfl (t_M_ok 17 (by decide)) rfl rfl (Nat.le_of_ble_eq_true rfl) d_M_wrong_32 (fun H locs hP hD hS => ?_)
  have hP : va_P (dC, dI) classes (WS_M_wrong g_this_above g_this_below g_this_limbs g_this_exact g_this_round g_this_out g_this_body h_this h_this_digit h_this_tape c_this_digit c_this_tape v_size v_kind v_number v_exponent v_aboveSize v_belowSize (0 : Int32) (0 : Int32) (0 : Int32) (0 : Int32) (0 : Int32) (0 : Int32) v_plainDigits (0 : Int32) v_limbCount v_length v_point v_roundLength v_roundPoint v_written v_bodySize a_digit a_tape) H := hP
  have hD : va_D A (WS_M_wrong g_this_above g_this_below g_this_limbs g_this_exact g_this_round g_this_out g_this_body h_this h_this_digit h_this_tape c_this_digit c_this_tape v_size v_kind v_number v_exponent v_aboveSize v_belowSize (0 : Int32) (0 : Int32) (0 : Int32) (0 : Int32) (0 : Int32) (0 : Int32) v_plainDigits (0 : Int32) v_limbCount v_length v_point v_roundLength v_roundPoint v_written v_bodySize a_digit a_tape) := hD
  refine lv_aload_n hx hb d_M_wrong_35 rfl (lv_at hl 0 rfl) ?_
  refine lv_iconst (v := 1) hx hb d_M_wrong_36 (by decide) ?_
  refine va_put (D := (dC, dI)) (ci := 7) (v := .int (1 : Int32)) (ty := .boolean) (C := R_M) (T := F_M) (N := 30) hx hb ht i_M t_M t_M_ok n_M hown hK hP hD hS 0 rfl rfl 16 (by decide) (ht _ q_528) (fun _ h9 => h9) rfl (t_M_ok 16 (by decide)) rfl rfl (Nat.le_of_ble_eq_true rfl) d_M_wrong_37 (fun H locs hP hD hS => ?_)
  have hP : va_P (dC, dI) classes (WS_M_wrong g_this_above g_this_below g_this_limbs g_this_exact g_this_round g_this_out g_this_body h_this h_this_digit h_this_tape c_this_digit c_this_tape v_size v_kind v_number v_exponent v_aboveSize v_belowSize (0 : Int32) (0 : Int32) (0 : Int32) (0 : Int32) (0 : Int32) (0 : Int32) (1 : Int32) (0 : Int32) v_limbCount v_length v_point v_roundLength v_roundPoint v_written v_bodySize a_digit a_tape) H := hP
  have hD : va_D A (WS_M_wrong g_this_above g_this_below g_this_limbs g_this_exact g_this_round g_this_out g_this_body h_this h_this_digit h_this_tape c_this_digit c_this_tape v_size v_kind v_number v_exponent v_aboveSize v_belowSize (0 : Int32) (0 : Int32) (0 : Int32) (0 : Int32) (0 : Int32) (0 : Int32) (1 : Int32) (0 : Int32) v_limbCount v_length v_point v_roundLength v_roundPoint v_written v_bodySize a_digit a_tape) := hD
  refine lv_iconst (v := 0) hx hb d_M_wrong_40 (by decide) ?_
  refine lv_istore_n (lv' := [(1, .int (0 : Int32)), (0, .ref h_this)]) hx hb d_M_wrong_41 rfl hl (by decide) rfl (fun ls hl => ?_)
  exact s_M_wrong_42 cx hK hA hX fu v_size (0 : Int32) (0 : Int32) (0 : Int32) (0 : Int32) (0 : Int32) (0 : Int32) (1 : Int32) (0 : Int32) a_digit a_tape (0 : Int32) H locs ls hP hD hS (lv_sub hl [1, 0] rfl) h
set_option maxHeartbeats 4000000 in
set_option maxRecDepth 100000 in
theorem c_M_wrong (l : Launch) (dC : Nat → ClassId) (dI : Nat → Nat → Nat) (X : SXT) (g_this_above : Nat) (g_this_below : Nat) (g_this_limbs : Nat) (g_this_exact : Nat) (g_this_round : Nat) (g_this_out : Nat) (g_this_body : Nat) (h_this : Nat) (h_this_digit : Nat) (h_this_tape : Nat) (c_this_digit : ClassId) (c_this_tape : ClassId) (sz : Nat) (v_size : Int32) (v_kind : Int32) (v_number : Int64) (v_exponent : Int32) (v_aboveSize : Int32) (v_belowSize : Int32) (v_state : Int32) (v_digits : Int32) (v_behind : Int32) (v_power : Int32) (v_powerLess : Int32) (v_less : Int32) (v_plainDigits : Int32) (v_sixteen : Int32) (v_limbCount : Int32) (v_length : Int32) (v_point : Int32) (v_roundLength : Int32) (v_roundPoint : Int32) (v_written : Int32) (v_bodySize : Int32) (a_digit : (Nat → Int32)) (a_tape : (Nat → Int32)) (res : Int32 × Int32 × Int32 × Int32 × Int32 × Int32 × Int32 × Int32 × Int32 × (Nat → Int32)) (hf : f_M_wrong v_size v_state v_digits v_behind v_power v_powerLess v_less v_plainDigits v_sixteen a_digit a_tape = some res) : Met l y_M_wrong (.code y_M_wrong b_M_wrong 3 (some .int) :: w0) ({ frames := 3, cells := 0, slots := 0, locals := 63 }) (va_Pc [.ref h_this] (gP (dC, dI) (WS_M_wrong g_this_above g_this_below g_this_limbs g_this_exact g_this_round g_this_out g_this_body h_this h_this_digit h_this_tape c_this_digit c_this_tape v_size v_kind v_number v_exponent v_aboveSize v_belowSize v_state v_digits v_behind v_power v_powerLess v_less v_plainDigits v_sixteen v_limbCount v_length v_point v_roundLength v_roundPoint v_written v_bodySize a_digit a_tape) [(c_this_digit, .byte), (c_this_tape, .byte)] sz X)) (va_Qi (fun (r : Int32) (u : Int32 × Int32 × Int32 × Int32 × Int32 × Int32 × Int32 × Int32 × (Nat → Int32)) => some (r, u) = some res) (gB (dC, dI) [(c_this_digit, .byte), (c_this_tape, .byte)] (va_A (WS_M_wrong g_this_above g_this_below g_this_limbs g_this_exact g_this_round g_this_out g_this_body h_this h_this_digit h_this_tape c_this_digit c_this_tape v_size v_kind v_number v_exponent v_aboveSize v_belowSize v_state v_digits v_behind v_power v_powerLess v_less v_plainDigits v_sixteen v_limbCount v_length v_point v_roundLength v_roundPoint v_written v_bodySize a_digit a_tape) sz) (fun (u : Int32 × Int32 × Int32 × Int32 × Int32 × Int32 × Int32 × Int32 × (Nat → Int32)) => (WS_M_wrong g_this_above g_this_below g_this_limbs g_this_exact g_this_round g_this_out g_this_body h_this h_this_digit h_this_tape c_this_digit c_this_tape v_size v_kind v_number v_exponent v_aboveSize v_belowSize u.1 u.2.1 u.2.2.1 u.2.2.2.1 u.2.2.2.2.1 u.2.2.2.2.2.1 u.2.2.2.2.2.2.1 u.2.2.2.2.2.2.2.1 v_limbCount v_length v_point v_roundLength v_roundPoint v_written v_bodySize u.2.2.2.2.2.2.2.2 a_tape))) (va_A (WS_M_wrong g_this_above g_this_below g_this_limbs g_this_exact g_this_round g_this_out g_this_body h_this h_this_digit h_this_tape c_this_digit c_this_tape v_size v_kind v_number v_exponent v_aboveSize v_belowSize v_state v_digits v_behind v_power v_powerLess v_less v_plainDigits v_sixteen v_limbCount v_length v_point v_roundLength v_roundPoint v_written v_bodySize a_digit a_tape) sz)) 0 0 (va_A (WS_M_wrong g_this_above g_this_below g_this_limbs g_this_exact g_this_round g_this_out g_this_body h_this h_this_digit h_this_tape c_this_digit c_this_tape v_size v_kind v_number v_exponent v_aboveSize v_belowSize v_state v_digits v_behind v_power v_powerLess v_less v_plainDigits v_sixteen v_limbCount v_length v_point v_roundLength v_roundPoint v_written v_bodySize a_digit a_tape) sz) := by
  refine Met.ofW (cc := b_M_wrong) (maxL := 3) (ret := (some .int)) (by decide) rfl ?_
  intro p e s m args below meth c s₁ B hml hv
  obtain ⟨rfl, hsz, hP, hK, hD0, hX⟩ := hv
  subst hsz
  have cx : cxx p s m ([.ref h_this] : List Value).toArray meth c b_M_wrong 3 (some .int) R_M := ⟨B.exec, B.bytes, B.returns, hml, findClass_of_methodNamed B.named, fun w9 hw => atoms_spec (ws := .code y_M_wrong b_M_wrong 3 (some .int) :: w0) B.pre w9 (List.mem_cons_of_mem _ hw), B.notSynchronized⟩
  have hD := hD0.self (sz := s.heap.size)
  generalize hAe : va_A (WS_M_wrong g_this_above g_this_below g_this_limbs g_this_exact g_this_round g_this_out g_this_body h_this h_this_digit h_this_tape c_this_digit c_this_tape v_size v_kind v_number v_exponent v_aboveSize v_belowSize v_state v_digits v_behind v_power v_powerLess v_less v_plainDigits v_sixteen v_limbCount v_length v_point v_roundLength v_roundPoint v_written v_bodySize a_digit a_tape) s.heap.size = A at hD hX ⊢
  have hA : ∀ q : Nat, s.heap.size ≤ q → A q := fun q h => by rw [← hAe]; exact Or.inr h
  have hS : va_S A s.heap s.heap [] := va_S.rf
  have hl := lv_entry ([.ref h_this]) (n := 3) (Nat.le_of_ble_eq_true rfl)
  rw [lg_entry_eq]
  generalize (lg_sl ([.ref h_this]) ++ List.replicate (3 - (lg_sl ([.ref h_this])).length) Slot.unset).toArray = ls at hl ⊢
  have hl : lv_has ls 3 [(0, .ref h_this)] := hl
  exact s_M_wrong_e cx hK hA hX v_size v_state v_digits v_behind v_power v_powerLess v_less v_plainDigits v_sixteen a_digit a_tape s.heap [] ls hP hD hS hl hf
abbrev WS_M_readWrapping (g_this_tape : Nat) (g_this_above : Nat) (g_this_below : Nat) (g_this_limbs : Nat) (g_this_exact : Nat) (g_this_round : Nat) (g_this_out : Nat) (g_this_body : Nat) (h_this : Nat) (h_this_digit : Nat) (c_this_digit : ClassId) (v_size : Int32) (v_kind : Int32) (v_number : Int64) (v_exponent : Int32) (v_aboveSize : Int32) (v_belowSize : Int32) (v_state : Int32) (v_digits : Int32) (v_behind : Int32) (v_power : Int32) (v_powerLess : Int32) (v_less : Int32) (v_plainDigits : Int32) (v_sixteen : Int32) (v_limbCount : Int32) (v_length : Int32) (v_point : Int32) (v_roundLength : Int32) (v_roundPoint : Int32) (v_written : Int32) (v_bodySize : Int32) (a_digit : (Nat → Int32)) : va_W := [(h_this, .inr (7, [.ref g_this_tape, .int v_size, .int v_kind, .long v_number, .int v_exponent, .ref g_this_above, .int v_aboveSize, .ref g_this_below, .int v_belowSize, .int v_state, .int v_digits, .ref h_this_digit, .int v_behind, .int v_power, .int v_powerLess, .int v_less, .int v_plainDigits, .int v_sixteen, .ref g_this_limbs, .int v_limbCount, .ref g_this_exact, .int v_length, .int v_point, .ref g_this_round, .int v_roundLength, .int v_roundPoint, .ref g_this_out, .int v_written, .ref g_this_body, .int v_bodySize])), (h_this_digit, .inl (c_this_digit, 1200, .inl a_digit))]
def f_M_readWrapping_45 (v_kind : Int32) (v_number : Int64) (v_exponent : Int32) (v_digits : Int32) (v_less : Int32) (a_digit : (Nat → Int32)) (z1 : Int32) (z2 : Int64) : Option (Int32 × Int32 × Int64 × Int32) :=
  bi4 (f_M_set v_kind v_number v_exponent z1 z2 (0 : Int32)) fun r1 v2 v3 v4 =>
  some (r1, v2, v3, v4)
def f_M_readWrapping_30 (v_kind : Int32) (v_number : Int64) (v_exponent : Int32) (v_digits : Int32) (v_less : Int32) (a_digit : (Nat → Int32)) (y1 : Int64) : Option (Int32 × Int32 × Int64 × Int32) :=
  if v_less = 0 then
    f_M_readWrapping_45 v_kind v_number v_exponent v_digits v_less a_digit (1 : Int32) y1
  else
    f_M_readWrapping_45 v_kind v_number v_exponent v_digits v_less a_digit (1 : Int32) (-y1)
def f_M_readWrapping_4b (k4 : Int32 → Int64 → Int32 → Int32 → Int32 → (Nat → Int32) → Int64 → Int32 → Option (Int32 × Int32 × Int64 × Int32)) (v_kind : Int32) (v_number : Int64) (v_exponent : Int32) (v_digits : Int32) (v_less : Int32) (a_digit : (Nat → Int32)) (y1 : Int64) (y3 : Int32) : Option (Int32 × Int32 × Int64 × Int32) :=
  if v_digits ≤ y3 then
    f_M_readWrapping_30 v_kind v_number v_exponent v_digits v_less a_digit y1
  else
    ck (gin y3 1200) <|
    bd ((lsl y1 (4 : Int32)) ||| ((a_digit y3.toNatClampNeg).toInt64)) fun x8 =>
    bd (y3 + (1 : Int32)) fun x9 =>
    k4 v_kind v_number v_exponent v_digits v_less a_digit x8 x9
def f_M_readWrapping_4 : Nat → Int32 → Int64 → Int32 → Int32 → Int32 → (Nat → Int32) → Int64 → Int32 → Option (Int32 × Int32 × Int64 × Int32)
  | 0 => fun _ _ _ _ _ _ _ _ => none
  | n + 1 => fun v_kind v_number v_exponent v_digits v_less a_digit y1 y3 => f_M_readWrapping_4b (f_M_readWrapping_4 n) v_kind v_number v_exponent v_digits v_less a_digit y1 y3
def f_M_readWrapping (v_kind : Int32) (v_number : Int64) (v_exponent : Int32) (v_digits : Int32) (v_less : Int32) (a_digit : (Nat → Int32)) : Option (Int32 × Int32 × Int64 × Int32) :=
  f_M_readWrapping_4 fu v_kind v_number v_exponent v_digits v_less a_digit (0 : Int64) (0 : Int32)
set_option maxHeartbeats 4000000 in
set_option maxRecDepth 100000 in
theorem s_M_readWrapping_45 {p : Program} {l : Launch} {e : Env} {s : State} {m : MethodId} {args : Array Value} {below : List Frame} {meth : Method} {c : Code} {dC : Nat → ClassId} {dI : Nat → Nat → Nat} {A : Nat → Prop} {X : SXT} {g_this_tape : Nat} {g_this_above : Nat} {g_this_below : Nat} {g_this_limbs : Nat} {g_this_exact : Nat} {g_this_round : Nat} {g_this_out : Nat} {g_this_body : Nat} {h_this : Nat} {h_this_digit : Nat} {c_this_digit : ClassId} {v_size : Int32} {v_aboveSize : Int32} {v_belowSize : Int32} {v_state : Int32} {v_behind : Int32} {v_power : Int32} {v_powerLess : Int32} {v_plainDigits : Int32} {v_sixteen : Int32} {v_limbCount : Int32} {v_length : Int32} {v_point : Int32} {v_roundLength : Int32} {v_roundPoint : Int32} {v_written : Int32} {v_bodySize : Int32} {res : Int32 × Int32 × Int64 × Int32}  (cx : cxx p s m args meth c b_M_readWrapping 4 (some .int) R_M) (hK : va_K (dC, dI) classes [(c_this_digit, .byte)] s) (hA : ∀ q, s.heap.size ≤ q → A q) (hX : SX X A s s.heap)  : ∀ (v_kind : Int32) (v_number : Int64) (v_exponent : Int32) (v_digits : Int32) (v_less : Int32) (a_digit : (Nat → Int32)) (z1 : Int32) (z2 : Int64) (H : Heap) (locs : List Loc) (ls : Array Slot), va_P (dC, dI) classes (WS_M_readWrapping g_this_tape g_this_above g_this_below g_this_limbs g_this_exact g_this_round g_this_out g_this_body h_this h_this_digit c_this_digit v_size v_kind v_number v_exponent v_aboveSize v_belowSize v_state v_digits v_behind v_power v_powerLess v_less v_plainDigits v_sixteen v_limbCount v_length v_point v_roundLength v_roundPoint v_written v_bodySize a_digit) H → va_D A (WS_M_readWrapping g_this_tape g_this_above g_this_below g_this_limbs g_this_exact g_this_round g_this_out g_this_body h_this h_this_digit c_this_digit v_size v_kind v_number v_exponent v_aboveSize v_belowSize v_state v_digits v_behind v_power v_powerLess v_less v_plainDigits v_sixteen v_limbCount v_length v_point v_roundLength v_roundPoint v_written v_bodySize a_digit) → va_S A s.heap H locs → lv_has ls 4 [(0, .ref h_this)] → f_M_readWrapping_45 v_kind v_number v_exponent v_digits v_less a_digit z1 z2 = some res → W p l e ({ frames := 1, cells := 0, slots := 0, locals := 24 }) s m args below meth c H locs 0 0 (MQ below (va_Qi (fun (r : Int32) (u : Int32 × Int64 × Int32) => some (r, u) = some res) (gB (dC, dI) [(c_this_digit, .byte)] A (fun (u : Int32 × Int64 × Int32) => (WS_M_readWrapping g_this_tape g_this_above g_this_below g_this_limbs g_this_exact g_this_round g_this_out g_this_body h_this h_this_digit c_this_digit v_size u.1 u.2.1 u.2.2 v_aboveSize v_belowSize v_state v_digits v_behind v_power v_powerLess v_less v_plainDigits v_sixteen v_limbCount v_length v_point v_roundLength v_roundPoint v_written v_bodySize a_digit))) A) args s 0 0 A) (F0 m 45 ls [.long z2, .int z1, .ref h_this]) := by
  intro v_kind v_number v_exponent v_digits v_less a_digit z1 z2 H locs ls hP hD hS hl h
  obtain ⟨hx, hb, hr, hml, hown, ht, hlk⟩ := id cx
  refine lv_iconst (v := 0) hx hb d_M_readWrapping_45 (by decide) ?_
  obtain ⟨r1, v2, v3, v4, hf, h⟩ := bi4_x h
  refine clVi (D := (dC, dI)) (n := 3) (As := [.int z1, .long z2, .int (0 : Int32)]) ⟨hx, hb, hml, hown, ht⟩ (c_M_set l dC dI X g_this_tape g_this_above g_this_below h_this_digit g_this_limbs g_this_exact g_this_round g_this_out g_this_body h_this H.size v_size v_kind v_number v_exponent v_aboveSize v_belowSize v_state v_digits v_behind v_power v_powerLess v_less v_plainDigits v_sixteen v_limbCount v_length v_point v_roundLength v_roundPoint v_written v_bodySize z1 z2 (0 : Int32) (r1, v2, v3, v4) hf) (gV q_487 q_488 q_489 q_490 q_491) (by decide +kernel) ⟨rfl, rfl, Nat.le_of_ble_eq_true rfl, Nat.le_of_ble_eq_true rfl⟩ hK hP hD hS hA hX [0] [1] [] rfl (wr := [(h_this_digit, .inl (c_this_digit, 1200, .inl a_digit))]) rfl (by decide) (by decide) (by decide) rfl (va_recv hK hP (ci := 7) (q0 := 0) rfl rfl) rfl hl.1 rfl (lv_room (Nat.le_of_ble_eq_true rfl)) d_M_readWrapping_46 ⟨Nat.zero_le _, Nat.zero_le _⟩ (fun r9 u9 H locs h9 hP hD hS => ?_)
  cases h9
  have hP : va_P (dC, dI) classes (WS_M_readWrapping g_this_tape g_this_above g_this_below g_this_limbs g_this_exact g_this_round g_this_out g_this_body h_this h_this_digit c_this_digit v_size v2 v3 v4 v_aboveSize v_belowSize v_state v_digits v_behind v_power v_powerLess v_less v_plainDigits v_sixteen v_limbCount v_length v_point v_roundLength v_roundPoint v_written v_bodySize a_digit) H := hP.sub [1, 0] rfl
  have hD : va_D A (WS_M_readWrapping g_this_tape g_this_above g_this_below g_this_limbs g_this_exact g_this_round g_this_out g_this_body h_this h_this_digit c_this_digit v_size v2 v3 v4 v_aboveSize v_belowSize v_state v_digits v_behind v_power v_powerLess v_less v_plainDigits v_sixteen v_limbCount v_length v_point v_roundLength v_roundPoint v_written v_bodySize a_digit) := hD.sub [1, 0] (by decide) rfl
  exact W.iret (v := r1) hx hb hr (fun t ht9 hW => ⟨⟨r1, (v2, v3, v4), rfl, h, by rw [ht9]; exact hP, va_K.moved hW.alike hK, hD⟩, hS.F ht9⟩) hS.2.2 d_M_readWrapping_49 hlk
set_option maxHeartbeats 4000000 in
set_option maxRecDepth 100000 in
theorem s_M_readWrapping_30 {p : Program} {l : Launch} {e : Env} {s : State} {m : MethodId} {args : Array Value} {below : List Frame} {meth : Method} {c : Code} {dC : Nat → ClassId} {dI : Nat → Nat → Nat} {A : Nat → Prop} {X : SXT} {g_this_tape : Nat} {g_this_above : Nat} {g_this_below : Nat} {g_this_limbs : Nat} {g_this_exact : Nat} {g_this_round : Nat} {g_this_out : Nat} {g_this_body : Nat} {h_this : Nat} {h_this_digit : Nat} {c_this_digit : ClassId} {v_size : Int32} {v_aboveSize : Int32} {v_belowSize : Int32} {v_state : Int32} {v_behind : Int32} {v_power : Int32} {v_powerLess : Int32} {v_plainDigits : Int32} {v_sixteen : Int32} {v_limbCount : Int32} {v_length : Int32} {v_point : Int32} {v_roundLength : Int32} {v_roundPoint : Int32} {v_written : Int32} {v_bodySize : Int32} {res : Int32 × Int32 × Int64 × Int32}  (cx : cxx p s m args meth c b_M_readWrapping 4 (some .int) R_M) (hK : va_K (dC, dI) classes [(c_this_digit, .byte)] s) (hA : ∀ q, s.heap.size ≤ q → A q) (hX : SX X A s s.heap)  : ∀ (v_kind : Int32) (v_number : Int64) (v_exponent : Int32) (v_digits : Int32) (v_less : Int32) (a_digit : (Nat → Int32)) (y1 : Int64) (H : Heap) (locs : List Loc) (ls : Array Slot), va_P (dC, dI) classes (WS_M_readWrapping g_this_tape g_this_above g_this_below g_this_limbs g_this_exact g_this_round g_this_out g_this_body h_this h_this_digit c_this_digit v_size v_kind v_number v_exponent v_aboveSize v_belowSize v_state v_digits v_behind v_power v_powerLess v_less v_plainDigits v_sixteen v_limbCount v_length v_point v_roundLength v_roundPoint v_written v_bodySize a_digit) H → va_D A (WS_M_readWrapping g_this_tape g_this_above g_this_below g_this_limbs g_this_exact g_this_round g_this_out g_this_body h_this h_this_digit c_this_digit v_size v_kind v_number v_exponent v_aboveSize v_belowSize v_state v_digits v_behind v_power v_powerLess v_less v_plainDigits v_sixteen v_limbCount v_length v_point v_roundLength v_roundPoint v_written v_bodySize a_digit) → va_S A s.heap H locs → lv_has ls 4 [(0, .ref h_this), (1, .long y1)] → f_M_readWrapping_30 v_kind v_number v_exponent v_digits v_less a_digit y1 = some res → W p l e ({ frames := 1, cells := 0, slots := 0, locals := 24 }) s m args below meth c H locs 0 0 (MQ below (va_Qi (fun (r : Int32) (u : Int32 × Int64 × Int32) => some (r, u) = some res) (gB (dC, dI) [(c_this_digit, .byte)] A (fun (u : Int32 × Int64 × Int32) => (WS_M_readWrapping g_this_tape g_this_above g_this_below g_this_limbs g_this_exact g_this_round g_this_out g_this_body h_this h_this_digit c_this_digit v_size u.1 u.2.1 u.2.2 v_aboveSize v_belowSize v_state v_digits v_behind v_power v_powerLess v_less v_plainDigits v_sixteen v_limbCount v_length v_point v_roundLength v_roundPoint v_written v_bodySize a_digit))) A) args s 0 0 A) (F0 m 30 ls []) := by
  intro v_kind v_number v_exponent v_digits v_less a_digit y1 H locs ls hP hD hS hl h
  obtain ⟨hx, hb, hr, hml, hown, ht, hlk⟩ := id cx
  refine lv_aload_n hx hb d_M_readWrapping_30 rfl (lv_at hl 0 rfl) ?_
  refine lv_iconst (v := 1) hx hb d_M_readWrapping_31 (by decide) ?_
  refine lv_aload_n hx hb d_M_readWrapping_32 rfl (lv_at hl 0 rfl) ?_
  refine va_get (D := (dC, dI)) (ci := 7) (v := .int v_less) (C := R_M) (T := F_M) (N := 30) hx hb ht i_M hown hK hP 0 rfl rfl 15 (by decide) (ht _ q_530) (fun _ h9 => h9) rfl d_M_readWrapping_33 ?_
  refine lv_if_eq (tgt := 44) hx hb d_M_readWrapping_36 (by decide) (fun c5 => ?_) (fun c5 => ?_)
  · have h := if_t c5 h
    refine lv_lload_n hx hb d_M_readWrapping_44 rfl (lv_at hl 1 rfl) ?_
    exact s_M_readWrapping_45 cx hK hA hX v_kind v_number v_exponent v_digits v_less a_digit (1 : Int32) y1 H locs ls hP hD hS (lv_sub hl [0] rfl) h
  · have h := if_f c5 h
    refine lv_lload_n hx hb d_M_readWrapping_39 rfl (lv_at hl 1 rfl) ?_
    refine lv_lneg hx hb d_M_readWrapping_40 ?_
    refine lv_goto (tgt := 45) hx hb d_M_readWrapping_41 (by decide) ?_
    exact s_M_readWrapping_45 cx hK hA hX v_kind v_number v_exponent v_digits v_less a_digit (1 : Int32) (-y1) H locs ls hP hD hS (lv_sub hl [0] rfl) h
set_option maxHeartbeats 4000000 in
set_option maxRecDepth 100000 in
theorem s_M_readWrapping_4b {p : Program} {l : Launch} {e : Env} {s : State} {m : MethodId} {args : Array Value} {below : List Frame} {meth : Method} {c : Code} {dC : Nat → ClassId} {dI : Nat → Nat → Nat} {A : Nat → Prop} {X : SXT} {g_this_tape : Nat} {g_this_above : Nat} {g_this_below : Nat} {g_this_limbs : Nat} {g_this_exact : Nat} {g_this_round : Nat} {g_this_out : Nat} {g_this_body : Nat} {h_this : Nat} {h_this_digit : Nat} {c_this_digit : ClassId} {v_size : Int32} {v_aboveSize : Int32} {v_belowSize : Int32} {v_state : Int32} {v_behind : Int32} {v_power : Int32} {v_powerLess : Int32} {v_plainDigits : Int32} {v_sixteen : Int32} {v_limbCount : Int32} {v_length : Int32} {v_point : Int32} {v_roundLength : Int32} {v_roundPoint : Int32} {v_written : Int32} {v_bodySize : Int32} {res : Int32 × Int32 × Int64 × Int32} {k4 : Int32 → Int64 → Int32 → Int32 → Int32 → (Nat → Int32) → Int64 → Int32 → Option (Int32 × Int32 × Int64 × Int32)} (cx : cxx p s m args meth c b_M_readWrapping 4 (some .int) R_M) (hK : va_K (dC, dI) classes [(c_this_digit, .byte)] s) (hA : ∀ q, s.heap.size ≤ q → A q) (hX : SX X A s s.heap) (hk4 : ∀ (v_kind : Int32) (v_number : Int64) (v_exponent : Int32) (v_digits : Int32) (v_less : Int32) (a_digit : (Nat → Int32)) (y1 : Int64) (y3 : Int32) (H : Heap) (locs : List Loc) (ls : Array Slot), va_P (dC, dI) classes (WS_M_readWrapping g_this_tape g_this_above g_this_below g_this_limbs g_this_exact g_this_round g_this_out g_this_body h_this h_this_digit c_this_digit v_size v_kind v_number v_exponent v_aboveSize v_belowSize v_state v_digits v_behind v_power v_powerLess v_less v_plainDigits v_sixteen v_limbCount v_length v_point v_roundLength v_roundPoint v_written v_bodySize a_digit) H → va_D A (WS_M_readWrapping g_this_tape g_this_above g_this_below g_this_limbs g_this_exact g_this_round g_this_out g_this_body h_this h_this_digit c_this_digit v_size v_kind v_number v_exponent v_aboveSize v_belowSize v_state v_digits v_behind v_power v_powerLess v_less v_plainDigits v_sixteen v_limbCount v_length v_point v_roundLength v_roundPoint v_written v_bodySize a_digit) → va_S A s.heap H locs → lv_has ls 4 [(0, .ref h_this), (1, .long y1), (3, .int y3)] → k4 v_kind v_number v_exponent v_digits v_less a_digit y1 y3 = some res → W p l e ({ frames := 1, cells := 0, slots := 0, locals := 24 }) s m args below meth c H locs 0 0 (MQ below (va_Qi (fun (r : Int32) (u : Int32 × Int64 × Int32) => some (r, u) = some res) (gB (dC, dI) [(c_this_digit, .byte)] A (fun (u : Int32 × Int64 × Int32) => (WS_M_readWrapping g_this_tape g_this_above g_this_below g_this_limbs g_this_exact g_this_round g_this_out g_this_body h_this h_this_digit c_this_digit v_size u.1 u.2.1 u.2.2 v_aboveSize v_belowSize v_state v_digits v_behind v_power v_powerLess v_less v_plainDigits v_sixteen v_limbCount v_length v_point v_roundLength v_roundPoint v_written v_bodySize a_digit))) A) args s 0 0 A) (F0 m 4 ls [])) : ∀ (v_kind : Int32) (v_number : Int64) (v_exponent : Int32) (v_digits : Int32) (v_less : Int32) (a_digit : (Nat → Int32)) (y1 : Int64) (y3 : Int32) (H : Heap) (locs : List Loc) (ls : Array Slot), va_P (dC, dI) classes (WS_M_readWrapping g_this_tape g_this_above g_this_below g_this_limbs g_this_exact g_this_round g_this_out g_this_body h_this h_this_digit c_this_digit v_size v_kind v_number v_exponent v_aboveSize v_belowSize v_state v_digits v_behind v_power v_powerLess v_less v_plainDigits v_sixteen v_limbCount v_length v_point v_roundLength v_roundPoint v_written v_bodySize a_digit) H → va_D A (WS_M_readWrapping g_this_tape g_this_above g_this_below g_this_limbs g_this_exact g_this_round g_this_out g_this_body h_this h_this_digit c_this_digit v_size v_kind v_number v_exponent v_aboveSize v_belowSize v_state v_digits v_behind v_power v_powerLess v_less v_plainDigits v_sixteen v_limbCount v_length v_point v_roundLength v_roundPoint v_written v_bodySize a_digit) → va_S A s.heap H locs → lv_has ls 4 [(0, .ref h_this), (1, .long y1), (3, .int y3)] → f_M_readWrapping_4b k4 v_kind v_number v_exponent v_digits v_less a_digit y1 y3 = some res → W p l e ({ frames := 1, cells := 0, slots := 0, locals := 24 }) s m args below meth c H locs 0 0 (MQ below (va_Qi (fun (r : Int32) (u : Int32 × Int64 × Int32) => some (r, u) = some res) (gB (dC, dI) [(c_this_digit, .byte)] A (fun (u : Int32 × Int64 × Int32) => (WS_M_readWrapping g_this_tape g_this_above g_this_below g_this_limbs g_this_exact g_this_round g_this_out g_this_body h_this h_this_digit c_this_digit v_size u.1 u.2.1 u.2.2 v_aboveSize v_belowSize v_state v_digits v_behind v_power v_powerLess v_less v_plainDigits v_sixteen v_limbCount v_length v_point v_roundLength v_roundPoint v_written v_bodySize a_digit))) A) args s 0 0 A) (F0 m 4 ls []) := by
  intro v_kind v_number v_exponent v_digits v_less a_digit y1 y3 H locs ls hP hD hS hl h
  obtain ⟨hx, hb, hr, hml, hown, ht, hlk⟩ := id cx
  refine lv_iload_n hx hb d_M_readWrapping_4 rfl (lv_at hl 2 rfl) ?_
  refine lv_aload_n hx hb d_M_readWrapping_5 rfl (lv_at hl 0 rfl) ?_
  refine va_get (D := (dC, dI)) (ci := 7) (v := .int v_digits) (C := R_M) (T := F_M) (N := 30) hx hb ht i_M hown hK hP 0 rfl rfl 10 (by decide) (ht _ q_526) (fun _ h9 => h9) rfl d_M_readWrapping_6 ?_
  refine lv_icmp_ge (tgt := 30) hx hb d_M_readWrapping_9 (by decide) (fun c6 => ?_) (fun c6 => ?_)
  · have h := if_t c6 h
    exact s_M_readWrapping_30 cx hK hA hX v_kind v_number v_exponent v_digits v_less a_digit y1 H locs ls hP hD hS (lv_sub hl [0, 1] rfl) h
  · have h := if_f c6 h
    refine lv_lload_n hx hb d_M_readWrapping_12 rfl (lv_at hl 1 rfl) ?_
    refine lv_iconst (v := 4) hx hb d_M_readWrapping_13 (by decide) ?_
    refine lv_lshl (v := lsl y1 (4 : Int32)) hx hb d_M_readWrapping_14 rfl ?_
    refine lv_aload_n hx hb d_M_readWrapping_15 rfl (lv_at hl 0 rfl) ?_
    refine va_get (D := (dC, dI)) (ci := 7) (v := .ref h_this_digit) (C := R_M) (T := F_M) (N := 30) hx hb ht i_M hown hK hP 0 rfl rfl 11 (by decide) (ht _ q_525) (fun _ h9 => h9) rfl d_M_readWrapping_16 ?_
    refine lv_iload_n hx hb d_M_readWrapping_19 rfl (lv_at hl 2 rfl) ?_
    obtain ⟨c7, h⟩ := ck_x h
    refine va_bald (D := (dC, dI)) hx hb hK hP 1 0 rfl rfl c7 d_M_readWrapping_20 ?_
    refine lv_i2l (v := (a_digit y3.toNatClampNeg).toInt64) hx hb d_M_readWrapping_21 rfl ?_
    refine lv_lor hx hb d_M_readWrapping_22 ?_
    refine lv_topl (fun x8 e_x8 => ?_)
    have h := bd_g e_x8 h
    refine lv_lstore_n (lv' := [(1, .long x8), (0, .ref h_this), (3, .int y3)]) hx hb d_M_readWrapping_23 rfl hl (by decide) rfl (fun ls hl => ?_)
    obtain ⟨x9, e_x9⟩ : ∃ y : Int32, y = y3 + (1 : Int32) := ⟨_, rfl⟩
    refine lv_iinc (v := x9) (lv' := [(3, .int x9), (1, .long x8), (0, .ref h_this)]) hx hb d_M_readWrapping_24 hl (k := 2) rfl (by rw [e_x9]; rfl) (by decide) rfl (fun ls hl => ?_)
    have h := bd_g e_x9 h
    refine lv_goto (tgt := 4) hx hb d_M_readWrapping_27 (by decide) ?_
    exact hk4 v_kind v_number v_exponent v_digits v_less a_digit x8 x9 H locs ls hP hD hS (lv_sub hl [2, 1, 0] rfl) h
set_option maxHeartbeats 4000000 in
set_option maxRecDepth 100000 in
theorem s_M_readWrapping_4 {p : Program} {l : Launch} {e : Env} {s : State} {m : MethodId} {args : Array Value} {below : List Frame} {meth : Method} {c : Code} {dC : Nat → ClassId} {dI : Nat → Nat → Nat} {A : Nat → Prop} {X : SXT} {g_this_tape : Nat} {g_this_above : Nat} {g_this_below : Nat} {g_this_limbs : Nat} {g_this_exact : Nat} {g_this_round : Nat} {g_this_out : Nat} {g_this_body : Nat} {h_this : Nat} {h_this_digit : Nat} {c_this_digit : ClassId} {v_size : Int32} {v_aboveSize : Int32} {v_belowSize : Int32} {v_state : Int32} {v_behind : Int32} {v_power : Int32} {v_powerLess : Int32} {v_plainDigits : Int32} {v_sixteen : Int32} {v_limbCount : Int32} {v_length : Int32} {v_point : Int32} {v_roundLength : Int32} {v_roundPoint : Int32} {v_written : Int32} {v_bodySize : Int32} {res : Int32 × Int32 × Int64 × Int32}  (cx : cxx p s m args meth c b_M_readWrapping 4 (some .int) R_M) (hK : va_K (dC, dI) classes [(c_this_digit, .byte)] s) (hA : ∀ q, s.heap.size ≤ q → A q) (hX : SX X A s s.heap)  : ∀ n : Nat, ∀ (v_kind : Int32) (v_number : Int64) (v_exponent : Int32) (v_digits : Int32) (v_less : Int32) (a_digit : (Nat → Int32)) (y1 : Int64) (y3 : Int32) (H : Heap) (locs : List Loc) (ls : Array Slot), va_P (dC, dI) classes (WS_M_readWrapping g_this_tape g_this_above g_this_below g_this_limbs g_this_exact g_this_round g_this_out g_this_body h_this h_this_digit c_this_digit v_size v_kind v_number v_exponent v_aboveSize v_belowSize v_state v_digits v_behind v_power v_powerLess v_less v_plainDigits v_sixteen v_limbCount v_length v_point v_roundLength v_roundPoint v_written v_bodySize a_digit) H → va_D A (WS_M_readWrapping g_this_tape g_this_above g_this_below g_this_limbs g_this_exact g_this_round g_this_out g_this_body h_this h_this_digit c_this_digit v_size v_kind v_number v_exponent v_aboveSize v_belowSize v_state v_digits v_behind v_power v_powerLess v_less v_plainDigits v_sixteen v_limbCount v_length v_point v_roundLength v_roundPoint v_written v_bodySize a_digit) → va_S A s.heap H locs → lv_has ls 4 [(0, .ref h_this), (1, .long y1), (3, .int y3)] → f_M_readWrapping_4 n v_kind v_number v_exponent v_digits v_less a_digit y1 y3 = some res → W p l e ({ frames := 1, cells := 0, slots := 0, locals := 24 }) s m args below meth c H locs 0 0 (MQ below (va_Qi (fun (r : Int32) (u : Int32 × Int64 × Int32) => some (r, u) = some res) (gB (dC, dI) [(c_this_digit, .byte)] A (fun (u : Int32 × Int64 × Int32) => (WS_M_readWrapping g_this_tape g_this_above g_this_below g_this_limbs g_this_exact g_this_round g_this_out g_this_body h_this h_this_digit c_this_digit v_size u.1 u.2.1 u.2.2 v_aboveSize v_belowSize v_state v_digits v_behind v_power v_powerLess v_less v_plainDigits v_sixteen v_limbCount v_length v_point v_roundLength v_roundPoint v_written v_bodySize a_digit))) A) args s 0 0 A) (F0 m 4 ls []) := by
  intro n
  induction n with
  | zero =>
    intro v_kind v_number v_exponent v_digits v_less a_digit y1 y3 H locs ls hP hD hS hl h
    have h9 : (none : Option (Int32 × Int32 × Int64 × Int32)) = some res := h
    cases h9
  | succ n ih =>
    intro v_kind v_number v_exponent v_digits v_less a_digit y1 y3 H locs ls hP hD hS hl h
    exact s_M_readWrapping_4b cx hK hA hX ih v_kind v_number v_exponent v_digits v_less a_digit y1 y3 H locs ls hP hD hS hl h
set_option maxHeartbeats 4000000 in
set_option maxRecDepth 100000 in
theorem s_M_readWrapping_e {p : Program} {l : Launch} {e : Env} {s : State} {m : MethodId} {args : Array Value} {below : List Frame} {meth : Method} {c : Code} {dC : Nat → ClassId} {dI : Nat → Nat → Nat} {A : Nat → Prop} {X : SXT} {g_this_tape : Nat} {g_this_above : Nat} {g_this_below : Nat} {g_this_limbs : Nat} {g_this_exact : Nat} {g_this_round : Nat} {g_this_out : Nat} {g_this_body : Nat} {h_this : Nat} {h_this_digit : Nat} {c_this_digit : ClassId} {v_size : Int32} {v_aboveSize : Int32} {v_belowSize : Int32} {v_state : Int32} {v_behind : Int32} {v_power : Int32} {v_powerLess : Int32} {v_plainDigits : Int32} {v_sixteen : Int32} {v_limbCount : Int32} {v_length : Int32} {v_point : Int32} {v_roundLength : Int32} {v_roundPoint : Int32} {v_written : Int32} {v_bodySize : Int32} {res : Int32 × Int32 × Int64 × Int32} (cx : cxx p s m args meth c b_M_readWrapping 4 (some .int) R_M) (hK : va_K (dC, dI) classes [(c_this_digit, .byte)] s) (hA : ∀ q, s.heap.size ≤ q → A q) (hX : SX X A s s.heap) : ∀ (v_kind : Int32) (v_number : Int64) (v_exponent : Int32) (v_digits : Int32) (v_less : Int32) (a_digit : (Nat → Int32)) (H : Heap) (locs : List Loc) (ls : Array Slot), va_P (dC, dI) classes (WS_M_readWrapping g_this_tape g_this_above g_this_below g_this_limbs g_this_exact g_this_round g_this_out g_this_body h_this h_this_digit c_this_digit v_size v_kind v_number v_exponent v_aboveSize v_belowSize v_state v_digits v_behind v_power v_powerLess v_less v_plainDigits v_sixteen v_limbCount v_length v_point v_roundLength v_roundPoint v_written v_bodySize a_digit) H → va_D A (WS_M_readWrapping g_this_tape g_this_above g_this_below g_this_limbs g_this_exact g_this_round g_this_out g_this_body h_this h_this_digit c_this_digit v_size v_kind v_number v_exponent v_aboveSize v_belowSize v_state v_digits v_behind v_power v_powerLess v_less v_plainDigits v_sixteen v_limbCount v_length v_point v_roundLength v_roundPoint v_written v_bodySize a_digit) → va_S A s.heap H locs → lv_has ls 4 [(0, .ref h_this)] → f_M_readWrapping v_kind v_number v_exponent v_digits v_less a_digit = some res → W p l e ({ frames := 1, cells := 0, slots := 0, locals := 24 }) s m args below meth c H locs 0 0 (MQ below (va_Qi (fun (r : Int32) (u : Int32 × Int64 × Int32) => some (r, u) = some res) (gB (dC, dI) [(c_this_digit, .byte)] A (fun (u : Int32 × Int64 × Int32) => (WS_M_readWrapping g_this_tape g_this_above g_this_below g_this_limbs g_this_exact g_this_round g_this_out g_this_body h_this h_this_digit c_this_digit v_size u.1 u.2.1 u.2.2 v_aboveSize v_belowSize v_state v_digits v_behind v_power v_powerLess v_less v_plainDigits v_sixteen v_limbCount v_length v_point v_roundLength v_roundPoint v_written v_bodySize a_digit))) A) args s 0 0 A) (F0 m 0 ls []) := by
  intro v_kind v_number v_exponent v_digits v_less a_digit H locs ls hP hD hS hl h
  obtain ⟨hx, hb, hr, hml, hown, ht, hlk⟩ := id cx
  refine lv_lconst (v := 0) hx hb d_M_readWrapping_0 (by decide) ?_
  refine lv_lstore_n (lv' := [(1, .long (0 : Int64)), (0, .ref h_this)]) hx hb d_M_readWrapping_1 rfl hl (by decide) rfl (fun ls hl => ?_)
  refine lv_iconst (v := 0) hx hb d_M_readWrapping_2 (by decide) ?_
  refine lv_istore_n (lv' := [(3, .int (0 : Int32)), (1, .long (0 : Int64)), (0, .ref h_this)]) hx hb d_M_readWrapping_3 rfl hl (by decide) rfl (fun ls hl => ?_)
  exact s_M_readWrapping_4 cx hK hA hX fu v_kind v_number v_exponent v_digits v_less a_digit (0 : Int64) (0 : Int32) H locs ls hP hD hS (lv_sub hl [2, 1, 0] rfl) h
set_option maxHeartbeats 4000000 in
set_option maxRecDepth 100000 in
theorem c_M_readWrapping (l : Launch) (dC : Nat → ClassId) (dI : Nat → Nat → Nat) (X : SXT) (g_this_tape : Nat) (g_this_above : Nat) (g_this_below : Nat) (g_this_limbs : Nat) (g_this_exact : Nat) (g_this_round : Nat) (g_this_out : Nat) (g_this_body : Nat) (h_this : Nat) (h_this_digit : Nat) (c_this_digit : ClassId) (sz : Nat) (v_size : Int32) (v_kind : Int32) (v_number : Int64) (v_exponent : Int32) (v_aboveSize : Int32) (v_belowSize : Int32) (v_state : Int32) (v_digits : Int32) (v_behind : Int32) (v_power : Int32) (v_powerLess : Int32) (v_less : Int32) (v_plainDigits : Int32) (v_sixteen : Int32) (v_limbCount : Int32) (v_length : Int32) (v_point : Int32) (v_roundLength : Int32) (v_roundPoint : Int32) (v_written : Int32) (v_bodySize : Int32) (a_digit : (Nat → Int32)) (res : Int32 × Int32 × Int64 × Int32) (hf : f_M_readWrapping v_kind v_number v_exponent v_digits v_less a_digit = some res) : Met l y_M_readWrapping (.code y_M_readWrapping b_M_readWrapping 4 (some .int) :: w0) ({ frames := 1, cells := 0, slots := 0, locals := 24 }) (va_Pc [.ref h_this] (gP (dC, dI) (WS_M_readWrapping g_this_tape g_this_above g_this_below g_this_limbs g_this_exact g_this_round g_this_out g_this_body h_this h_this_digit c_this_digit v_size v_kind v_number v_exponent v_aboveSize v_belowSize v_state v_digits v_behind v_power v_powerLess v_less v_plainDigits v_sixteen v_limbCount v_length v_point v_roundLength v_roundPoint v_written v_bodySize a_digit) [(c_this_digit, .byte)] sz X)) (va_Qi (fun (r : Int32) (u : Int32 × Int64 × Int32) => some (r, u) = some res) (gB (dC, dI) [(c_this_digit, .byte)] (va_A (WS_M_readWrapping g_this_tape g_this_above g_this_below g_this_limbs g_this_exact g_this_round g_this_out g_this_body h_this h_this_digit c_this_digit v_size v_kind v_number v_exponent v_aboveSize v_belowSize v_state v_digits v_behind v_power v_powerLess v_less v_plainDigits v_sixteen v_limbCount v_length v_point v_roundLength v_roundPoint v_written v_bodySize a_digit) sz) (fun (u : Int32 × Int64 × Int32) => (WS_M_readWrapping g_this_tape g_this_above g_this_below g_this_limbs g_this_exact g_this_round g_this_out g_this_body h_this h_this_digit c_this_digit v_size u.1 u.2.1 u.2.2 v_aboveSize v_belowSize v_state v_digits v_behind v_power v_powerLess v_less v_plainDigits v_sixteen v_limbCount v_length v_point v_roundLength v_roundPoint v_written v_bodySize a_digit))) (va_A (WS_M_readWrapping g_this_tape g_this_above g_this_below g_this_limbs g_this_exact g_this_round g_this_out g_this_body h_this h_this_digit c_this_digit v_size v_kind v_number v_exponent v_aboveSize v_belowSize v_state v_digits v_behind v_power v_powerLess v_less v_plainDigits v_sixteen v_limbCount v_length v_point v_roundLength v_roundPoint v_written v_bodySize a_digit) sz)) 0 0 (va_A (WS_M_readWrapping g_this_tape g_this_above g_this_below g_this_limbs g_this_exact g_this_round g_this_out g_this_body h_this h_this_digit c_this_digit v_size v_kind v_number v_exponent v_aboveSize v_belowSize v_state v_digits v_behind v_power v_powerLess v_less v_plainDigits v_sixteen v_limbCount v_length v_point v_roundLength v_roundPoint v_written v_bodySize a_digit) sz) := by
  refine Met.ofW (cc := b_M_readWrapping) (maxL := 4) (ret := (some .int)) (by decide) rfl ?_
  intro p e s m args below meth c s₁ B hml hv
  obtain ⟨rfl, hsz, hP, hK, hD0, hX⟩ := hv
  subst hsz
  have cx : cxx p s m ([.ref h_this] : List Value).toArray meth c b_M_readWrapping 4 (some .int) R_M := ⟨B.exec, B.bytes, B.returns, hml, findClass_of_methodNamed B.named, fun w9 hw => atoms_spec (ws := .code y_M_readWrapping b_M_readWrapping 4 (some .int) :: w0) B.pre w9 (List.mem_cons_of_mem _ hw), B.notSynchronized⟩
  have hD := hD0.self (sz := s.heap.size)
  generalize hAe : va_A (WS_M_readWrapping g_this_tape g_this_above g_this_below g_this_limbs g_this_exact g_this_round g_this_out g_this_body h_this h_this_digit c_this_digit v_size v_kind v_number v_exponent v_aboveSize v_belowSize v_state v_digits v_behind v_power v_powerLess v_less v_plainDigits v_sixteen v_limbCount v_length v_point v_roundLength v_roundPoint v_written v_bodySize a_digit) s.heap.size = A at hD hX ⊢
  have hA : ∀ q : Nat, s.heap.size ≤ q → A q := fun q h => by rw [← hAe]; exact Or.inr h
  have hS : va_S A s.heap s.heap [] := va_S.rf
  have hl := lv_entry ([.ref h_this]) (n := 4) (Nat.le_of_ble_eq_true rfl)
  rw [lg_entry_eq]
  generalize (lg_sl ([.ref h_this]) ++ List.replicate (4 - (lg_sl ([.ref h_this])).length) Slot.unset).toArray = ls at hl ⊢
  have hl : lv_has ls 4 [(0, .ref h_this)] := hl
  exact s_M_readWrapping_e cx hK hA hX v_kind v_number v_exponent v_digits v_less a_digit s.heap [] ls hP hD hS hl hf
abbrev WS_M_fitsWhole (g_this_tape : Nat) (g_this_above : Nat) (g_this_below : Nat) (g_this_limbs : Nat) (g_this_exact : Nat) (g_this_round : Nat) (g_this_out : Nat) (g_this_body : Nat) (h_this : Nat) (h_this_digit : Nat) (c_this_digit : ClassId) (v_size : Int32) (v_kind : Int32) (v_number : Int64) (v_exponent : Int32) (v_aboveSize : Int32) (v_belowSize : Int32) (v_state : Int32) (v_digits : Int32) (v_behind : Int32) (v_power : Int32) (v_powerLess : Int32) (v_less : Int32) (v_plainDigits : Int32) (v_sixteen : Int32) (v_limbCount : Int32) (v_length : Int32) (v_point : Int32) (v_roundLength : Int32) (v_roundPoint : Int32) (v_written : Int32) (v_bodySize : Int32) (a_digit : (Nat → Int32)) : va_W := [(h_this, .inr (7, [.ref g_this_tape, .int v_size, .int v_kind, .long v_number, .int v_exponent, .ref g_this_above, .int v_aboveSize, .ref g_this_below, .int v_belowSize, .int v_state, .int v_digits, .ref h_this_digit, .int v_behind, .int v_power, .int v_powerLess, .int v_less, .int v_plainDigits, .int v_sixteen, .ref g_this_limbs, .int v_limbCount, .ref g_this_exact, .int v_length, .int v_point, .ref g_this_round, .int v_roundLength, .int v_roundPoint, .ref g_this_out, .int v_written, .ref g_this_body, .int v_bodySize])), (h_this_digit, .inl (c_this_digit, 1200, .inl a_digit))]
def f_M_fitsWhole_76 (v_kind : Int32) (v_number : Int64) (v_exponent : Int32) (v_digits : Int32) (v_less : Int32) (a_digit : (Nat → Int32)) (z1 : Int32) (z2 : Int64) : Option (Int32 × Int32 × Int64 × Int32) :=
  bi4 (f_M_set v_kind v_number v_exponent z1 z2 (0 : Int32)) fun r1 v2 v3 v4 =>
  some ((1 : Int32), v2, v3, v4)
def f_M_fitsWhole_61 (v_kind : Int32) (v_number : Int64) (v_exponent : Int32) (v_digits : Int32) (v_less : Int32) (a_digit : (Nat → Int32)) (y1 : Int64) : Option (Int32 × Int32 × Int64 × Int32) :=
  if v_less = 0 then
    f_M_fitsWhole_76 v_kind v_number v_exponent v_digits v_less a_digit (1 : Int32) y1
  else
    f_M_fitsWhole_76 v_kind v_number v_exponent v_digits v_less a_digit (1 : Int32) (-y1)
def f_M_fitsWhole_41 (k4 : Int32 → Int64 → Int32 → Int32 → Int32 → (Nat → Int32) → Int64 → Int32 → Option (Int32 × Int32 × Int64 × Int32)) (v_kind : Int32) (v_number : Int64) (v_exponent : Int32) (v_digits : Int32) (v_less : Int32) (a_digit : (Nat → Int32)) (y1 : Int64) (y3 : Int32) : Option (Int32 × Int32 × Int64 × Int32) :=
  ck (gin y3 1200) <|
  bd (((10 : Int64) * y1) + ((a_digit y3.toNatClampNeg).toInt64)) fun x7 =>
  bd (y3 + (1 : Int32)) fun x8 =>
  k4 v_kind v_number v_exponent v_digits v_less a_digit x7 x8
def f_M_fitsWhole_4b (k4 : Int32 → Int64 → Int32 → Int32 → Int32 → (Nat → Int32) → Int64 → Int32 → Option (Int32 × Int32 × Int64 × Int32)) (v_kind : Int32) (v_number : Int64) (v_exponent : Int32) (v_digits : Int32) (v_less : Int32) (a_digit : (Nat → Int32)) (y1 : Int64) (y3 : Int32) : Option (Int32 × Int32 × Int64 × Int32) :=
  if v_digits ≤ y3 then
    f_M_fitsWhole_61 v_kind v_number v_exponent v_digits v_less a_digit y1
  else
    if (922337203685477580 : Int64) < y1 then
      some ((0 : Int32), v_kind, v_number, v_exponent)
    else
      if y1 = (922337203685477580 : Int64) then
        ck (gin y3 1200) <|
        if (a_digit y3.toNatClampNeg) ≤ (7 : Int32) then
          f_M_fitsWhole_41 k4 v_kind v_number v_exponent v_digits v_less a_digit y1 y3
        else
          some ((0 : Int32), v_kind, v_number, v_exponent)
      else
        f_M_fitsWhole_41 k4 v_kind v_number v_exponent v_digits v_less a_digit y1 y3
def f_M_fitsWhole_4 : Nat → Int32 → Int64 → Int32 → Int32 → Int32 → (Nat → Int32) → Int64 → Int32 → Option (Int32 × Int32 × Int64 × Int32)
  | 0 => fun _ _ _ _ _ _ _ _ => none
  | n + 1 => fun v_kind v_number v_exponent v_digits v_less a_digit y1 y3 => f_M_fitsWhole_4b (f_M_fitsWhole_4 n) v_kind v_number v_exponent v_digits v_less a_digit y1 y3
def f_M_fitsWhole (v_kind : Int32) (v_number : Int64) (v_exponent : Int32) (v_digits : Int32) (v_less : Int32) (a_digit : (Nat → Int32)) : Option (Int32 × Int32 × Int64 × Int32) :=
  f_M_fitsWhole_4 fu v_kind v_number v_exponent v_digits v_less a_digit (0 : Int64) (0 : Int32)
set_option maxHeartbeats 4000000 in
set_option maxRecDepth 100000 in
theorem s_M_fitsWhole_76 {p : Program} {l : Launch} {e : Env} {s : State} {m : MethodId} {args : Array Value} {below : List Frame} {meth : Method} {c : Code} {dC : Nat → ClassId} {dI : Nat → Nat → Nat} {A : Nat → Prop} {X : SXT} {g_this_tape : Nat} {g_this_above : Nat} {g_this_below : Nat} {g_this_limbs : Nat} {g_this_exact : Nat} {g_this_round : Nat} {g_this_out : Nat} {g_this_body : Nat} {h_this : Nat} {h_this_digit : Nat} {c_this_digit : ClassId} {v_size : Int32} {v_aboveSize : Int32} {v_belowSize : Int32} {v_state : Int32} {v_behind : Int32} {v_power : Int32} {v_powerLess : Int32} {v_plainDigits : Int32} {v_sixteen : Int32} {v_limbCount : Int32} {v_length : Int32} {v_point : Int32} {v_roundLength : Int32} {v_roundPoint : Int32} {v_written : Int32} {v_bodySize : Int32} {res : Int32 × Int32 × Int64 × Int32}  (cx : cxx p s m args meth c b_M_fitsWhole 4 (some .boolean) R_M) (hK : va_K (dC, dI) classes [(c_this_digit, .byte)] s) (hA : ∀ q, s.heap.size ≤ q → A q) (hX : SX X A s s.heap)  : ∀ (v_kind : Int32) (v_number : Int64) (v_exponent : Int32) (v_digits : Int32) (v_less : Int32) (a_digit : (Nat → Int32)) (z1 : Int32) (z2 : Int64) (H : Heap) (locs : List Loc) (ls : Array Slot), va_P (dC, dI) classes (WS_M_fitsWhole g_this_tape g_this_above g_this_below g_this_limbs g_this_exact g_this_round g_this_out g_this_body h_this h_this_digit c_this_digit v_size v_kind v_number v_exponent v_aboveSize v_belowSize v_state v_digits v_behind v_power v_powerLess v_less v_plainDigits v_sixteen v_limbCount v_length v_point v_roundLength v_roundPoint v_written v_bodySize a_digit) H → va_D A (WS_M_fitsWhole g_this_tape g_this_above g_this_below g_this_limbs g_this_exact g_this_round g_this_out g_this_body h_this h_this_digit c_this_digit v_size v_kind v_number v_exponent v_aboveSize v_belowSize v_state v_digits v_behind v_power v_powerLess v_less v_plainDigits v_sixteen v_limbCount v_length v_point v_roundLength v_roundPoint v_written v_bodySize a_digit) → va_S A s.heap H locs → lv_has ls 4 [(0, .ref h_this)] → f_M_fitsWhole_76 v_kind v_number v_exponent v_digits v_less a_digit z1 z2 = some res → W p l e ({ frames := 1, cells := 0, slots := 0, locals := 24 }) s m args below meth c H locs 0 0 (MQ below (va_Qi (fun (r : Int32) (u : Int32 × Int64 × Int32) => some (r, u) = some res) (gB (dC, dI) [(c_this_digit, .byte)] A (fun (u : Int32 × Int64 × Int32) => (WS_M_fitsWhole g_this_tape g_this_above g_this_below g_this_limbs g_this_exact g_this_round g_this_out g_this_body h_this h_this_digit c_this_digit v_size u.1 u.2.1 u.2.2 v_aboveSize v_belowSize v_state v_digits v_behind v_power v_powerLess v_less v_plainDigits v_sixteen v_limbCount v_length v_point v_roundLength v_roundPoint v_written v_bodySize a_digit))) A) args s 0 0 A) (F0 m 76 ls [.long z2, .int z1, .ref h_this]) := by
  intro v_kind v_number v_exponent v_digits v_less a_digit z1 z2 H locs ls hP hD hS hl h
  obtain ⟨hx, hb, hr, hml, hown, ht, hlk⟩ := id cx
  refine lv_iconst (v := 0) hx hb d_M_fitsWhole_76 (by decide) ?_
  obtain ⟨r1, v2, v3, v4, hf, h⟩ := bi4_x h
  refine clVi (D := (dC, dI)) (n := 3) (As := [.int z1, .long z2, .int (0 : Int32)]) ⟨hx, hb, hml, hown, ht⟩ (c_M_set l dC dI X g_this_tape g_this_above g_this_below h_this_digit g_this_limbs g_this_exact g_this_round g_this_out g_this_body h_this H.size v_size v_kind v_number v_exponent v_aboveSize v_belowSize v_state v_digits v_behind v_power v_powerLess v_less v_plainDigits v_sixteen v_limbCount v_length v_point v_roundLength v_roundPoint v_written v_bodySize z1 z2 (0 : Int32) (r1, v2, v3, v4) hf) (gV q_487 q_488 q_489 q_490 q_491) (by decide +kernel) ⟨rfl, rfl, Nat.le_of_ble_eq_true rfl, Nat.le_of_ble_eq_true rfl⟩ hK hP hD hS hA hX [0] [1] [] rfl (wr := [(h_this_digit, .inl (c_this_digit, 1200, .inl a_digit))]) rfl (by decide) (by decide) (by decide) rfl (va_recv hK hP (ci := 7) (q0 := 0) rfl rfl) rfl hl.1 rfl (lv_room (Nat.le_of_ble_eq_true rfl)) d_M_fitsWhole_77 ⟨Nat.zero_le _, Nat.zero_le _⟩ (fun r9 u9 H locs h9 hP hD hS => ?_)
  cases h9
  have hP : va_P (dC, dI) classes (WS_M_fitsWhole g_this_tape g_this_above g_this_below g_this_limbs g_this_exact g_this_round g_this_out g_this_body h_this h_this_digit c_this_digit v_size v2 v3 v4 v_aboveSize v_belowSize v_state v_digits v_behind v_power v_powerLess v_less v_plainDigits v_sixteen v_limbCount v_length v_point v_roundLength v_roundPoint v_written v_bodySize a_digit) H := hP.sub [1, 0] rfl
  have hD : va_D A (WS_M_fitsWhole g_this_tape g_this_above g_this_below g_this_limbs g_this_exact g_this_round g_this_out g_this_body h_this h_this_digit c_this_digit v_size v2 v3 v4 v_aboveSize v_belowSize v_state v_digits v_behind v_power v_powerLess v_less v_plainDigits v_sixteen v_limbCount v_length v_point v_roundLength v_roundPoint v_written v_bodySize a_digit) := hD.sub [1, 0] (by decide) rfl
  refine lv_pop hx hb d_M_fitsWhole_80 rfl ?_
  refine lv_iconst (v := 1) hx hb d_M_fitsWhole_81 (by decide) ?_
  exact W.zret (v := (1 : Int32)) hx hb hr rfl (fun t ht9 hW => ⟨⟨(1 : Int32), (v2, v3, v4), rfl, h, by rw [ht9]; exact hP, va_K.moved hW.alike hK, hD⟩, hS.F ht9⟩) hS.2.2 d_M_fitsWhole_82 hlk
set_option maxHeartbeats 4000000 in
set_option maxRecDepth 100000 in
theorem s_M_fitsWhole_61 {p : Program} {l : Launch} {e : Env} {s : State} {m : MethodId} {args : Array Value} {below : List Frame} {meth : Method} {c : Code} {dC : Nat → ClassId} {dI : Nat → Nat → Nat} {A : Nat → Prop} {X : SXT} {g_this_tape : Nat} {g_this_above : Nat} {g_this_below : Nat} {g_this_limbs : Nat} {g_this_exact : Nat} {g_this_round : Nat} {g_this_out : Nat} {g_this_body : Nat} {h_this : Nat} {h_this_digit : Nat} {c_this_digit : ClassId} {v_size : Int32} {v_aboveSize : Int32} {v_belowSize : Int32} {v_state : Int32} {v_behind : Int32} {v_power : Int32} {v_powerLess : Int32} {v_plainDigits : Int32} {v_sixteen : Int32} {v_limbCount : Int32} {v_length : Int32} {v_point : Int32} {v_roundLength : Int32} {v_roundPoint : Int32} {v_written : Int32} {v_bodySize : Int32} {res : Int32 × Int32 × Int64 × Int32}  (cx : cxx p s m args meth c b_M_fitsWhole 4 (some .boolean) R_M) (hK : va_K (dC, dI) classes [(c_this_digit, .byte)] s) (hA : ∀ q, s.heap.size ≤ q → A q) (hX : SX X A s s.heap)  : ∀ (v_kind : Int32) (v_number : Int64) (v_exponent : Int32) (v_digits : Int32) (v_less : Int32) (a_digit : (Nat → Int32)) (y1 : Int64) (H : Heap) (locs : List Loc) (ls : Array Slot), va_P (dC, dI) classes (WS_M_fitsWhole g_this_tape g_this_above g_this_below g_this_limbs g_this_exact g_this_round g_this_out g_this_body h_this h_this_digit c_this_digit v_size v_kind v_number v_exponent v_aboveSize v_belowSize v_state v_digits v_behind v_power v_powerLess v_less v_plainDigits v_sixteen v_limbCount v_length v_point v_roundLength v_roundPoint v_written v_bodySize a_digit) H → va_D A (WS_M_fitsWhole g_this_tape g_this_above g_this_below g_this_limbs g_this_exact g_this_round g_this_out g_this_body h_this h_this_digit c_this_digit v_size v_kind v_number v_exponent v_aboveSize v_belowSize v_state v_digits v_behind v_power v_powerLess v_less v_plainDigits v_sixteen v_limbCount v_length v_point v_roundLength v_roundPoint v_written v_bodySize a_digit) → va_S A s.heap H locs → lv_has ls 4 [(0, .ref h_this), (1, .long y1)] → f_M_fitsWhole_61 v_kind v_number v_exponent v_digits v_less a_digit y1 = some res → W p l e ({ frames := 1, cells := 0, slots := 0, locals := 24 }) s m args below meth c H locs 0 0 (MQ below (va_Qi (fun (r : Int32) (u : Int32 × Int64 × Int32) => some (r, u) = some res) (gB (dC, dI) [(c_this_digit, .byte)] A (fun (u : Int32 × Int64 × Int32) => (WS_M_fitsWhole g_this_tape g_this_above g_this_below g_this_limbs g_this_exact g_this_round g_this_out g_this_body h_this h_this_digit c_this_digit v_size u.1 u.2.1 u.2.2 v_aboveSize v_belowSize v_state v_digits v_behind v_power v_powerLess v_less v_plainDigits v_sixteen v_limbCount v_length v_point v_roundLength v_roundPoint v_written v_bodySize a_digit))) A) args s 0 0 A) (F0 m 61 ls []) := by
  intro v_kind v_number v_exponent v_digits v_less a_digit y1 H locs ls hP hD hS hl h
  obtain ⟨hx, hb, hr, hml, hown, ht, hlk⟩ := id cx
  refine lv_aload_n hx hb d_M_fitsWhole_61 rfl (lv_at hl 0 rfl) ?_
  refine lv_iconst (v := 1) hx hb d_M_fitsWhole_62 (by decide) ?_
  refine lv_aload_n hx hb d_M_fitsWhole_63 rfl (lv_at hl 0 rfl) ?_
  refine va_get (D := (dC, dI)) (ci := 7) (v := .int v_less) (C := R_M) (T := F_M) (N := 30) hx hb ht i_M hown hK hP 0 rfl rfl 15 (by decide) (ht _ q_530) (fun _ h9 => h9) rfl d_M_fitsWhole_64 ?_
  refine lv_if_eq (tgt := 75) hx hb d_M_fitsWhole_67 (by decide) (fun c5 => ?_) (fun c5 => ?_)
  · have h := if_t c5 h
    refine lv_lload_n hx hb d_M_fitsWhole_75 rfl (lv_at hl 1 rfl) ?_
    exact s_M_fitsWhole_76 cx hK hA hX v_kind v_number v_exponent v_digits v_less a_digit (1 : Int32) y1 H locs ls hP hD hS (lv_sub hl [0] rfl) h
  · have h := if_f c5 h
    refine lv_lload_n hx hb d_M_fitsWhole_70 rfl (lv_at hl 1 rfl) ?_
    refine lv_lneg hx hb d_M_fitsWhole_71 ?_
    refine lv_goto (tgt := 76) hx hb d_M_fitsWhole_72 (by decide) ?_
    exact s_M_fitsWhole_76 cx hK hA hX v_kind v_number v_exponent v_digits v_less a_digit (1 : Int32) (-y1) H locs ls hP hD hS (lv_sub hl [0] rfl) h
set_option maxHeartbeats 4000000 in
set_option maxRecDepth 100000 in
theorem s_M_fitsWhole_41 {p : Program} {l : Launch} {e : Env} {s : State} {m : MethodId} {args : Array Value} {below : List Frame} {meth : Method} {c : Code} {dC : Nat → ClassId} {dI : Nat → Nat → Nat} {A : Nat → Prop} {X : SXT} {g_this_tape : Nat} {g_this_above : Nat} {g_this_below : Nat} {g_this_limbs : Nat} {g_this_exact : Nat} {g_this_round : Nat} {g_this_out : Nat} {g_this_body : Nat} {h_this : Nat} {h_this_digit : Nat} {c_this_digit : ClassId} {v_size : Int32} {v_aboveSize : Int32} {v_belowSize : Int32} {v_state : Int32} {v_behind : Int32} {v_power : Int32} {v_powerLess : Int32} {v_plainDigits : Int32} {v_sixteen : Int32} {v_limbCount : Int32} {v_length : Int32} {v_point : Int32} {v_roundLength : Int32} {v_roundPoint : Int32} {v_written : Int32} {v_bodySize : Int32} {res : Int32 × Int32 × Int64 × Int32} {k4 : Int32 → Int64 → Int32 → Int32 → Int32 → (Nat → Int32) → Int64 → Int32 → Option (Int32 × Int32 × Int64 × Int32)} (cx : cxx p s m args meth c b_M_fitsWhole 4 (some .boolean) R_M) (hK : va_K (dC, dI) classes [(c_this_digit, .byte)] s) (hA : ∀ q, s.heap.size ≤ q → A q) (hX : SX X A s s.heap) (hk4 : ∀ (v_kind : Int32) (v_number : Int64) (v_exponent : Int32) (v_digits : Int32) (v_less : Int32) (a_digit : (Nat → Int32)) (y1 : Int64) (y3 : Int32) (H : Heap) (locs : List Loc) (ls : Array Slot), va_P (dC, dI) classes (WS_M_fitsWhole g_this_tape g_this_above g_this_below g_this_limbs g_this_exact g_this_round g_this_out g_this_body h_this h_this_digit c_this_digit v_size v_kind v_number v_exponent v_aboveSize v_belowSize v_state v_digits v_behind v_power v_powerLess v_less v_plainDigits v_sixteen v_limbCount v_length v_point v_roundLength v_roundPoint v_written v_bodySize a_digit) H → va_D A (WS_M_fitsWhole g_this_tape g_this_above g_this_below g_this_limbs g_this_exact g_this_round g_this_out g_this_body h_this h_this_digit c_this_digit v_size v_kind v_number v_exponent v_aboveSize v_belowSize v_state v_digits v_behind v_power v_powerLess v_less v_plainDigits v_sixteen v_limbCount v_length v_point v_roundLength v_roundPoint v_written v_bodySize a_digit) → va_S A s.heap H locs → lv_has ls 4 [(0, .ref h_this), (1, .long y1), (3, .int y3)] → k4 v_kind v_number v_exponent v_digits v_less a_digit y1 y3 = some res → W p l e ({ frames := 1, cells := 0, slots := 0, locals := 24 }) s m args below meth c H locs 0 0 (MQ below (va_Qi (fun (r : Int32) (u : Int32 × Int64 × Int32) => some (r, u) = some res) (gB (dC, dI) [(c_this_digit, .byte)] A (fun (u : Int32 × Int64 × Int32) => (WS_M_fitsWhole g_this_tape g_this_above g_this_below g_this_limbs g_this_exact g_this_round g_this_out g_this_body h_this h_this_digit c_this_digit v_size u.1 u.2.1 u.2.2 v_aboveSize v_belowSize v_state v_digits v_behind v_power v_powerLess v_less v_plainDigits v_sixteen v_limbCount v_length v_point v_roundLength v_roundPoint v_written v_bodySize a_digit))) A) args s 0 0 A) (F0 m 4 ls [])) : ∀ (v_kind : Int32) (v_number : Int64) (v_exponent : Int32) (v_digits : Int32) (v_less : Int32) (a_digit : (Nat → Int32)) (y1 : Int64) (y3 : Int32) (H : Heap) (locs : List Loc) (ls : Array Slot), va_P (dC, dI) classes (WS_M_fitsWhole g_this_tape g_this_above g_this_below g_this_limbs g_this_exact g_this_round g_this_out g_this_body h_this h_this_digit c_this_digit v_size v_kind v_number v_exponent v_aboveSize v_belowSize v_state v_digits v_behind v_power v_powerLess v_less v_plainDigits v_sixteen v_limbCount v_length v_point v_roundLength v_roundPoint v_written v_bodySize a_digit) H → va_D A (WS_M_fitsWhole g_this_tape g_this_above g_this_below g_this_limbs g_this_exact g_this_round g_this_out g_this_body h_this h_this_digit c_this_digit v_size v_kind v_number v_exponent v_aboveSize v_belowSize v_state v_digits v_behind v_power v_powerLess v_less v_plainDigits v_sixteen v_limbCount v_length v_point v_roundLength v_roundPoint v_written v_bodySize a_digit) → va_S A s.heap H locs → lv_has ls 4 [(0, .ref h_this), (1, .long y1), (3, .int y3)] → f_M_fitsWhole_41 k4 v_kind v_number v_exponent v_digits v_less a_digit y1 y3 = some res → W p l e ({ frames := 1, cells := 0, slots := 0, locals := 24 }) s m args below meth c H locs 0 0 (MQ below (va_Qi (fun (r : Int32) (u : Int32 × Int64 × Int32) => some (r, u) = some res) (gB (dC, dI) [(c_this_digit, .byte)] A (fun (u : Int32 × Int64 × Int32) => (WS_M_fitsWhole g_this_tape g_this_above g_this_below g_this_limbs g_this_exact g_this_round g_this_out g_this_body h_this h_this_digit c_this_digit v_size u.1 u.2.1 u.2.2 v_aboveSize v_belowSize v_state v_digits v_behind v_power v_powerLess v_less v_plainDigits v_sixteen v_limbCount v_length v_point v_roundLength v_roundPoint v_written v_bodySize a_digit))) A) args s 0 0 A) (F0 m 41 ls []) := by
  intro v_kind v_number v_exponent v_digits v_less a_digit y1 y3 H locs ls hP hD hS hl h
  obtain ⟨hx, hb, hr, hml, hown, ht, hlk⟩ := id cx
  refine lv_ldc2 (v := 10) hx hb hown (ht _ q_542) d_M_fitsWhole_41 ?_
  refine lv_lload_n hx hb d_M_fitsWhole_44 rfl (lv_at hl 1 rfl) ?_
  refine lv_lmul hx hb d_M_fitsWhole_45 ?_
  refine lv_aload_n hx hb d_M_fitsWhole_46 rfl (lv_at hl 0 rfl) ?_
  refine va_get (D := (dC, dI)) (ci := 7) (v := .ref h_this_digit) (C := R_M) (T := F_M) (N := 30) hx hb ht i_M hown hK hP 0 rfl rfl 11 (by decide) (ht _ q_525) (fun _ h9 => h9) rfl d_M_fitsWhole_47 ?_
  refine lv_iload_n hx hb d_M_fitsWhole_50 rfl (lv_at hl 2 rfl) ?_
  obtain ⟨c6, h⟩ := ck_x h
  refine va_bald (D := (dC, dI)) hx hb hK hP 1 0 rfl rfl c6 d_M_fitsWhole_51 ?_
  refine lv_i2l (v := (a_digit y3.toNatClampNeg).toInt64) hx hb d_M_fitsWhole_52 rfl ?_
  refine lv_ladd hx hb d_M_fitsWhole_53 ?_
  refine lv_topl (fun x7 e_x7 => ?_)
  have h := bd_g e_x7 h
  refine lv_lstore_n (lv' := [(1, .long x7), (0, .ref h_this), (3, .int y3)]) hx hb d_M_fitsWhole_54 rfl hl (by decide) rfl (fun ls hl => ?_)
  obtain ⟨x8, e_x8⟩ : ∃ y : Int32, y = y3 + (1 : Int32) := ⟨_, rfl⟩
  refine lv_iinc (v := x8) (lv' := [(3, .int x8), (1, .long x7), (0, .ref h_this)]) hx hb d_M_fitsWhole_55 hl (k := 2) rfl (by rw [e_x8]; rfl) (by decide) rfl (fun ls hl => ?_)
  have h := bd_g e_x8 h
  refine lv_goto (tgt := 4) hx hb d_M_fitsWhole_58 (by decide) ?_
  exact hk4 v_kind v_number v_exponent v_digits v_less a_digit x7 x8 H locs ls hP hD hS (lv_sub hl [2, 1, 0] rfl) h
set_option maxHeartbeats 4000000 in
set_option maxRecDepth 100000 in
theorem s_M_fitsWhole_4b {p : Program} {l : Launch} {e : Env} {s : State} {m : MethodId} {args : Array Value} {below : List Frame} {meth : Method} {c : Code} {dC : Nat → ClassId} {dI : Nat → Nat → Nat} {A : Nat → Prop} {X : SXT} {g_this_tape : Nat} {g_this_above : Nat} {g_this_below : Nat} {g_this_limbs : Nat} {g_this_exact : Nat} {g_this_round : Nat} {g_this_out : Nat} {g_this_body : Nat} {h_this : Nat} {h_this_digit : Nat} {c_this_digit : ClassId} {v_size : Int32} {v_aboveSize : Int32} {v_belowSize : Int32} {v_state : Int32} {v_behind : Int32} {v_power : Int32} {v_powerLess : Int32} {v_plainDigits : Int32} {v_sixteen : Int32} {v_limbCount : Int32} {v_length : Int32} {v_point : Int32} {v_roundLength : Int32} {v_roundPoint : Int32} {v_written : Int32} {v_bodySize : Int32} {res : Int32 × Int32 × Int64 × Int32} {k4 : Int32 → Int64 → Int32 → Int32 → Int32 → (Nat → Int32) → Int64 → Int32 → Option (Int32 × Int32 × Int64 × Int32)} (cx : cxx p s m args meth c b_M_fitsWhole 4 (some .boolean) R_M) (hK : va_K (dC, dI) classes [(c_this_digit, .byte)] s) (hA : ∀ q, s.heap.size ≤ q → A q) (hX : SX X A s s.heap) (hk4 : ∀ (v_kind : Int32) (v_number : Int64) (v_exponent : Int32) (v_digits : Int32) (v_less : Int32) (a_digit : (Nat → Int32)) (y1 : Int64) (y3 : Int32) (H : Heap) (locs : List Loc) (ls : Array Slot), va_P (dC, dI) classes (WS_M_fitsWhole g_this_tape g_this_above g_this_below g_this_limbs g_this_exact g_this_round g_this_out g_this_body h_this h_this_digit c_this_digit v_size v_kind v_number v_exponent v_aboveSize v_belowSize v_state v_digits v_behind v_power v_powerLess v_less v_plainDigits v_sixteen v_limbCount v_length v_point v_roundLength v_roundPoint v_written v_bodySize a_digit) H → va_D A (WS_M_fitsWhole g_this_tape g_this_above g_this_below g_this_limbs g_this_exact g_this_round g_this_out g_this_body h_this h_this_digit c_this_digit v_size v_kind v_number v_exponent v_aboveSize v_belowSize v_state v_digits v_behind v_power v_powerLess v_less v_plainDigits v_sixteen v_limbCount v_length v_point v_roundLength v_roundPoint v_written v_bodySize a_digit) → va_S A s.heap H locs → lv_has ls 4 [(0, .ref h_this), (1, .long y1), (3, .int y3)] → k4 v_kind v_number v_exponent v_digits v_less a_digit y1 y3 = some res → W p l e ({ frames := 1, cells := 0, slots := 0, locals := 24 }) s m args below meth c H locs 0 0 (MQ below (va_Qi (fun (r : Int32) (u : Int32 × Int64 × Int32) => some (r, u) = some res) (gB (dC, dI) [(c_this_digit, .byte)] A (fun (u : Int32 × Int64 × Int32) => (WS_M_fitsWhole g_this_tape g_this_above g_this_below g_this_limbs g_this_exact g_this_round g_this_out g_this_body h_this h_this_digit c_this_digit v_size u.1 u.2.1 u.2.2 v_aboveSize v_belowSize v_state v_digits v_behind v_power v_powerLess v_less v_plainDigits v_sixteen v_limbCount v_length v_point v_roundLength v_roundPoint v_written v_bodySize a_digit))) A) args s 0 0 A) (F0 m 4 ls [])) : ∀ (v_kind : Int32) (v_number : Int64) (v_exponent : Int32) (v_digits : Int32) (v_less : Int32) (a_digit : (Nat → Int32)) (y1 : Int64) (y3 : Int32) (H : Heap) (locs : List Loc) (ls : Array Slot), va_P (dC, dI) classes (WS_M_fitsWhole g_this_tape g_this_above g_this_below g_this_limbs g_this_exact g_this_round g_this_out g_this_body h_this h_this_digit c_this_digit v_size v_kind v_number v_exponent v_aboveSize v_belowSize v_state v_digits v_behind v_power v_powerLess v_less v_plainDigits v_sixteen v_limbCount v_length v_point v_roundLength v_roundPoint v_written v_bodySize a_digit) H → va_D A (WS_M_fitsWhole g_this_tape g_this_above g_this_below g_this_limbs g_this_exact g_this_round g_this_out g_this_body h_this h_this_digit c_this_digit v_size v_kind v_number v_exponent v_aboveSize v_belowSize v_state v_digits v_behind v_power v_powerLess v_less v_plainDigits v_sixteen v_limbCount v_length v_point v_roundLength v_roundPoint v_written v_bodySize a_digit) → va_S A s.heap H locs → lv_has ls 4 [(0, .ref h_this), (1, .long y1), (3, .int y3)] → f_M_fitsWhole_4b k4 v_kind v_number v_exponent v_digits v_less a_digit y1 y3 = some res → W p l e ({ frames := 1, cells := 0, slots := 0, locals := 24 }) s m args below meth c H locs 0 0 (MQ below (va_Qi (fun (r : Int32) (u : Int32 × Int64 × Int32) => some (r, u) = some res) (gB (dC, dI) [(c_this_digit, .byte)] A (fun (u : Int32 × Int64 × Int32) => (WS_M_fitsWhole g_this_tape g_this_above g_this_below g_this_limbs g_this_exact g_this_round g_this_out g_this_body h_this h_this_digit c_this_digit v_size u.1 u.2.1 u.2.2 v_aboveSize v_belowSize v_state v_digits v_behind v_power v_powerLess v_less v_plainDigits v_sixteen v_limbCount v_length v_point v_roundLength v_roundPoint v_written v_bodySize a_digit))) A) args s 0 0 A) (F0 m 4 ls []) := by
  intro v_kind v_number v_exponent v_digits v_less a_digit y1 y3 H locs ls hP hD hS hl h
  obtain ⟨hx, hb, hr, hml, hown, ht, hlk⟩ := id cx
  refine lv_iload_n hx hb d_M_fitsWhole_4 rfl (lv_at hl 2 rfl) ?_
  refine lv_aload_n hx hb d_M_fitsWhole_5 rfl (lv_at hl 0 rfl) ?_
  refine va_get (D := (dC, dI)) (ci := 7) (v := .int v_digits) (C := R_M) (T := F_M) (N := 30) hx hb ht i_M hown hK hP 0 rfl rfl 10 (by decide) (ht _ q_526) (fun _ h9 => h9) rfl d_M_fitsWhole_6 ?_
  refine lv_icmp_ge (tgt := 61) hx hb d_M_fitsWhole_9 (by decide) (fun c9 => ?_) (fun c9 => ?_)
  · have h := if_t c9 h
    exact s_M_fitsWhole_61 cx hK hA hX v_kind v_number v_exponent v_digits v_less a_digit y1 H locs ls hP hD hS (lv_sub hl [0, 1] rfl) h
  · have h := if_f c9 h
    refine lv_lload_n hx hb d_M_fitsWhole_12 rfl (lv_at hl 1 rfl) ?_
    refine lv_ldc2 (v := 922337203685477580) hx hb hown (ht _ q_543) d_M_fitsWhole_13 ?_
    refine W.lcmp hx hb d_M_fitsWhole_16 ?_
    refine lv_if_gt (tgt := 39) hx hb d_M_fitsWhole_17 (by decide) (fun c10 => ?_) (fun c10 => ?_)
    · have c10 := (lg_cmp_gt _ _).mp c10
      have h := if_t c10 h
      refine lv_iconst (v := 0) hx hb d_M_fitsWhole_39 (by decide) ?_
      exact W.zret (v := (0 : Int32)) hx hb hr rfl (fun t ht9 hW => ⟨⟨(0 : Int32), (v_kind, v_number, v_exponent), rfl, h, by rw [ht9]; exact hP, va_K.moved hW.alike hK, hD⟩, hS.F ht9⟩) hS.2.2 d_M_fitsWhole_40 hlk
    · have c10 := fun h9 => c10 ((lg_cmp_gt _ _).mpr h9)
      have h := if_f c10 h
      refine lv_lload_n hx hb d_M_fitsWhole_20 rfl (lv_at hl 1 rfl) ?_
      refine lv_ldc2 (v := 922337203685477580) hx hb hown (ht _ q_543) d_M_fitsWhole_21 ?_
      refine W.lcmp hx hb d_M_fitsWhole_24 ?_
      refine lv_if_ne (tgt := 41) hx hb d_M_fitsWhole_25 (by decide) (fun c11 => ?_) (fun c11 => ?_)
      · have c11 := fun h9 => c11 ((lg_cmp_eq _ _).mpr h9)
        have h := if_f c11 h
        exact s_M_fitsWhole_41 cx hK hA hX hk4 v_kind v_number v_exponent v_digits v_less a_digit y1 y3 H locs ls hP hD hS (lv_sub hl [0, 1, 2] rfl) h
      · have c11 := (lg_cmp_eq _ _).mp c11
        have h := if_t c11 h
        refine lv_aload_n hx hb d_M_fitsWhole_28 rfl (lv_at hl 0 rfl) ?_
        refine va_get (D := (dC, dI)) (ci := 7) (v := .ref h_this_digit) (C := R_M) (T := F_M) (N := 30) hx hb ht i_M hown hK hP 0 rfl rfl 11 (by decide) (ht _ q_525) (fun _ h9 => h9) rfl d_M_fitsWhole_29 ?_
        refine lv_iload_n hx hb d_M_fitsWhole_32 rfl (lv_at hl 2 rfl) ?_
        obtain ⟨c12, h⟩ := ck_x h
        refine va_bald (D := (dC, dI)) hx hb hK hP 1 0 rfl rfl c12 d_M_fitsWhole_33 ?_
        refine lv_bipush (v := 7) hx hb d_M_fitsWhole_34 (by decide) ?_
        refine lv_icmp_le (tgt := 41) hx hb d_M_fitsWhole_36 (by decide) (fun c13 => ?_) (fun c13 => ?_)
        · have h := if_t c13 h
          exact s_M_fitsWhole_41 cx hK hA hX hk4 v_kind v_number v_exponent v_digits v_less a_digit y1 y3 H locs ls hP hD hS (lv_sub hl [0, 1, 2] rfl) h
        · have h := if_f c13 h
          refine lv_iconst (v := 0) hx hb d_M_fitsWhole_39 (by decide) ?_
          exact W.zret (v := (0 : Int32)) hx hb hr rfl (fun t ht9 hW => ⟨⟨(0 : Int32), (v_kind, v_number, v_exponent), rfl, h, by rw [ht9]; exact hP, va_K.moved hW.alike hK, hD⟩, hS.F ht9⟩) hS.2.2 d_M_fitsWhole_40 hlk
set_option maxHeartbeats 4000000 in
set_option maxRecDepth 100000 in
theorem s_M_fitsWhole_4 {p : Program} {l : Launch} {e : Env} {s : State} {m : MethodId} {args : Array Value} {below : List Frame} {meth : Method} {c : Code} {dC : Nat → ClassId} {dI : Nat → Nat → Nat} {A : Nat → Prop} {X : SXT} {g_this_tape : Nat} {g_this_above : Nat} {g_this_below : Nat} {g_this_limbs : Nat} {g_this_exact : Nat} {g_this_round : Nat} {g_this_out : Nat} {g_this_body : Nat} {h_this : Nat} {h_this_digit : Nat} {c_this_digit : ClassId} {v_size : Int32} {v_aboveSize : Int32} {v_belowSize : Int32} {v_state : Int32} {v_behind : Int32} {v_power : Int32} {v_powerLess : Int32} {v_plainDigits : Int32} {v_sixteen : Int32} {v_limbCount : Int32} {v_length : Int32} {v_point : Int32} {v_roundLength : Int32} {v_roundPoint : Int32} {v_written : Int32} {v_bodySize : Int32} {res : Int32 × Int32 × Int64 × Int32}  (cx : cxx p s m args meth c b_M_fitsWhole 4 (some .boolean) R_M) (hK : va_K (dC, dI) classes [(c_this_digit, .byte)] s) (hA : ∀ q, s.heap.size ≤ q → A q) (hX : SX X A s s.heap)  : ∀ n : Nat, ∀ (v_kind : Int32) (v_number : Int64) (v_exponent : Int32) (v_digits : Int32) (v_less : Int32) (a_digit : (Nat → Int32)) (y1 : Int64) (y3 : Int32) (H : Heap) (locs : List Loc) (ls : Array Slot), va_P (dC, dI) classes (WS_M_fitsWhole g_this_tape g_this_above g_this_below g_this_limbs g_this_exact g_this_round g_this_out g_this_body h_this h_this_digit c_this_digit v_size v_kind v_number v_exponent v_aboveSize v_belowSize v_state v_digits v_behind v_power v_powerLess v_less v_plainDigits v_sixteen v_limbCount v_length v_point v_roundLength v_roundPoint v_written v_bodySize a_digit) H → va_D A (WS_M_fitsWhole g_this_tape g_this_above g_this_below g_this_limbs g_this_exact g_this_round g_this_out g_this_body h_this h_this_digit c_this_digit v_size v_kind v_number v_exponent v_aboveSize v_belowSize v_state v_digits v_behind v_power v_powerLess v_less v_plainDigits v_sixteen v_limbCount v_length v_point v_roundLength v_roundPoint v_written v_bodySize a_digit) → va_S A s.heap H locs → lv_has ls 4 [(0, .ref h_this), (1, .long y1), (3, .int y3)] → f_M_fitsWhole_4 n v_kind v_number v_exponent v_digits v_less a_digit y1 y3 = some res → W p l e ({ frames := 1, cells := 0, slots := 0, locals := 24 }) s m args below meth c H locs 0 0 (MQ below (va_Qi (fun (r : Int32) (u : Int32 × Int64 × Int32) => some (r, u) = some res) (gB (dC, dI) [(c_this_digit, .byte)] A (fun (u : Int32 × Int64 × Int32) => (WS_M_fitsWhole g_this_tape g_this_above g_this_below g_this_limbs g_this_exact g_this_round g_this_out g_this_body h_this h_this_digit c_this_digit v_size u.1 u.2.1 u.2.2 v_aboveSize v_belowSize v_state v_digits v_behind v_power v_powerLess v_less v_plainDigits v_sixteen v_limbCount v_length v_point v_roundLength v_roundPoint v_written v_bodySize a_digit))) A) args s 0 0 A) (F0 m 4 ls []) := by
  intro n
  induction n with
  | zero =>
    intro v_kind v_number v_exponent v_digits v_less a_digit y1 y3 H locs ls hP hD hS hl h
    have h9 : (none : Option (Int32 × Int32 × Int64 × Int32)) = some res := h
    cases h9
  | succ n ih =>
    intro v_kind v_number v_exponent v_digits v_less a_digit y1 y3 H locs ls hP hD hS hl h
    exact s_M_fitsWhole_4b cx hK hA hX ih v_kind v_number v_exponent v_digits v_less a_digit y1 y3 H locs ls hP hD hS hl h
set_option maxHeartbeats 4000000 in
set_option maxRecDepth 100000 in
theorem s_M_fitsWhole_e {p : Program} {l : Launch} {e : Env} {s : State} {m : MethodId} {args : Array Value} {below : List Frame} {meth : Method} {c : Code} {dC : Nat → ClassId} {dI : Nat → Nat → Nat} {A : Nat → Prop} {X : SXT} {g_this_tape : Nat} {g_this_above : Nat} {g_this_below : Nat} {g_this_limbs : Nat} {g_this_exact : Nat} {g_this_round : Nat} {g_this_out : Nat} {g_this_body : Nat} {h_this : Nat} {h_this_digit : Nat} {c_this_digit : ClassId} {v_size : Int32} {v_aboveSize : Int32} {v_belowSize : Int32} {v_state : Int32} {v_behind : Int32} {v_power : Int32} {v_powerLess : Int32} {v_plainDigits : Int32} {v_sixteen : Int32} {v_limbCount : Int32} {v_length : Int32} {v_point : Int32} {v_roundLength : Int32} {v_roundPoint : Int32} {v_written : Int32} {v_bodySize : Int32} {res : Int32 × Int32 × Int64 × Int32} (cx : cxx p s m args meth c b_M_fitsWhole 4 (some .boolean) R_M) (hK : va_K (dC, dI) classes [(c_this_digit, .byte)] s) (hA : ∀ q, s.heap.size ≤ q → A q) (hX : SX X A s s.heap) : ∀ (v_kind : Int32) (v_number : Int64) (v_exponent : Int32) (v_digits : Int32) (v_less : Int32) (a_digit : (Nat → Int32)) (H : Heap) (locs : List Loc) (ls : Array Slot), va_P (dC, dI) classes (WS_M_fitsWhole g_this_tape g_this_above g_this_below g_this_limbs g_this_exact g_this_round g_this_out g_this_body h_this h_this_digit c_this_digit v_size v_kind v_number v_exponent v_aboveSize v_belowSize v_state v_digits v_behind v_power v_powerLess v_less v_plainDigits v_sixteen v_limbCount v_length v_point v_roundLength v_roundPoint v_written v_bodySize a_digit) H → va_D A (WS_M_fitsWhole g_this_tape g_this_above g_this_below g_this_limbs g_this_exact g_this_round g_this_out g_this_body h_this h_this_digit c_this_digit v_size v_kind v_number v_exponent v_aboveSize v_belowSize v_state v_digits v_behind v_power v_powerLess v_less v_plainDigits v_sixteen v_limbCount v_length v_point v_roundLength v_roundPoint v_written v_bodySize a_digit) → va_S A s.heap H locs → lv_has ls 4 [(0, .ref h_this)] → f_M_fitsWhole v_kind v_number v_exponent v_digits v_less a_digit = some res → W p l e ({ frames := 1, cells := 0, slots := 0, locals := 24 }) s m args below meth c H locs 0 0 (MQ below (va_Qi (fun (r : Int32) (u : Int32 × Int64 × Int32) => some (r, u) = some res) (gB (dC, dI) [(c_this_digit, .byte)] A (fun (u : Int32 × Int64 × Int32) => (WS_M_fitsWhole g_this_tape g_this_above g_this_below g_this_limbs g_this_exact g_this_round g_this_out g_this_body h_this h_this_digit c_this_digit v_size u.1 u.2.1 u.2.2 v_aboveSize v_belowSize v_state v_digits v_behind v_power v_powerLess v_less v_plainDigits v_sixteen v_limbCount v_length v_point v_roundLength v_roundPoint v_written v_bodySize a_digit))) A) args s 0 0 A) (F0 m 0 ls []) := by
  intro v_kind v_number v_exponent v_digits v_less a_digit H locs ls hP hD hS hl h
  obtain ⟨hx, hb, hr, hml, hown, ht, hlk⟩ := id cx
  refine lv_lconst (v := 0) hx hb d_M_fitsWhole_0 (by decide) ?_
  refine lv_lstore_n (lv' := [(1, .long (0 : Int64)), (0, .ref h_this)]) hx hb d_M_fitsWhole_1 rfl hl (by decide) rfl (fun ls hl => ?_)
  refine lv_iconst (v := 0) hx hb d_M_fitsWhole_2 (by decide) ?_
  refine lv_istore_n (lv' := [(3, .int (0 : Int32)), (1, .long (0 : Int64)), (0, .ref h_this)]) hx hb d_M_fitsWhole_3 rfl hl (by decide) rfl (fun ls hl => ?_)
  exact s_M_fitsWhole_4 cx hK hA hX fu v_kind v_number v_exponent v_digits v_less a_digit (0 : Int64) (0 : Int32) H locs ls hP hD hS (lv_sub hl [2, 1, 0] rfl) h
set_option maxHeartbeats 4000000 in
set_option maxRecDepth 100000 in
theorem c_M_fitsWhole (l : Launch) (dC : Nat → ClassId) (dI : Nat → Nat → Nat) (X : SXT) (g_this_tape : Nat) (g_this_above : Nat) (g_this_below : Nat) (g_this_limbs : Nat) (g_this_exact : Nat) (g_this_round : Nat) (g_this_out : Nat) (g_this_body : Nat) (h_this : Nat) (h_this_digit : Nat) (c_this_digit : ClassId) (sz : Nat) (v_size : Int32) (v_kind : Int32) (v_number : Int64) (v_exponent : Int32) (v_aboveSize : Int32) (v_belowSize : Int32) (v_state : Int32) (v_digits : Int32) (v_behind : Int32) (v_power : Int32) (v_powerLess : Int32) (v_less : Int32) (v_plainDigits : Int32) (v_sixteen : Int32) (v_limbCount : Int32) (v_length : Int32) (v_point : Int32) (v_roundLength : Int32) (v_roundPoint : Int32) (v_written : Int32) (v_bodySize : Int32) (a_digit : (Nat → Int32)) (res : Int32 × Int32 × Int64 × Int32) (hf : f_M_fitsWhole v_kind v_number v_exponent v_digits v_less a_digit = some res) : Met l y_M_fitsWhole (.code y_M_fitsWhole b_M_fitsWhole 4 (some .boolean) :: w0) ({ frames := 1, cells := 0, slots := 0, locals := 24 }) (va_Pc [.ref h_this] (gP (dC, dI) (WS_M_fitsWhole g_this_tape g_this_above g_this_below g_this_limbs g_this_exact g_this_round g_this_out g_this_body h_this h_this_digit c_this_digit v_size v_kind v_number v_exponent v_aboveSize v_belowSize v_state v_digits v_behind v_power v_powerLess v_less v_plainDigits v_sixteen v_limbCount v_length v_point v_roundLength v_roundPoint v_written v_bodySize a_digit) [(c_this_digit, .byte)] sz X)) (va_Qi (fun (r : Int32) (u : Int32 × Int64 × Int32) => some (r, u) = some res) (gB (dC, dI) [(c_this_digit, .byte)] (va_A (WS_M_fitsWhole g_this_tape g_this_above g_this_below g_this_limbs g_this_exact g_this_round g_this_out g_this_body h_this h_this_digit c_this_digit v_size v_kind v_number v_exponent v_aboveSize v_belowSize v_state v_digits v_behind v_power v_powerLess v_less v_plainDigits v_sixteen v_limbCount v_length v_point v_roundLength v_roundPoint v_written v_bodySize a_digit) sz) (fun (u : Int32 × Int64 × Int32) => (WS_M_fitsWhole g_this_tape g_this_above g_this_below g_this_limbs g_this_exact g_this_round g_this_out g_this_body h_this h_this_digit c_this_digit v_size u.1 u.2.1 u.2.2 v_aboveSize v_belowSize v_state v_digits v_behind v_power v_powerLess v_less v_plainDigits v_sixteen v_limbCount v_length v_point v_roundLength v_roundPoint v_written v_bodySize a_digit))) (va_A (WS_M_fitsWhole g_this_tape g_this_above g_this_below g_this_limbs g_this_exact g_this_round g_this_out g_this_body h_this h_this_digit c_this_digit v_size v_kind v_number v_exponent v_aboveSize v_belowSize v_state v_digits v_behind v_power v_powerLess v_less v_plainDigits v_sixteen v_limbCount v_length v_point v_roundLength v_roundPoint v_written v_bodySize a_digit) sz)) 0 0 (va_A (WS_M_fitsWhole g_this_tape g_this_above g_this_below g_this_limbs g_this_exact g_this_round g_this_out g_this_body h_this h_this_digit c_this_digit v_size v_kind v_number v_exponent v_aboveSize v_belowSize v_state v_digits v_behind v_power v_powerLess v_less v_plainDigits v_sixteen v_limbCount v_length v_point v_roundLength v_roundPoint v_written v_bodySize a_digit) sz) := by
  refine Met.ofW (cc := b_M_fitsWhole) (maxL := 4) (ret := (some .boolean)) (by decide) rfl ?_
  intro p e s m args below meth c s₁ B hml hv
  obtain ⟨rfl, hsz, hP, hK, hD0, hX⟩ := hv
  subst hsz
  have cx : cxx p s m ([.ref h_this] : List Value).toArray meth c b_M_fitsWhole 4 (some .boolean) R_M := ⟨B.exec, B.bytes, B.returns, hml, findClass_of_methodNamed B.named, fun w9 hw => atoms_spec (ws := .code y_M_fitsWhole b_M_fitsWhole 4 (some .boolean) :: w0) B.pre w9 (List.mem_cons_of_mem _ hw), B.notSynchronized⟩
  have hD := hD0.self (sz := s.heap.size)
  generalize hAe : va_A (WS_M_fitsWhole g_this_tape g_this_above g_this_below g_this_limbs g_this_exact g_this_round g_this_out g_this_body h_this h_this_digit c_this_digit v_size v_kind v_number v_exponent v_aboveSize v_belowSize v_state v_digits v_behind v_power v_powerLess v_less v_plainDigits v_sixteen v_limbCount v_length v_point v_roundLength v_roundPoint v_written v_bodySize a_digit) s.heap.size = A at hD hX ⊢
  have hA : ∀ q : Nat, s.heap.size ≤ q → A q := fun q h => by rw [← hAe]; exact Or.inr h
  have hS : va_S A s.heap s.heap [] := va_S.rf
  have hl := lv_entry ([.ref h_this]) (n := 4) (Nat.le_of_ble_eq_true rfl)
  rw [lg_entry_eq]
  generalize (lg_sl ([.ref h_this]) ++ List.replicate (4 - (lg_sl ([.ref h_this])).length) Slot.unset).toArray = ls at hl ⊢
  have hl : lv_has ls 4 [(0, .ref h_this)] := hl
  exact s_M_fitsWhole_e cx hK hA hX v_kind v_number v_exponent v_digits v_less a_digit s.heap [] ls hP hD hS hl hf
abbrev WS_M_readSixteen (g_this_tape : Nat) (g_this_above : Nat) (g_this_below : Nat) (g_this_limbs : Nat) (g_this_exact : Nat) (g_this_round : Nat) (g_this_out : Nat) (g_this_body : Nat) (h_this : Nat) (h_this_digit : Nat) (c_this_digit : ClassId) (v_size : Int32) (v_kind : Int32) (v_number : Int64) (v_exponent : Int32) (v_aboveSize : Int32) (v_belowSize : Int32) (v_state : Int32) (v_digits : Int32) (v_behind : Int32) (v_power : Int32) (v_powerLess : Int32) (v_less : Int32) (v_plainDigits : Int32) (v_sixteen : Int32) (v_limbCount : Int32) (v_length : Int32) (v_point : Int32) (v_roundLength : Int32) (v_roundPoint : Int32) (v_written : Int32) (v_bodySize : Int32) (a_digit : (Nat → Int32)) : va_W := [(h_this, .inr (7, [.ref g_this_tape, .int v_size, .int v_kind, .long v_number, .int v_exponent, .ref g_this_above, .int v_aboveSize, .ref g_this_below, .int v_belowSize, .int v_state, .int v_digits, .ref h_this_digit, .int v_behind, .int v_power, .int v_powerLess, .int v_less, .int v_plainDigits, .int v_sixteen, .ref g_this_limbs, .int v_limbCount, .ref g_this_exact, .int v_length, .int v_point, .ref g_this_round, .int v_roundLength, .int v_roundPoint, .ref g_this_out, .int v_written, .ref g_this_body, .int v_bodySize])), (h_this_digit, .inl (c_this_digit, 1200, .inl a_digit))]
def f_M_readSixteen_100 (v_kind : Int32) (v_number : Int64) (v_exponent : Int32) (v_digits : Int32) (v_less : Int32) (a_digit : (Nat → Int32)) (y2 : Int64) (z0 : Int32) : Option (Int32 × Int32 × Int64 × Int32) :=
  bi4 (f_M_nearest v_kind v_number v_exponent y2 z0 v_less) fun r1 v2 v3 v4 =>
  some (r1, v2, v3, v4)
def f_M_readSixteen_70 (v_kind : Int32) (v_number : Int64) (v_exponent : Int32) (v_digits : Int32) (v_less : Int32) (a_digit : (Nat → Int32)) (y2 : Int64) (y4 : Int32) : Option (Int32 × Int32 × Int64 × Int32) :=
  if y4 ≤ (3000 : Int32) then
    if (-9000 : Int32) ≤ y4 then
      f_M_readSixteen_100 v_kind v_number v_exponent v_digits v_less a_digit y2 y4
    else
      f_M_readSixteen_100 v_kind v_number v_exponent v_digits v_less a_digit y2 (-9000 : Int32)
  else
    f_M_readSixteen_100 v_kind v_number v_exponent v_digits v_less a_digit y2 (3000 : Int32)
def f_M_readSixteen_64 (k8 : Int32 → Int64 → Int32 → Int32 → Int32 → (Nat → Int32) → Int64 → Int32 → Int32 → Option (Int32 × Int32 × Int64 × Int32)) (v_kind : Int32) (v_number : Int64) (v_exponent : Int32) (v_digits : Int32) (v_less : Int32) (a_digit : (Nat → Int32)) (y2 : Int64) (y4 : Int32) (y5 : Int32) : Option (Int32 × Int32 × Int64 × Int32) :=
  bd (y5 + (1 : Int32)) fun x7 =>
  k8 v_kind v_number v_exponent v_digits v_less a_digit y2 y4 x7
def f_M_readSixteen_60 (k8 : Int32 → Int64 → Int32 → Int32 → Int32 → (Nat → Int32) → Int64 → Int32 → Int32 → Option (Int32 × Int32 × Int64 × Int32)) (v_kind : Int32) (v_number : Int64) (v_exponent : Int32) (v_digits : Int32) (v_less : Int32) (a_digit : (Nat → Int32)) (y4 : Int32) (y5 : Int32) (z0 : Int64) : Option (Int32 × Int32 × Int64 × Int32) :=
  bd (y4 + (4 : Int32)) fun x8 =>
  f_M_readSixteen_64 k8 v_kind v_number v_exponent v_digits v_less a_digit z0 x8 y5
def f_M_readSixteen_8b (k8 : Int32 → Int64 → Int32 → Int32 → Int32 → (Nat → Int32) → Int64 → Int32 → Int32 → Option (Int32 × Int32 × Int64 × Int32)) (v_kind : Int32) (v_number : Int64) (v_exponent : Int32) (v_digits : Int32) (v_less : Int32) (a_digit : (Nat → Int32)) (y2 : Int64) (y4 : Int32) (y5 : Int32) : Option (Int32 × Int32 × Int64 × Int32) :=
  if v_digits ≤ y5 then
    f_M_readSixteen_70 v_kind v_number v_exponent v_digits v_less a_digit y2 y4
  else
    if (144115188075855872 : Int64) ≤ y2 then
      ck (gin y5 1200) <|
      if (a_digit y5.toNatClampNeg) = 0 then
        f_M_readSixteen_60 k8 v_kind v_number v_exponent v_digits v_less a_digit y4 y5 y2
      else
        f_M_readSixteen_60 k8 v_kind v_number v_exponent v_digits v_less a_digit y4 y5 (y2 ||| (1 : Int64))
    else
      ck (gin y5 1200) <|
      bd (((16 : Int64) * y2) + ((a_digit y5.toNatClampNeg).toInt64)) fun x14 =>
      f_M_readSixteen_64 k8 v_kind v_number v_exponent v_digits v_less a_digit x14 y4 y5
def f_M_readSixteen_8 : Nat → Int32 → Int64 → Int32 → Int32 → Int32 → (Nat → Int32) → Int64 → Int32 → Int32 → Option (Int32 × Int32 × Int64 × Int32)
  | 0 => fun _ _ _ _ _ _ _ _ _ => none
  | n + 1 => fun v_kind v_number v_exponent v_digits v_less a_digit y2 y4 y5 => f_M_readSixteen_8b (f_M_readSixteen_8 n) v_kind v_number v_exponent v_digits v_less a_digit y2 y4 y5
def f_M_readSixteen (v_kind : Int32) (v_number : Int64) (v_exponent : Int32) (v_digits : Int32) (v_less : Int32) (a_digit : (Nat → Int32)) (p1 : Int32) : Option (Int32 × Int32 × Int64 × Int32) :=
  f_M_readSixteen_8 fu v_kind v_number v_exponent v_digits v_less a_digit (0 : Int64) p1 (0 : Int32)
set_option maxHeartbeats 4000000 in
set_option maxRecDepth 100000 in
theorem s_M_readSixteen_100 {p : Program} {l : Launch} {e : Env} {s : State} {m : MethodId} {args : Array Value} {below : List Frame} {meth : Method} {c : Code} {dC : Nat → ClassId} {dI : Nat → Nat → Nat} {A : Nat → Prop} {X : SXT} {g_this_tape : Nat} {g_this_above : Nat} {g_this_below : Nat} {g_this_limbs : Nat} {g_this_exact : Nat} {g_this_round : Nat} {g_this_out : Nat} {g_this_body : Nat} {h_this : Nat} {h_this_digit : Nat} {c_this_digit : ClassId} {v_size : Int32} {v_aboveSize : Int32} {v_belowSize : Int32} {v_state : Int32} {v_behind : Int32} {v_power : Int32} {v_powerLess : Int32} {v_plainDigits : Int32} {v_sixteen : Int32} {v_limbCount : Int32} {v_length : Int32} {v_point : Int32} {v_roundLength : Int32} {v_roundPoint : Int32} {v_written : Int32} {v_bodySize : Int32} {res : Int32 × Int32 × Int64 × Int32}  (cx : cxx p s m args meth c b_M_readSixteen 6 (some .int) R_M) (hK : va_K (dC, dI) classes [(c_this_digit, .byte)] s) (hA : ∀ q, s.heap.size ≤ q → A q) (hX : SX X A s s.heap)  : ∀ (v_kind : Int32) (v_number : Int64) (v_exponent : Int32) (v_digits : Int32) (v_less : Int32) (a_digit : (Nat → Int32)) (y2 : Int64) (z0 : Int32) (H : Heap) (locs : List Loc) (ls : Array Slot), va_P (dC, dI) classes (WS_M_readSixteen g_this_tape g_this_above g_this_below g_this_limbs g_this_exact g_this_round g_this_out g_this_body h_this h_this_digit c_this_digit v_size v_kind v_number v_exponent v_aboveSize v_belowSize v_state v_digits v_behind v_power v_powerLess v_less v_plainDigits v_sixteen v_limbCount v_length v_point v_roundLength v_roundPoint v_written v_bodySize a_digit) H → va_D A (WS_M_readSixteen g_this_tape g_this_above g_this_below g_this_limbs g_this_exact g_this_round g_this_out g_this_body h_this h_this_digit c_this_digit v_size v_kind v_number v_exponent v_aboveSize v_belowSize v_state v_digits v_behind v_power v_powerLess v_less v_plainDigits v_sixteen v_limbCount v_length v_point v_roundLength v_roundPoint v_written v_bodySize a_digit) → va_S A s.heap H locs → lv_has ls 6 [(0, .ref h_this), (2, .long y2)] → f_M_readSixteen_100 v_kind v_number v_exponent v_digits v_less a_digit y2 z0 = some res → W p l e ({ frames := 2, cells := 0, slots := 0, locals := 58 }) s m args below meth c H locs 0 0 (MQ below (va_Qi (fun (r : Int32) (u : Int32 × Int64 × Int32) => some (r, u) = some res) (gB (dC, dI) [(c_this_digit, .byte)] A (fun (u : Int32 × Int64 × Int32) => (WS_M_readSixteen g_this_tape g_this_above g_this_below g_this_limbs g_this_exact g_this_round g_this_out g_this_body h_this h_this_digit c_this_digit v_size u.1 u.2.1 u.2.2 v_aboveSize v_belowSize v_state v_digits v_behind v_power v_powerLess v_less v_plainDigits v_sixteen v_limbCount v_length v_point v_roundLength v_roundPoint v_written v_bodySize a_digit))) A) args s 0 0 A) (F0 m 100 ls [.int z0]) := by
  intro v_kind v_number v_exponent v_digits v_less a_digit y2 z0 H locs ls hP hD hS hl h
  obtain ⟨hx, hb, hr, hml, hown, ht, hlk⟩ := id cx
  refine lv_istore (lv' := [(5, .int z0), (0, .ref h_this), (2, .long y2)]) hx hb d_M_readSixteen_100 hl (by decide) rfl (fun ls hl => ?_)
  refine lv_aload_n hx hb d_M_readSixteen_102 rfl (lv_at hl 1 rfl) ?_
  refine lv_lload_n hx hb d_M_readSixteen_103 rfl (lv_at hl 2 rfl) ?_
  refine lv_iload hx hb d_M_readSixteen_104 (lv_at hl 0 rfl) ?_
  refine lv_aload_n hx hb d_M_readSixteen_106 rfl (lv_at hl 1 rfl) ?_
  refine va_get (D := (dC, dI)) (ci := 7) (v := .int v_less) (C := R_M) (T := F_M) (N := 30) hx hb ht i_M hown hK hP 0 rfl rfl 15 (by decide) (ht _ q_530) (fun _ h9 => h9) rfl d_M_readSixteen_107 ?_
  obtain ⟨r1, v2, v3, v4, hf, h⟩ := bi4_x h
  refine clVi (D := (dC, dI)) (n := 3) (As := [.long y2, .int z0, .int v_less]) ⟨hx, hb, hml, hown, ht⟩ (c_M_nearest l dC dI X g_this_tape g_this_above g_this_below h_this_digit g_this_limbs g_this_exact g_this_round g_this_out g_this_body h_this H.size v_size v_kind v_number v_exponent v_aboveSize v_belowSize v_state v_digits v_behind v_power v_powerLess v_less v_plainDigits v_sixteen v_limbCount v_length v_point v_roundLength v_roundPoint v_written v_bodySize y2 z0 v_less (r1, v2, v3, v4) hf) (gV q_496 q_497 q_498 q_490 q_499) (by decide +kernel) ⟨rfl, rfl, Nat.le_of_ble_eq_true rfl, Nat.le_of_ble_eq_true rfl⟩ hK hP hD hS hA hX [0] [1] [] rfl (wr := [(h_this_digit, .inl (c_this_digit, 1200, .inl a_digit))]) rfl (by decide) (by decide) (by decide) rfl (va_recv hK hP (ci := 7) (q0 := 0) rfl rfl) rfl hl.1 rfl (lv_room (Nat.le_of_ble_eq_true rfl)) d_M_readSixteen_110 ⟨Nat.zero_le _, Nat.zero_le _⟩ (fun r9 u9 H locs h9 hP hD hS => ?_)
  cases h9
  have hP : va_P (dC, dI) classes (WS_M_readSixteen g_this_tape g_this_above g_this_below g_this_limbs g_this_exact g_this_round g_this_out g_this_body h_this h_this_digit c_this_digit v_size v2 v3 v4 v_aboveSize v_belowSize v_state v_digits v_behind v_power v_powerLess v_less v_plainDigits v_sixteen v_limbCount v_length v_point v_roundLength v_roundPoint v_written v_bodySize a_digit) H := hP.sub [1, 0] rfl
  have hD : va_D A (WS_M_readSixteen g_this_tape g_this_above g_this_below g_this_limbs g_this_exact g_this_round g_this_out g_this_body h_this h_this_digit c_this_digit v_size v2 v3 v4 v_aboveSize v_belowSize v_state v_digits v_behind v_power v_powerLess v_less v_plainDigits v_sixteen v_limbCount v_length v_point v_roundLength v_roundPoint v_written v_bodySize a_digit) := hD.sub [1, 0] (by decide) rfl
  exact W.iret (v := r1) hx hb hr (fun t ht9 hW => ⟨⟨r1, (v2, v3, v4), rfl, h, by rw [ht9]; exact hP, va_K.moved hW.alike hK, hD⟩, hS.F ht9⟩) hS.2.2 d_M_readSixteen_113 hlk
set_option maxHeartbeats 4000000 in
set_option maxRecDepth 100000 in
theorem s_M_readSixteen_70 {p : Program} {l : Launch} {e : Env} {s : State} {m : MethodId} {args : Array Value} {below : List Frame} {meth : Method} {c : Code} {dC : Nat → ClassId} {dI : Nat → Nat → Nat} {A : Nat → Prop} {X : SXT} {g_this_tape : Nat} {g_this_above : Nat} {g_this_below : Nat} {g_this_limbs : Nat} {g_this_exact : Nat} {g_this_round : Nat} {g_this_out : Nat} {g_this_body : Nat} {h_this : Nat} {h_this_digit : Nat} {c_this_digit : ClassId} {v_size : Int32} {v_aboveSize : Int32} {v_belowSize : Int32} {v_state : Int32} {v_behind : Int32} {v_power : Int32} {v_powerLess : Int32} {v_plainDigits : Int32} {v_sixteen : Int32} {v_limbCount : Int32} {v_length : Int32} {v_point : Int32} {v_roundLength : Int32} {v_roundPoint : Int32} {v_written : Int32} {v_bodySize : Int32} {res : Int32 × Int32 × Int64 × Int32}  (cx : cxx p s m args meth c b_M_readSixteen 6 (some .int) R_M) (hK : va_K (dC, dI) classes [(c_this_digit, .byte)] s) (hA : ∀ q, s.heap.size ≤ q → A q) (hX : SX X A s s.heap)  : ∀ (v_kind : Int32) (v_number : Int64) (v_exponent : Int32) (v_digits : Int32) (v_less : Int32) (a_digit : (Nat → Int32)) (y2 : Int64) (y4 : Int32) (H : Heap) (locs : List Loc) (ls : Array Slot), va_P (dC, dI) classes (WS_M_readSixteen g_this_tape g_this_above g_this_below g_this_limbs g_this_exact g_this_round g_this_out g_this_body h_this h_this_digit c_this_digit v_size v_kind v_number v_exponent v_aboveSize v_belowSize v_state v_digits v_behind v_power v_powerLess v_less v_plainDigits v_sixteen v_limbCount v_length v_point v_roundLength v_roundPoint v_written v_bodySize a_digit) H → va_D A (WS_M_readSixteen g_this_tape g_this_above g_this_below g_this_limbs g_this_exact g_this_round g_this_out g_this_body h_this h_this_digit c_this_digit v_size v_kind v_number v_exponent v_aboveSize v_belowSize v_state v_digits v_behind v_power v_powerLess v_less v_plainDigits v_sixteen v_limbCount v_length v_point v_roundLength v_roundPoint v_written v_bodySize a_digit) → va_S A s.heap H locs → lv_has ls 6 [(0, .ref h_this), (2, .long y2), (4, .int y4)] → f_M_readSixteen_70 v_kind v_number v_exponent v_digits v_less a_digit y2 y4 = some res → W p l e ({ frames := 2, cells := 0, slots := 0, locals := 58 }) s m args below meth c H locs 0 0 (MQ below (va_Qi (fun (r : Int32) (u : Int32 × Int64 × Int32) => some (r, u) = some res) (gB (dC, dI) [(c_this_digit, .byte)] A (fun (u : Int32 × Int64 × Int32) => (WS_M_readSixteen g_this_tape g_this_above g_this_below g_this_limbs g_this_exact g_this_round g_this_out g_this_body h_this h_this_digit c_this_digit v_size u.1 u.2.1 u.2.2 v_aboveSize v_belowSize v_state v_digits v_behind v_power v_powerLess v_less v_plainDigits v_sixteen v_limbCount v_length v_point v_roundLength v_roundPoint v_written v_bodySize a_digit))) A) args s 0 0 A) (F0 m 70 ls []) := by
  intro v_kind v_number v_exponent v_digits v_less a_digit y2 y4 H locs ls hP hD hS hl h
  obtain ⟨hx, hb, hr, hml, hown, ht, hlk⟩ := id cx
  refine lv_iload hx hb d_M_readSixteen_70 (lv_at hl 2 rfl) ?_
  refine lv_sipush (v := 3000) hx hb d_M_readSixteen_72 (by decide) ?_
  refine lv_icmp_le (tgt := 84) hx hb d_M_readSixteen_75 (by decide) (fun c5 => ?_) (fun c5 => ?_)
  · have h := if_t c5 h
    refine lv_iload hx hb d_M_readSixteen_84 (lv_at hl 2 rfl) ?_
    refine lv_sipush (v := -9000) hx hb d_M_readSixteen_86 (by decide) ?_
    refine lv_icmp_ge (tgt := 98) hx hb d_M_readSixteen_89 (by decide) (fun c6 => ?_) (fun c6 => ?_)
    · have h := if_t c6 h
      refine lv_iload hx hb d_M_readSixteen_98 (lv_at hl 2 rfl) ?_
      exact s_M_readSixteen_100 cx hK hA hX v_kind v_number v_exponent v_digits v_less a_digit y2 y4 H locs ls hP hD hS (lv_sub hl [0, 1] rfl) h
    · have h := if_f c6 h
      refine lv_sipush (v := -9000) hx hb d_M_readSixteen_92 (by decide) ?_
      refine lv_goto (tgt := 100) hx hb d_M_readSixteen_95 (by decide) ?_
      exact s_M_readSixteen_100 cx hK hA hX v_kind v_number v_exponent v_digits v_less a_digit y2 (-9000 : Int32) H locs ls hP hD hS (lv_sub hl [0, 1] rfl) h
  · have h := if_f c5 h
    refine lv_sipush (v := 3000) hx hb d_M_readSixteen_78 (by decide) ?_
    refine lv_goto (tgt := 100) hx hb d_M_readSixteen_81 (by decide) ?_
    exact s_M_readSixteen_100 cx hK hA hX v_kind v_number v_exponent v_digits v_less a_digit y2 (3000 : Int32) H locs ls hP hD hS (lv_sub hl [0, 1] rfl) h
set_option maxHeartbeats 4000000 in
set_option maxRecDepth 100000 in
theorem s_M_readSixteen_64 {p : Program} {l : Launch} {e : Env} {s : State} {m : MethodId} {args : Array Value} {below : List Frame} {meth : Method} {c : Code} {dC : Nat → ClassId} {dI : Nat → Nat → Nat} {A : Nat → Prop} {X : SXT} {g_this_tape : Nat} {g_this_above : Nat} {g_this_below : Nat} {g_this_limbs : Nat} {g_this_exact : Nat} {g_this_round : Nat} {g_this_out : Nat} {g_this_body : Nat} {h_this : Nat} {h_this_digit : Nat} {c_this_digit : ClassId} {v_size : Int32} {v_aboveSize : Int32} {v_belowSize : Int32} {v_state : Int32} {v_behind : Int32} {v_power : Int32} {v_powerLess : Int32} {v_plainDigits : Int32} {v_sixteen : Int32} {v_limbCount : Int32} {v_length : Int32} {v_point : Int32} {v_roundLength : Int32} {v_roundPoint : Int32} {v_written : Int32} {v_bodySize : Int32} {res : Int32 × Int32 × Int64 × Int32} {k8 : Int32 → Int64 → Int32 → Int32 → Int32 → (Nat → Int32) → Int64 → Int32 → Int32 → Option (Int32 × Int32 × Int64 × Int32)} (cx : cxx p s m args meth c b_M_readSixteen 6 (some .int) R_M) (hK : va_K (dC, dI) classes [(c_this_digit, .byte)] s) (hA : ∀ q, s.heap.size ≤ q → A q) (hX : SX X A s s.heap) (hk8 : ∀ (v_kind : Int32) (v_number : Int64) (v_exponent : Int32) (v_digits : Int32) (v_less : Int32) (a_digit : (Nat → Int32)) (y2 : Int64) (y4 : Int32) (y5 : Int32) (H : Heap) (locs : List Loc) (ls : Array Slot), va_P (dC, dI) classes (WS_M_readSixteen g_this_tape g_this_above g_this_below g_this_limbs g_this_exact g_this_round g_this_out g_this_body h_this h_this_digit c_this_digit v_size v_kind v_number v_exponent v_aboveSize v_belowSize v_state v_digits v_behind v_power v_powerLess v_less v_plainDigits v_sixteen v_limbCount v_length v_point v_roundLength v_roundPoint v_written v_bodySize a_digit) H → va_D A (WS_M_readSixteen g_this_tape g_this_above g_this_below g_this_limbs g_this_exact g_this_round g_this_out g_this_body h_this h_this_digit c_this_digit v_size v_kind v_number v_exponent v_aboveSize v_belowSize v_state v_digits v_behind v_power v_powerLess v_less v_plainDigits v_sixteen v_limbCount v_length v_point v_roundLength v_roundPoint v_written v_bodySize a_digit) → va_S A s.heap H locs → lv_has ls 6 [(0, .ref h_this), (2, .long y2), (4, .int y4), (5, .int y5)] → k8 v_kind v_number v_exponent v_digits v_less a_digit y2 y4 y5 = some res → W p l e ({ frames := 2, cells := 0, slots := 0, locals := 58 }) s m args below meth c H locs 0 0 (MQ below (va_Qi (fun (r : Int32) (u : Int32 × Int64 × Int32) => some (r, u) = some res) (gB (dC, dI) [(c_this_digit, .byte)] A (fun (u : Int32 × Int64 × Int32) => (WS_M_readSixteen g_this_tape g_this_above g_this_below g_this_limbs g_this_exact g_this_round g_this_out g_this_body h_this h_this_digit c_this_digit v_size u.1 u.2.1 u.2.2 v_aboveSize v_belowSize v_state v_digits v_behind v_power v_powerLess v_less v_plainDigits v_sixteen v_limbCount v_length v_point v_roundLength v_roundPoint v_written v_bodySize a_digit))) A) args s 0 0 A) (F0 m 8 ls [])) : ∀ (v_kind : Int32) (v_number : Int64) (v_exponent : Int32) (v_digits : Int32) (v_less : Int32) (a_digit : (Nat → Int32)) (y2 : Int64) (y4 : Int32) (y5 : Int32) (H : Heap) (locs : List Loc) (ls : Array Slot), va_P (dC, dI) classes (WS_M_readSixteen g_this_tape g_this_above g_this_below g_this_limbs g_this_exact g_this_round g_this_out g_this_body h_this h_this_digit c_this_digit v_size v_kind v_number v_exponent v_aboveSize v_belowSize v_state v_digits v_behind v_power v_powerLess v_less v_plainDigits v_sixteen v_limbCount v_length v_point v_roundLength v_roundPoint v_written v_bodySize a_digit) H → va_D A (WS_M_readSixteen g_this_tape g_this_above g_this_below g_this_limbs g_this_exact g_this_round g_this_out g_this_body h_this h_this_digit c_this_digit v_size v_kind v_number v_exponent v_aboveSize v_belowSize v_state v_digits v_behind v_power v_powerLess v_less v_plainDigits v_sixteen v_limbCount v_length v_point v_roundLength v_roundPoint v_written v_bodySize a_digit) → va_S A s.heap H locs → lv_has ls 6 [(0, .ref h_this), (2, .long y2), (4, .int y4), (5, .int y5)] → f_M_readSixteen_64 k8 v_kind v_number v_exponent v_digits v_less a_digit y2 y4 y5 = some res → W p l e ({ frames := 2, cells := 0, slots := 0, locals := 58 }) s m args below meth c H locs 0 0 (MQ below (va_Qi (fun (r : Int32) (u : Int32 × Int64 × Int32) => some (r, u) = some res) (gB (dC, dI) [(c_this_digit, .byte)] A (fun (u : Int32 × Int64 × Int32) => (WS_M_readSixteen g_this_tape g_this_above g_this_below g_this_limbs g_this_exact g_this_round g_this_out g_this_body h_this h_this_digit c_this_digit v_size u.1 u.2.1 u.2.2 v_aboveSize v_belowSize v_state v_digits v_behind v_power v_powerLess v_less v_plainDigits v_sixteen v_limbCount v_length v_point v_roundLength v_roundPoint v_written v_bodySize a_digit))) A) args s 0 0 A) (F0 m 64 ls []) := by
  intro v_kind v_number v_exponent v_digits v_less a_digit y2 y4 y5 H locs ls hP hD hS hl h
  obtain ⟨hx, hb, hr, hml, hown, ht, hlk⟩ := id cx
  obtain ⟨x7, e_x7⟩ : ∃ y : Int32, y = y5 + (1 : Int32) := ⟨_, rfl⟩
  refine lv_iinc (v := x7) (lv' := [(5, .int x7), (0, .ref h_this), (2, .long y2), (4, .int y4)]) hx hb d_M_readSixteen_64 hl (k := 3) rfl (by rw [e_x7]; rfl) (by decide) rfl (fun ls hl => ?_)
  have h := bd_g e_x7 h
  refine lv_goto (tgt := 8) hx hb d_M_readSixteen_67 (by decide) ?_
  exact hk8 v_kind v_number v_exponent v_digits v_less a_digit y2 y4 x7 H locs ls hP hD hS (lv_sub hl [1, 2, 3, 0] rfl) h
set_option maxHeartbeats 4000000 in
set_option maxRecDepth 100000 in
theorem s_M_readSixteen_60 {p : Program} {l : Launch} {e : Env} {s : State} {m : MethodId} {args : Array Value} {below : List Frame} {meth : Method} {c : Code} {dC : Nat → ClassId} {dI : Nat → Nat → Nat} {A : Nat → Prop} {X : SXT} {g_this_tape : Nat} {g_this_above : Nat} {g_this_below : Nat} {g_this_limbs : Nat} {g_this_exact : Nat} {g_this_round : Nat} {g_this_out : Nat} {g_this_body : Nat} {h_this : Nat} {h_this_digit : Nat} {c_this_digit : ClassId} {v_size : Int32} {v_aboveSize : Int32} {v_belowSize : Int32} {v_state : Int32} {v_behind : Int32} {v_power : Int32} {v_powerLess : Int32} {v_plainDigits : Int32} {v_sixteen : Int32} {v_limbCount : Int32} {v_length : Int32} {v_point : Int32} {v_roundLength : Int32} {v_roundPoint : Int32} {v_written : Int32} {v_bodySize : Int32} {res : Int32 × Int32 × Int64 × Int32} {k8 : Int32 → Int64 → Int32 → Int32 → Int32 → (Nat → Int32) → Int64 → Int32 → Int32 → Option (Int32 × Int32 × Int64 × Int32)} (cx : cxx p s m args meth c b_M_readSixteen 6 (some .int) R_M) (hK : va_K (dC, dI) classes [(c_this_digit, .byte)] s) (hA : ∀ q, s.heap.size ≤ q → A q) (hX : SX X A s s.heap) (hk8 : ∀ (v_kind : Int32) (v_number : Int64) (v_exponent : Int32) (v_digits : Int32) (v_less : Int32) (a_digit : (Nat → Int32)) (y2 : Int64) (y4 : Int32) (y5 : Int32) (H : Heap) (locs : List Loc) (ls : Array Slot), va_P (dC, dI) classes (WS_M_readSixteen g_this_tape g_this_above g_this_below g_this_limbs g_this_exact g_this_round g_this_out g_this_body h_this h_this_digit c_this_digit v_size v_kind v_number v_exponent v_aboveSize v_belowSize v_state v_digits v_behind v_power v_powerLess v_less v_plainDigits v_sixteen v_limbCount v_length v_point v_roundLength v_roundPoint v_written v_bodySize a_digit) H → va_D A (WS_M_readSixteen g_this_tape g_this_above g_this_below g_this_limbs g_this_exact g_this_round g_this_out g_this_body h_this h_this_digit c_this_digit v_size v_kind v_number v_exponent v_aboveSize v_belowSize v_state v_digits v_behind v_power v_powerLess v_less v_plainDigits v_sixteen v_limbCount v_length v_point v_roundLength v_roundPoint v_written v_bodySize a_digit) → va_S A s.heap H locs → lv_has ls 6 [(0, .ref h_this), (2, .long y2), (4, .int y4), (5, .int y5)] → k8 v_kind v_number v_exponent v_digits v_less a_digit y2 y4 y5 = some res → W p l e ({ frames := 2, cells := 0, slots := 0, locals := 58 }) s m args below meth c H locs 0 0 (MQ below (va_Qi (fun (r : Int32) (u : Int32 × Int64 × Int32) => some (r, u) = some res) (gB (dC, dI) [(c_this_digit, .byte)] A (fun (u : Int32 × Int64 × Int32) => (WS_M_readSixteen g_this_tape g_this_above g_this_below g_this_limbs g_this_exact g_this_round g_this_out g_this_body h_this h_this_digit c_this_digit v_size u.1 u.2.1 u.2.2 v_aboveSize v_belowSize v_state v_digits v_behind v_power v_powerLess v_less v_plainDigits v_sixteen v_limbCount v_length v_point v_roundLength v_roundPoint v_written v_bodySize a_digit))) A) args s 0 0 A) (F0 m 8 ls [])) : ∀ (v_kind : Int32) (v_number : Int64) (v_exponent : Int32) (v_digits : Int32) (v_less : Int32) (a_digit : (Nat → Int32)) (y4 : Int32) (y5 : Int32) (z0 : Int64) (H : Heap) (locs : List Loc) (ls : Array Slot), va_P (dC, dI) classes (WS_M_readSixteen g_this_tape g_this_above g_this_below g_this_limbs g_this_exact g_this_round g_this_out g_this_body h_this h_this_digit c_this_digit v_size v_kind v_number v_exponent v_aboveSize v_belowSize v_state v_digits v_behind v_power v_powerLess v_less v_plainDigits v_sixteen v_limbCount v_length v_point v_roundLength v_roundPoint v_written v_bodySize a_digit) H → va_D A (WS_M_readSixteen g_this_tape g_this_above g_this_below g_this_limbs g_this_exact g_this_round g_this_out g_this_body h_this h_this_digit c_this_digit v_size v_kind v_number v_exponent v_aboveSize v_belowSize v_state v_digits v_behind v_power v_powerLess v_less v_plainDigits v_sixteen v_limbCount v_length v_point v_roundLength v_roundPoint v_written v_bodySize a_digit) → va_S A s.heap H locs → lv_has ls 6 [(0, .ref h_this), (4, .int y4), (5, .int y5)] → f_M_readSixteen_60 k8 v_kind v_number v_exponent v_digits v_less a_digit y4 y5 z0 = some res → W p l e ({ frames := 2, cells := 0, slots := 0, locals := 58 }) s m args below meth c H locs 0 0 (MQ below (va_Qi (fun (r : Int32) (u : Int32 × Int64 × Int32) => some (r, u) = some res) (gB (dC, dI) [(c_this_digit, .byte)] A (fun (u : Int32 × Int64 × Int32) => (WS_M_readSixteen g_this_tape g_this_above g_this_below g_this_limbs g_this_exact g_this_round g_this_out g_this_body h_this h_this_digit c_this_digit v_size u.1 u.2.1 u.2.2 v_aboveSize v_belowSize v_state v_digits v_behind v_power v_powerLess v_less v_plainDigits v_sixteen v_limbCount v_length v_point v_roundLength v_roundPoint v_written v_bodySize a_digit))) A) args s 0 0 A) (F0 m 60 ls [.long z0]) := by
  intro v_kind v_number v_exponent v_digits v_less a_digit y4 y5 z0 H locs ls hP hD hS hl h
  obtain ⟨hx, hb, hr, hml, hown, ht, hlk⟩ := id cx
  refine lv_lstore_n (lv' := [(2, .long z0), (0, .ref h_this), (4, .int y4), (5, .int y5)]) hx hb d_M_readSixteen_60 rfl hl (by decide) rfl (fun ls hl => ?_)
  obtain ⟨x8, e_x8⟩ : ∃ y : Int32, y = y4 + (4 : Int32) := ⟨_, rfl⟩
  refine lv_iinc (v := x8) (lv' := [(4, .int x8), (2, .long z0), (0, .ref h_this), (5, .int y5)]) hx hb d_M_readSixteen_61 hl (k := 2) rfl (by rw [e_x8]; rfl) (by decide) rfl (fun ls hl => ?_)
  have h := bd_g e_x8 h
  exact s_M_readSixteen_64 cx hK hA hX hk8 v_kind v_number v_exponent v_digits v_less a_digit z0 x8 y5 H locs ls hP hD hS (lv_sub hl [2, 1, 0, 3] rfl) h
set_option maxHeartbeats 4000000 in
set_option maxRecDepth 100000 in
theorem s_M_readSixteen_8b {p : Program} {l : Launch} {e : Env} {s : State} {m : MethodId} {args : Array Value} {below : List Frame} {meth : Method} {c : Code} {dC : Nat → ClassId} {dI : Nat → Nat → Nat} {A : Nat → Prop} {X : SXT} {g_this_tape : Nat} {g_this_above : Nat} {g_this_below : Nat} {g_this_limbs : Nat} {g_this_exact : Nat} {g_this_round : Nat} {g_this_out : Nat} {g_this_body : Nat} {h_this : Nat} {h_this_digit : Nat} {c_this_digit : ClassId} {v_size : Int32} {v_aboveSize : Int32} {v_belowSize : Int32} {v_state : Int32} {v_behind : Int32} {v_power : Int32} {v_powerLess : Int32} {v_plainDigits : Int32} {v_sixteen : Int32} {v_limbCount : Int32} {v_length : Int32} {v_point : Int32} {v_roundLength : Int32} {v_roundPoint : Int32} {v_written : Int32} {v_bodySize : Int32} {res : Int32 × Int32 × Int64 × Int32} {k8 : Int32 → Int64 → Int32 → Int32 → Int32 → (Nat → Int32) → Int64 → Int32 → Int32 → Option (Int32 × Int32 × Int64 × Int32)} (cx : cxx p s m args meth c b_M_readSixteen 6 (some .int) R_M) (hK : va_K (dC, dI) classes [(c_this_digit, .byte)] s) (hA : ∀ q, s.heap.size ≤ q → A q) (hX : SX X A s s.heap) (hk8 : ∀ (v_kind : Int32) (v_number : Int64) (v_exponent : Int32) (v_digits : Int32) (v_less : Int32) (a_digit : (Nat → Int32)) (y2 : Int64) (y4 : Int32) (y5 : Int32) (H : Heap) (locs : List Loc) (ls : Array Slot), va_P (dC, dI) classes (WS_M_readSixteen g_this_tape g_this_above g_this_below g_this_limbs g_this_exact g_this_round g_this_out g_this_body h_this h_this_digit c_this_digit v_size v_kind v_number v_exponent v_aboveSize v_belowSize v_state v_digits v_behind v_power v_powerLess v_less v_plainDigits v_sixteen v_limbCount v_length v_point v_roundLength v_roundPoint v_written v_bodySize a_digit) H → va_D A (WS_M_readSixteen g_this_tape g_this_above g_this_below g_this_limbs g_this_exact g_this_round g_this_out g_this_body h_this h_this_digit c_this_digit v_size v_kind v_number v_exponent v_aboveSize v_belowSize v_state v_digits v_behind v_power v_powerLess v_less v_plainDigits v_sixteen v_limbCount v_length v_point v_roundLength v_roundPoint v_written v_bodySize a_digit) → va_S A s.heap H locs → lv_has ls 6 [(0, .ref h_this), (2, .long y2), (4, .int y4), (5, .int y5)] → k8 v_kind v_number v_exponent v_digits v_less a_digit y2 y4 y5 = some res → W p l e ({ frames := 2, cells := 0, slots := 0, locals := 58 }) s m args below meth c H locs 0 0 (MQ below (va_Qi (fun (r : Int32) (u : Int32 × Int64 × Int32) => some (r, u) = some res) (gB (dC, dI) [(c_this_digit, .byte)] A (fun (u : Int32 × Int64 × Int32) => (WS_M_readSixteen g_this_tape g_this_above g_this_below g_this_limbs g_this_exact g_this_round g_this_out g_this_body h_this h_this_digit c_this_digit v_size u.1 u.2.1 u.2.2 v_aboveSize v_belowSize v_state v_digits v_behind v_power v_powerLess v_less v_plainDigits v_sixteen v_limbCount v_length v_point v_roundLength v_roundPoint v_written v_bodySize a_digit))) A) args s 0 0 A) (F0 m 8 ls [])) : ∀ (v_kind : Int32) (v_number : Int64) (v_exponent : Int32) (v_digits : Int32) (v_less : Int32) (a_digit : (Nat → Int32)) (y2 : Int64) (y4 : Int32) (y5 : Int32) (H : Heap) (locs : List Loc) (ls : Array Slot), va_P (dC, dI) classes (WS_M_readSixteen g_this_tape g_this_above g_this_below g_this_limbs g_this_exact g_this_round g_this_out g_this_body h_this h_this_digit c_this_digit v_size v_kind v_number v_exponent v_aboveSize v_belowSize v_state v_digits v_behind v_power v_powerLess v_less v_plainDigits v_sixteen v_limbCount v_length v_point v_roundLength v_roundPoint v_written v_bodySize a_digit) H → va_D A (WS_M_readSixteen g_this_tape g_this_above g_this_below g_this_limbs g_this_exact g_this_round g_this_out g_this_body h_this h_this_digit c_this_digit v_size v_kind v_number v_exponent v_aboveSize v_belowSize v_state v_digits v_behind v_power v_powerLess v_less v_plainDigits v_sixteen v_limbCount v_length v_point v_roundLength v_roundPoint v_written v_bodySize a_digit) → va_S A s.heap H locs → lv_has ls 6 [(0, .ref h_this), (2, .long y2), (4, .int y4), (5, .int y5)] → f_M_readSixteen_8b k8 v_kind v_number v_exponent v_digits v_less a_digit y2 y4 y5 = some res → W p l e ({ frames := 2, cells := 0, slots := 0, locals := 58 }) s m args below meth c H locs 0 0 (MQ below (va_Qi (fun (r : Int32) (u : Int32 × Int64 × Int32) => some (r, u) = some res) (gB (dC, dI) [(c_this_digit, .byte)] A (fun (u : Int32 × Int64 × Int32) => (WS_M_readSixteen g_this_tape g_this_above g_this_below g_this_limbs g_this_exact g_this_round g_this_out g_this_body h_this h_this_digit c_this_digit v_size u.1 u.2.1 u.2.2 v_aboveSize v_belowSize v_state v_digits v_behind v_power v_powerLess v_less v_plainDigits v_sixteen v_limbCount v_length v_point v_roundLength v_roundPoint v_written v_bodySize a_digit))) A) args s 0 0 A) (F0 m 8 ls []) := by
  intro v_kind v_number v_exponent v_digits v_less a_digit y2 y4 y5 H locs ls hP hD hS hl h
  obtain ⟨hx, hb, hr, hml, hown, ht, hlk⟩ := id cx
  refine lv_iload hx hb d_M_readSixteen_8 (lv_at hl 3 rfl) ?_
  refine lv_aload_n hx hb d_M_readSixteen_10 rfl (lv_at hl 0 rfl) ?_
  refine va_get (D := (dC, dI)) (ci := 7) (v := .int v_digits) (C := R_M) (T := F_M) (N := 30) hx hb ht i_M hown hK hP 0 rfl rfl 10 (by decide) (ht _ q_526) (fun _ h9 => h9) rfl d_M_readSixteen_11 ?_
  refine lv_icmp_ge (tgt := 70) hx hb d_M_readSixteen_14 (by decide) (fun c9 => ?_) (fun c9 => ?_)
  · have h := if_t c9 h
    exact s_M_readSixteen_70 cx hK hA hX v_kind v_number v_exponent v_digits v_less a_digit y2 y4 H locs ls hP hD hS (lv_sub hl [0, 1, 2] rfl) h
  · have h := if_f c9 h
    refine lv_lload_n hx hb d_M_readSixteen_17 rfl (lv_at hl 1 rfl) ?_
    refine lv_ldc2 (v := 144115188075855872) hx hb hown (ht _ q_544) d_M_readSixteen_18 ?_
    refine W.lcmp hx hb d_M_readSixteen_21 ?_
    refine lv_if_ge (tgt := 43) hx hb d_M_readSixteen_22 (by decide) (fun c10 => ?_) (fun c10 => ?_)
    · have c10 := (lg_cmp_ge _ _).mp c10
      have h := if_t c10 h
      refine lv_aload_n hx hb d_M_readSixteen_43 rfl (lv_at hl 0 rfl) ?_
      refine va_get (D := (dC, dI)) (ci := 7) (v := .ref h_this_digit) (C := R_M) (T := F_M) (N := 30) hx hb ht i_M hown hK hP 0 rfl rfl 11 (by decide) (ht _ q_525) (fun _ h9 => h9) rfl d_M_readSixteen_44 ?_
      refine lv_iload hx hb d_M_readSixteen_47 (lv_at hl 3 rfl) ?_
      obtain ⟨c11, h⟩ := ck_x h
      refine va_bald (D := (dC, dI)) hx hb hK hP 1 0 rfl rfl c11 d_M_readSixteen_49 ?_
      refine lv_if_eq (tgt := 59) hx hb d_M_readSixteen_50 (by decide) (fun c12 => ?_) (fun c12 => ?_)
      · have h := if_t c12 h
        refine lv_lload_n hx hb d_M_readSixteen_59 rfl (lv_at hl 1 rfl) ?_
        exact s_M_readSixteen_60 cx hK hA hX hk8 v_kind v_number v_exponent v_digits v_less a_digit y4 y5 y2 H locs ls hP hD hS (lv_sub hl [0, 2, 3] rfl) h
      · have h := if_f c12 h
        refine lv_lload_n hx hb d_M_readSixteen_53 rfl (lv_at hl 1 rfl) ?_
        refine lv_lconst (v := 1) hx hb d_M_readSixteen_54 (by decide) ?_
        refine lv_lor hx hb d_M_readSixteen_55 ?_
        refine lv_goto (tgt := 60) hx hb d_M_readSixteen_56 (by decide) ?_
        exact s_M_readSixteen_60 cx hK hA hX hk8 v_kind v_number v_exponent v_digits v_less a_digit y4 y5 (y2 ||| (1 : Int64)) H locs ls hP hD hS (lv_sub hl [0, 2, 3] rfl) h
    · have c10 := fun h9 => c10 ((lg_cmp_ge _ _).mpr h9)
      have h := if_f c10 h
      refine lv_ldc2 (v := 16) hx hb hown (ht _ q_545) d_M_readSixteen_25 ?_
      refine lv_lload_n hx hb d_M_readSixteen_28 rfl (lv_at hl 1 rfl) ?_
      refine lv_lmul hx hb d_M_readSixteen_29 ?_
      refine lv_aload_n hx hb d_M_readSixteen_30 rfl (lv_at hl 0 rfl) ?_
      refine va_get (D := (dC, dI)) (ci := 7) (v := .ref h_this_digit) (C := R_M) (T := F_M) (N := 30) hx hb ht i_M hown hK hP 0 rfl rfl 11 (by decide) (ht _ q_525) (fun _ h9 => h9) rfl d_M_readSixteen_31 ?_
      refine lv_iload hx hb d_M_readSixteen_34 (lv_at hl 3 rfl) ?_
      obtain ⟨c13, h⟩ := ck_x h
      refine va_bald (D := (dC, dI)) hx hb hK hP 1 0 rfl rfl c13 d_M_readSixteen_36 ?_
      refine lv_i2l (v := (a_digit y5.toNatClampNeg).toInt64) hx hb d_M_readSixteen_37 rfl ?_
      refine lv_ladd hx hb d_M_readSixteen_38 ?_
      refine lv_topl (fun x14 e_x14 => ?_)
      have h := bd_g e_x14 h
      refine lv_lstore_n (lv' := [(2, .long x14), (0, .ref h_this), (4, .int y4), (5, .int y5)]) hx hb d_M_readSixteen_39 rfl hl (by decide) rfl (fun ls hl => ?_)
      refine lv_goto (tgt := 64) hx hb d_M_readSixteen_40 (by decide) ?_
      exact s_M_readSixteen_64 cx hK hA hX hk8 v_kind v_number v_exponent v_digits v_less a_digit x14 y4 y5 H locs ls hP hD hS (lv_sub hl [1, 0, 2, 3] rfl) h
set_option maxHeartbeats 4000000 in
set_option maxRecDepth 100000 in
theorem s_M_readSixteen_8 {p : Program} {l : Launch} {e : Env} {s : State} {m : MethodId} {args : Array Value} {below : List Frame} {meth : Method} {c : Code} {dC : Nat → ClassId} {dI : Nat → Nat → Nat} {A : Nat → Prop} {X : SXT} {g_this_tape : Nat} {g_this_above : Nat} {g_this_below : Nat} {g_this_limbs : Nat} {g_this_exact : Nat} {g_this_round : Nat} {g_this_out : Nat} {g_this_body : Nat} {h_this : Nat} {h_this_digit : Nat} {c_this_digit : ClassId} {v_size : Int32} {v_aboveSize : Int32} {v_belowSize : Int32} {v_state : Int32} {v_behind : Int32} {v_power : Int32} {v_powerLess : Int32} {v_plainDigits : Int32} {v_sixteen : Int32} {v_limbCount : Int32} {v_length : Int32} {v_point : Int32} {v_roundLength : Int32} {v_roundPoint : Int32} {v_written : Int32} {v_bodySize : Int32} {res : Int32 × Int32 × Int64 × Int32}  (cx : cxx p s m args meth c b_M_readSixteen 6 (some .int) R_M) (hK : va_K (dC, dI) classes [(c_this_digit, .byte)] s) (hA : ∀ q, s.heap.size ≤ q → A q) (hX : SX X A s s.heap)  : ∀ n : Nat, ∀ (v_kind : Int32) (v_number : Int64) (v_exponent : Int32) (v_digits : Int32) (v_less : Int32) (a_digit : (Nat → Int32)) (y2 : Int64) (y4 : Int32) (y5 : Int32) (H : Heap) (locs : List Loc) (ls : Array Slot), va_P (dC, dI) classes (WS_M_readSixteen g_this_tape g_this_above g_this_below g_this_limbs g_this_exact g_this_round g_this_out g_this_body h_this h_this_digit c_this_digit v_size v_kind v_number v_exponent v_aboveSize v_belowSize v_state v_digits v_behind v_power v_powerLess v_less v_plainDigits v_sixteen v_limbCount v_length v_point v_roundLength v_roundPoint v_written v_bodySize a_digit) H → va_D A (WS_M_readSixteen g_this_tape g_this_above g_this_below g_this_limbs g_this_exact g_this_round g_this_out g_this_body h_this h_this_digit c_this_digit v_size v_kind v_number v_exponent v_aboveSize v_belowSize v_state v_digits v_behind v_power v_powerLess v_less v_plainDigits v_sixteen v_limbCount v_length v_point v_roundLength v_roundPoint v_written v_bodySize a_digit) → va_S A s.heap H locs → lv_has ls 6 [(0, .ref h_this), (2, .long y2), (4, .int y4), (5, .int y5)] → f_M_readSixteen_8 n v_kind v_number v_exponent v_digits v_less a_digit y2 y4 y5 = some res → W p l e ({ frames := 2, cells := 0, slots := 0, locals := 58 }) s m args below meth c H locs 0 0 (MQ below (va_Qi (fun (r : Int32) (u : Int32 × Int64 × Int32) => some (r, u) = some res) (gB (dC, dI) [(c_this_digit, .byte)] A (fun (u : Int32 × Int64 × Int32) => (WS_M_readSixteen g_this_tape g_this_above g_this_below g_this_limbs g_this_exact g_this_round g_this_out g_this_body h_this h_this_digit c_this_digit v_size u.1 u.2.1 u.2.2 v_aboveSize v_belowSize v_state v_digits v_behind v_power v_powerLess v_less v_plainDigits v_sixteen v_limbCount v_length v_point v_roundLength v_roundPoint v_written v_bodySize a_digit))) A) args s 0 0 A) (F0 m 8 ls []) := by
  intro n
  induction n with
  | zero =>
    intro v_kind v_number v_exponent v_digits v_less a_digit y2 y4 y5 H locs ls hP hD hS hl h
    have h9 : (none : Option (Int32 × Int32 × Int64 × Int32)) = some res := h
    cases h9
  | succ n ih =>
    intro v_kind v_number v_exponent v_digits v_less a_digit y2 y4 y5 H locs ls hP hD hS hl h
    exact s_M_readSixteen_8b cx hK hA hX ih v_kind v_number v_exponent v_digits v_less a_digit y2 y4 y5 H locs ls hP hD hS hl h
set_option maxHeartbeats 4000000 in
set_option maxRecDepth 100000 in
theorem s_M_readSixteen_e {p : Program} {l : Launch} {e : Env} {s : State} {m : MethodId} {args : Array Value} {below : List Frame} {meth : Method} {c : Code} {dC : Nat → ClassId} {dI : Nat → Nat → Nat} {A : Nat → Prop} {X : SXT} {g_this_tape : Nat} {g_this_above : Nat} {g_this_below : Nat} {g_this_limbs : Nat} {g_this_exact : Nat} {g_this_round : Nat} {g_this_out : Nat} {g_this_body : Nat} {h_this : Nat} {h_this_digit : Nat} {c_this_digit : ClassId} {v_size : Int32} {v_aboveSize : Int32} {v_belowSize : Int32} {v_state : Int32} {v_behind : Int32} {v_power : Int32} {v_powerLess : Int32} {v_plainDigits : Int32} {v_sixteen : Int32} {v_limbCount : Int32} {v_length : Int32} {v_point : Int32} {v_roundLength : Int32} {v_roundPoint : Int32} {v_written : Int32} {v_bodySize : Int32} {res : Int32 × Int32 × Int64 × Int32} (cx : cxx p s m args meth c b_M_readSixteen 6 (some .int) R_M) (hK : va_K (dC, dI) classes [(c_this_digit, .byte)] s) (hA : ∀ q, s.heap.size ≤ q → A q) (hX : SX X A s s.heap) : ∀ (v_kind : Int32) (v_number : Int64) (v_exponent : Int32) (v_digits : Int32) (v_less : Int32) (a_digit : (Nat → Int32)) (p1 : Int32) (H : Heap) (locs : List Loc) (ls : Array Slot), va_P (dC, dI) classes (WS_M_readSixteen g_this_tape g_this_above g_this_below g_this_limbs g_this_exact g_this_round g_this_out g_this_body h_this h_this_digit c_this_digit v_size v_kind v_number v_exponent v_aboveSize v_belowSize v_state v_digits v_behind v_power v_powerLess v_less v_plainDigits v_sixteen v_limbCount v_length v_point v_roundLength v_roundPoint v_written v_bodySize a_digit) H → va_D A (WS_M_readSixteen g_this_tape g_this_above g_this_below g_this_limbs g_this_exact g_this_round g_this_out g_this_body h_this h_this_digit c_this_digit v_size v_kind v_number v_exponent v_aboveSize v_belowSize v_state v_digits v_behind v_power v_powerLess v_less v_plainDigits v_sixteen v_limbCount v_length v_point v_roundLength v_roundPoint v_written v_bodySize a_digit) → va_S A s.heap H locs → lv_has ls 6 [(0, .ref h_this), (1, .int p1)] → f_M_readSixteen v_kind v_number v_exponent v_digits v_less a_digit p1 = some res → W p l e ({ frames := 2, cells := 0, slots := 0, locals := 58 }) s m args below meth c H locs 0 0 (MQ below (va_Qi (fun (r : Int32) (u : Int32 × Int64 × Int32) => some (r, u) = some res) (gB (dC, dI) [(c_this_digit, .byte)] A (fun (u : Int32 × Int64 × Int32) => (WS_M_readSixteen g_this_tape g_this_above g_this_below g_this_limbs g_this_exact g_this_round g_this_out g_this_body h_this h_this_digit c_this_digit v_size u.1 u.2.1 u.2.2 v_aboveSize v_belowSize v_state v_digits v_behind v_power v_powerLess v_less v_plainDigits v_sixteen v_limbCount v_length v_point v_roundLength v_roundPoint v_written v_bodySize a_digit))) A) args s 0 0 A) (F0 m 0 ls []) := by
  intro v_kind v_number v_exponent v_digits v_less a_digit p1 H locs ls hP hD hS hl h
  obtain ⟨hx, hb, hr, hml, hown, ht, hlk⟩ := id cx
  refine lv_lconst (v := 0) hx hb d_M_readSixteen_0 (by decide) ?_
  refine lv_lstore_n (lv' := [(2, .long (0 : Int64)), (0, .ref h_this), (1, .int p1)]) hx hb d_M_readSixteen_1 rfl hl (by decide) rfl (fun ls hl => ?_)
  refine lv_iload_n hx hb d_M_readSixteen_2 rfl (lv_at hl 2 rfl) ?_
  refine lv_istore (lv' := [(4, .int p1), (2, .long (0 : Int64)), (0, .ref h_this), (1, .int p1)]) hx hb d_M_readSixteen_3 hl (by decide) rfl (fun ls hl => ?_)
  refine lv_iconst (v := 0) hx hb d_M_readSixteen_5 (by decide) ?_
  refine lv_istore (lv' := [(5, .int (0 : Int32)), (4, .int p1), (2, .long (0 : Int64)), (0, .ref h_this), (1, .int p1)]) hx hb d_M_readSixteen_6 hl (by decide) rfl (fun ls hl => ?_)
  exact s_M_readSixteen_8 cx hK hA hX fu v_kind v_number v_exponent v_digits v_less a_digit (0 : Int64) p1 (0 : Int32) H locs ls hP hD hS (lv_sub hl [3, 2, 1, 0] rfl) h
set_option maxHeartbeats 4000000 in
set_option maxRecDepth 100000 in
theorem c_M_readSixteen (l : Launch) (dC : Nat → ClassId) (dI : Nat → Nat → Nat) (X : SXT) (g_this_tape : Nat) (g_this_above : Nat) (g_this_below : Nat) (g_this_limbs : Nat) (g_this_exact : Nat) (g_this_round : Nat) (g_this_out : Nat) (g_this_body : Nat) (h_this : Nat) (h_this_digit : Nat) (c_this_digit : ClassId) (sz : Nat) (v_size : Int32) (v_kind : Int32) (v_number : Int64) (v_exponent : Int32) (v_aboveSize : Int32) (v_belowSize : Int32) (v_state : Int32) (v_digits : Int32) (v_behind : Int32) (v_power : Int32) (v_powerLess : Int32) (v_less : Int32) (v_plainDigits : Int32) (v_sixteen : Int32) (v_limbCount : Int32) (v_length : Int32) (v_point : Int32) (v_roundLength : Int32) (v_roundPoint : Int32) (v_written : Int32) (v_bodySize : Int32) (a_digit : (Nat → Int32)) (p1 : Int32) (res : Int32 × Int32 × Int64 × Int32) (hf : f_M_readSixteen v_kind v_number v_exponent v_digits v_less a_digit p1 = some res) : Met l y_M_readSixteen (.code y_M_readSixteen b_M_readSixteen 6 (some .int) :: w0) ({ frames := 2, cells := 0, slots := 0, locals := 58 }) (va_Pc [.ref h_this, .int p1] (gP (dC, dI) (WS_M_readSixteen g_this_tape g_this_above g_this_below g_this_limbs g_this_exact g_this_round g_this_out g_this_body h_this h_this_digit c_this_digit v_size v_kind v_number v_exponent v_aboveSize v_belowSize v_state v_digits v_behind v_power v_powerLess v_less v_plainDigits v_sixteen v_limbCount v_length v_point v_roundLength v_roundPoint v_written v_bodySize a_digit) [(c_this_digit, .byte)] sz X)) (va_Qi (fun (r : Int32) (u : Int32 × Int64 × Int32) => some (r, u) = some res) (gB (dC, dI) [(c_this_digit, .byte)] (va_A (WS_M_readSixteen g_this_tape g_this_above g_this_below g_this_limbs g_this_exact g_this_round g_this_out g_this_body h_this h_this_digit c_this_digit v_size v_kind v_number v_exponent v_aboveSize v_belowSize v_state v_digits v_behind v_power v_powerLess v_less v_plainDigits v_sixteen v_limbCount v_length v_point v_roundLength v_roundPoint v_written v_bodySize a_digit) sz) (fun (u : Int32 × Int64 × Int32) => (WS_M_readSixteen g_this_tape g_this_above g_this_below g_this_limbs g_this_exact g_this_round g_this_out g_this_body h_this h_this_digit c_this_digit v_size u.1 u.2.1 u.2.2 v_aboveSize v_belowSize v_state v_digits v_behind v_power v_powerLess v_less v_plainDigits v_sixteen v_limbCount v_length v_point v_roundLength v_roundPoint v_written v_bodySize a_digit))) (va_A (WS_M_readSixteen g_this_tape g_this_above g_this_below g_this_limbs g_this_exact g_this_round g_this_out g_this_body h_this h_this_digit c_this_digit v_size v_kind v_number v_exponent v_aboveSize v_belowSize v_state v_digits v_behind v_power v_powerLess v_less v_plainDigits v_sixteen v_limbCount v_length v_point v_roundLength v_roundPoint v_written v_bodySize a_digit) sz)) 0 0 (va_A (WS_M_readSixteen g_this_tape g_this_above g_this_below g_this_limbs g_this_exact g_this_round g_this_out g_this_body h_this h_this_digit c_this_digit v_size v_kind v_number v_exponent v_aboveSize v_belowSize v_state v_digits v_behind v_power v_powerLess v_less v_plainDigits v_sixteen v_limbCount v_length v_point v_roundLength v_roundPoint v_written v_bodySize a_digit) sz) := by
  refine Met.ofW (cc := b_M_readSixteen) (maxL := 6) (ret := (some .int)) (by decide) rfl ?_
  intro p e s m args below meth c s₁ B hml hv
  obtain ⟨rfl, hsz, hP, hK, hD0, hX⟩ := hv
  subst hsz
  have cx : cxx p s m ([.ref h_this, .int p1] : List Value).toArray meth c b_M_readSixteen 6 (some .int) R_M := ⟨B.exec, B.bytes, B.returns, hml, findClass_of_methodNamed B.named, fun w9 hw => atoms_spec (ws := .code y_M_readSixteen b_M_readSixteen 6 (some .int) :: w0) B.pre w9 (List.mem_cons_of_mem _ hw), B.notSynchronized⟩
  have hD := hD0.self (sz := s.heap.size)
  generalize hAe : va_A (WS_M_readSixteen g_this_tape g_this_above g_this_below g_this_limbs g_this_exact g_this_round g_this_out g_this_body h_this h_this_digit c_this_digit v_size v_kind v_number v_exponent v_aboveSize v_belowSize v_state v_digits v_behind v_power v_powerLess v_less v_plainDigits v_sixteen v_limbCount v_length v_point v_roundLength v_roundPoint v_written v_bodySize a_digit) s.heap.size = A at hD hX ⊢
  have hA : ∀ q : Nat, s.heap.size ≤ q → A q := fun q h => by rw [← hAe]; exact Or.inr h
  have hS : va_S A s.heap s.heap [] := va_S.rf
  have hl := lv_entry ([.ref h_this, .int p1]) (n := 6) (Nat.le_of_ble_eq_true rfl)
  rw [lg_entry_eq]
  generalize (lg_sl ([.ref h_this, .int p1]) ++ List.replicate (6 - (lg_sl ([.ref h_this, .int p1])).length) Slot.unset).toArray = ls at hl ⊢
  have hl : lv_has ls 6 [(0, .ref h_this), (1, .int p1)] := hl
  exact s_M_readSixteen_e cx hK hA hX v_kind v_number v_exponent v_digits v_less a_digit p1 s.heap [] ls hP hD hS hl hf
abbrev WS_M_multiply (h_p0 : Nat) (c_p0 : ClassId) (a_p0 : (Nat → Int32)) : va_W := [(h_p0, .inl (c_p0, 400, .inl a_p0))]
def f_M_multiply_50 (a_p0 : (Nat → Int32)) (y1 : Int32) (y4 : Int64) : Option (Int32 × (Nat → Int32)) :=
  if y4 = (0 : Int64) then
    some (y1, a_p0)
  else
    ck (gin y1 400) <|
    bd (upd a_p0 y1.toNatClampNeg (y4.toInt32)) fun a3 =>
    some (y1 + (1 : Int32), a3)
def f_M_multiply_7b (k7 : (Nat → Int32) → Int32 → Int32 → Int64 → Int32 → Option (Int32 × (Nat → Int32))) (a_p0 : (Nat → Int32)) (y1 : Int32) (y2 : Int32) (y4 : Int64) (y6 : Int32) : Option (Int32 × (Nat → Int32)) :=
  if y1 ≤ y6 then
    f_M_multiply_50 a_p0 y1 y4
  else
    ck (gin y6 400) <|
    bd (y4 + (((a_p0 y6.toNatClampNeg).toInt64) * (y2.toInt64))) fun x6 =>
    ck (gin y6 400) <|
    bd (upd a_p0 y6.toNatClampNeg ((x6 &&& (1073741823 : Int64)).toInt32)) fun a8 =>
    bd (lsr x6 (30 : Int32)) fun x9 =>
    bd (y6 + (1 : Int32)) fun x10 =>
    k7 a8 y1 y2 x9 x10
def f_M_multiply_7 : Nat → (Nat → Int32) → Int32 → Int32 → Int64 → Int32 → Option (Int32 × (Nat → Int32))
  | 0 => fun _ _ _ _ _ => none
  | n + 1 => fun a_p0 y1 y2 y4 y6 => f_M_multiply_7b (f_M_multiply_7 n) a_p0 y1 y2 y4 y6
def f_M_multiply (a_p0 : (Nat → Int32)) (p1 : Int32) (p2 : Int32) (p3 : Int32) : Option (Int32 × (Nat → Int32)) :=
  bd (p3.toInt64) fun x11 =>
  f_M_multiply_7 fu a_p0 p1 p2 x11 (0 : Int32)
set_option maxHeartbeats 4000000 in
set_option maxRecDepth 100000 in
theorem s_M_multiply_50 {p : Program} {l : Launch} {e : Env} {s : State} {m : MethodId} {args : Array Value} {below : List Frame} {meth : Method} {c : Code} {dC : Nat → ClassId} {dI : Nat → Nat → Nat} {A : Nat → Prop} {X : SXT} {h_p0 : Nat} {c_p0 : ClassId} {res : Int32 × (Nat → Int32)}  (cx : cxx p s m args meth c b_M_multiply 7 (some .int) R_M) (hK : va_K (dC, dI) classes [(c_p0, .int)] s) (hA : ∀ q, s.heap.size ≤ q → A q) (hX : SX X A s s.heap)  : ∀ (a_p0 : (Nat → Int32)) (y1 : Int32) (y4 : Int64) (H : Heap) (locs : List Loc) (ls : Array Slot), va_P (dC, dI) classes (WS_M_multiply h_p0 c_p0 a_p0) H → va_D A (WS_M_multiply h_p0 c_p0 a_p0) → va_S A s.heap H locs → lv_has ls 7 [(0, .ref h_p0), (1, .int y1), (4, .long y4)] → f_M_multiply_50 a_p0 y1 y4 = some res → W p l e ({ frames := 0, cells := 0, slots := 0, locals := 0 }) s m args below meth c H locs 0 0 (MQ below (va_Qi (fun (r : Int32) (u : (Nat → Int32)) => some (r, u) = some res) (gB (dC, dI) [(c_p0, .int)] A (fun (u : (Nat → Int32)) => (WS_M_multiply h_p0 c_p0 u))) A) args s 0 0 A) (F0 m 50 ls []) := by
  intro a_p0 y1 y4 H locs ls hP hD hS hl h
  obtain ⟨hx, hb, hr, hml, hown, ht, hlk⟩ := id cx
  refine lv_lload hx hb d_M_multiply_50 (lv_at hl 2 rfl) ?_
  refine lv_lconst (v := 0) hx hb d_M_multiply_52 (by decide) ?_
  refine W.lcmp hx hb d_M_multiply_53 ?_
  refine lv_if_ne (tgt := 59) hx hb d_M_multiply_54 (by decide) (fun c1 => ?_) (fun c1 => ?_)
  · have c1 := fun h9 => c1 ((lg_cmp_eq _ _).mpr h9)
    have h := if_f c1 h
    refine lv_aload_n hx hb d_M_multiply_59 rfl (lv_at hl 0 rfl) ?_
    refine lv_iload_n hx hb d_M_multiply_60 rfl (lv_at hl 1 rfl) ?_
    refine lv_lload hx hb d_M_multiply_61 (lv_at hl 2 rfl) ?_
    refine lv_l2i (v := y4.toInt32) hx hb d_M_multiply_63 rfl ?_
    obtain ⟨c2, h⟩ := ck_x h
    refine va_iast (D := (dC, dI)) hx hb hK hP hD hS 0 0 rfl rfl c2 d_M_multiply_64 (fun H locs hP hD hS => ?_)
    obtain ⟨a3, e_a3⟩ : ∃ y, y = upd a_p0 y1.toNatClampNeg (y4.toInt32) := ⟨_, rfl⟩
    have hP : va_P (dC, dI) classes (WS_M_multiply h_p0 c_p0 a3) H := by rw [e_a3]; exact hP
    have hD : va_D A (WS_M_multiply h_p0 c_p0 a3) := by rw [e_a3]; exact hD
    have h := bd_g e_a3 h
    refine lv_iload_n hx hb d_M_multiply_65 rfl (lv_at hl 1 rfl) ?_
    refine lv_iconst (v := 1) hx hb d_M_multiply_66 (by decide) ?_
    refine lv_iadd hx hb d_M_multiply_67 ?_
    exact W.iret (v := (y1 + (1 : Int32))) hx hb hr (fun t ht9 hW => ⟨⟨(y1 + (1 : Int32)), a3, rfl, h, by rw [ht9]; exact hP, va_K.moved hW.alike hK, hD⟩, hS.F ht9⟩) hS.2.2 d_M_multiply_68 hlk
  · have c1 := (lg_cmp_eq _ _).mp c1
    have h := if_t c1 h
    refine lv_iload_n hx hb d_M_multiply_57 rfl (lv_at hl 1 rfl) ?_
    exact W.iret (v := y1) hx hb hr (fun t ht9 hW => ⟨⟨y1, a_p0, rfl, h, by rw [ht9]; exact hP, va_K.moved hW.alike hK, hD⟩, hS.F ht9⟩) hS.2.2 d_M_multiply_58 hlk
set_option maxHeartbeats 4000000 in
set_option maxRecDepth 100000 in
theorem s_M_multiply_7b {p : Program} {l : Launch} {e : Env} {s : State} {m : MethodId} {args : Array Value} {below : List Frame} {meth : Method} {c : Code} {dC : Nat → ClassId} {dI : Nat → Nat → Nat} {A : Nat → Prop} {X : SXT} {h_p0 : Nat} {c_p0 : ClassId} {res : Int32 × (Nat → Int32)} {k7 : (Nat → Int32) → Int32 → Int32 → Int64 → Int32 → Option (Int32 × (Nat → Int32))} (cx : cxx p s m args meth c b_M_multiply 7 (some .int) R_M) (hK : va_K (dC, dI) classes [(c_p0, .int)] s) (hA : ∀ q, s.heap.size ≤ q → A q) (hX : SX X A s s.heap) (hk7 : ∀ (a_p0 : (Nat → Int32)) (y1 : Int32) (y2 : Int32) (y4 : Int64) (y6 : Int32) (H : Heap) (locs : List Loc) (ls : Array Slot), va_P (dC, dI) classes (WS_M_multiply h_p0 c_p0 a_p0) H → va_D A (WS_M_multiply h_p0 c_p0 a_p0) → va_S A s.heap H locs → lv_has ls 7 [(0, .ref h_p0), (1, .int y1), (2, .int y2), (4, .long y4), (6, .int y6)] → k7 a_p0 y1 y2 y4 y6 = some res → W p l e ({ frames := 0, cells := 0, slots := 0, locals := 0 }) s m args below meth c H locs 0 0 (MQ below (va_Qi (fun (r : Int32) (u : (Nat → Int32)) => some (r, u) = some res) (gB (dC, dI) [(c_p0, .int)] A (fun (u : (Nat → Int32)) => (WS_M_multiply h_p0 c_p0 u))) A) args s 0 0 A) (F0 m 7 ls [])) : ∀ (a_p0 : (Nat → Int32)) (y1 : Int32) (y2 : Int32) (y4 : Int64) (y6 : Int32) (H : Heap) (locs : List Loc) (ls : Array Slot), va_P (dC, dI) classes (WS_M_multiply h_p0 c_p0 a_p0) H → va_D A (WS_M_multiply h_p0 c_p0 a_p0) → va_S A s.heap H locs → lv_has ls 7 [(0, .ref h_p0), (1, .int y1), (2, .int y2), (4, .long y4), (6, .int y6)] → f_M_multiply_7b k7 a_p0 y1 y2 y4 y6 = some res → W p l e ({ frames := 0, cells := 0, slots := 0, locals := 0 }) s m args below meth c H locs 0 0 (MQ below (va_Qi (fun (r : Int32) (u : (Nat → Int32)) => some (r, u) = some res) (gB (dC, dI) [(c_p0, .int)] A (fun (u : (Nat → Int32)) => (WS_M_multiply h_p0 c_p0 u))) A) args s 0 0 A) (F0 m 7 ls []) := by
  intro a_p0 y1 y2 y4 y6 H locs ls hP hD hS hl h
  obtain ⟨hx, hb, hr, hml, hown, ht, hlk⟩ := id cx
  refine lv_iload hx hb d_M_multiply_7 (lv_at hl 4 rfl) ?_
  refine lv_iload_n hx hb d_M_multiply_9 rfl (lv_at hl 1 rfl) ?_
  refine lv_icmp_ge (tgt := 50) hx hb d_M_multiply_10 (by decide) (fun c4 => ?_) (fun c4 => ?_)
  · have h := if_t c4 h
    exact s_M_multiply_50 cx hK hA hX a_p0 y1 y4 H locs ls hP hD hS (lv_sub hl [0, 1, 3] rfl) h
  · have h := if_f c4 h
    refine lv_lload hx hb d_M_multiply_13 (lv_at hl 3 rfl) ?_
    refine lv_aload_n hx hb d_M_multiply_15 rfl (lv_at hl 0 rfl) ?_
    refine lv_iload hx hb d_M_multiply_16 (lv_at hl 4 rfl) ?_
    obtain ⟨c5, h⟩ := ck_x h
    refine va_iald (D := (dC, dI)) hx hb hK hP 0 0 rfl rfl c5 d_M_multiply_18 ?_
    refine lv_i2l (v := (a_p0 y6.toNatClampNeg).toInt64) hx hb d_M_multiply_19 rfl ?_
    refine lv_iload_n hx hb d_M_multiply_20 rfl (lv_at hl 2 rfl) ?_
    refine lv_i2l (v := y2.toInt64) hx hb d_M_multiply_21 rfl ?_
    refine lv_lmul hx hb d_M_multiply_22 ?_
    refine lv_ladd hx hb d_M_multiply_23 ?_
    refine lv_topl (fun x6 e_x6 => ?_)
    have h := bd_g e_x6 h
    refine lv_lstore (lv' := [(4, .long x6), (0, .ref h_p0), (1, .int y1), (2, .int y2), (6, .int y6)]) hx hb d_M_multiply_24 hl (by decide) rfl (fun ls hl => ?_)
    refine lv_aload_n hx hb d_M_multiply_26 rfl (lv_at hl 1 rfl) ?_
    refine lv_iload hx hb d_M_multiply_27 (lv_at hl 4 rfl) ?_
    refine lv_lload hx hb d_M_multiply_29 (lv_at hl 0 rfl) ?_
    refine lv_ldc2 (v := 1073741823) hx hb hown (ht _ q_546) d_M_multiply_31 ?_
    refine lv_land hx hb d_M_multiply_34 ?_
    refine lv_l2i (v := (x6 &&& (1073741823 : Int64)).toInt32) hx hb d_M_multiply_35 rfl ?_
    obtain ⟨c7, h⟩ := ck_x h
    refine va_iast (D := (dC, dI)) hx hb hK hP hD hS 0 0 rfl rfl c7 d_M_multiply_36 (fun H locs hP hD hS => ?_)
    obtain ⟨a8, e_a8⟩ : ∃ y, y = upd a_p0 y6.toNatClampNeg ((x6 &&& (1073741823 : Int64)).toInt32) := ⟨_, rfl⟩
    have hP : va_P (dC, dI) classes (WS_M_multiply h_p0 c_p0 a8) H := by rw [e_a8]; exact hP
    have hD : va_D A (WS_M_multiply h_p0 c_p0 a8) := by rw [e_a8]; exact hD
    have h := bd_g e_a8 h
    refine lv_lload hx hb d_M_multiply_37 (lv_at hl 0 rfl) ?_
    refine lv_bipush (v := 30) hx hb d_M_multiply_39 (by decide) ?_
    refine lv_lshr (v := lsr x6 (30 : Int32)) hx hb d_M_multiply_41 rfl ?_
    refine lv_topl (fun x9 e_x9 => ?_)
    have h := bd_g e_x9 h
    refine lv_lstore (lv' := [(4, .long x9), (0, .ref h_p0), (1, .int y1), (2, .int y2), (6, .int y6)]) hx hb d_M_multiply_42 hl (by decide) rfl (fun ls hl => ?_)
    obtain ⟨x10, e_x10⟩ : ∃ y : Int32, y = y6 + (1 : Int32) := ⟨_, rfl⟩
    refine lv_iinc (v := x10) (lv' := [(6, .int x10), (4, .long x9), (0, .ref h_p0), (1, .int y1), (2, .int y2)]) hx hb d_M_multiply_44 hl (k := 4) rfl (by rw [e_x10]; rfl) (by decide) rfl (fun ls hl => ?_)
    have h := bd_g e_x10 h
    refine lv_goto (tgt := 7) hx hb d_M_multiply_47 (by decide) ?_
    exact hk7 a8 y1 y2 x9 x10 H locs ls hP hD hS (lv_sub hl [2, 3, 4, 1, 0] rfl) h
set_option maxHeartbeats 4000000 in
set_option maxRecDepth 100000 in
theorem s_M_multiply_7 {p : Program} {l : Launch} {e : Env} {s : State} {m : MethodId} {args : Array Value} {below : List Frame} {meth : Method} {c : Code} {dC : Nat → ClassId} {dI : Nat → Nat → Nat} {A : Nat → Prop} {X : SXT} {h_p0 : Nat} {c_p0 : ClassId} {res : Int32 × (Nat → Int32)}  (cx : cxx p s m args meth c b_M_multiply 7 (some .int) R_M) (hK : va_K (dC, dI) classes [(c_p0, .int)] s) (hA : ∀ q, s.heap.size ≤ q → A q) (hX : SX X A s s.heap)  : ∀ n : Nat, ∀ (a_p0 : (Nat → Int32)) (y1 : Int32) (y2 : Int32) (y4 : Int64) (y6 : Int32) (H : Heap) (locs : List Loc) (ls : Array Slot), va_P (dC, dI) classes (WS_M_multiply h_p0 c_p0 a_p0) H → va_D A (WS_M_multiply h_p0 c_p0 a_p0) → va_S A s.heap H locs → lv_has ls 7 [(0, .ref h_p0), (1, .int y1), (2, .int y2), (4, .long y4), (6, .int y6)] → f_M_multiply_7 n a_p0 y1 y2 y4 y6 = some res → W p l e ({ frames := 0, cells := 0, slots := 0, locals := 0 }) s m args below meth c H locs 0 0 (MQ below (va_Qi (fun (r : Int32) (u : (Nat → Int32)) => some (r, u) = some res) (gB (dC, dI) [(c_p0, .int)] A (fun (u : (Nat → Int32)) => (WS_M_multiply h_p0 c_p0 u))) A) args s 0 0 A) (F0 m 7 ls []) := by
  intro n
  induction n with
  | zero =>
    intro a_p0 y1 y2 y4 y6 H locs ls hP hD hS hl h
    have h9 : (none : Option (Int32 × (Nat → Int32))) = some res := h
    cases h9
  | succ n ih =>
    intro a_p0 y1 y2 y4 y6 H locs ls hP hD hS hl h
    exact s_M_multiply_7b cx hK hA hX ih a_p0 y1 y2 y4 y6 H locs ls hP hD hS hl h
set_option maxHeartbeats 4000000 in
set_option maxRecDepth 100000 in
theorem s_M_multiply_e {p : Program} {l : Launch} {e : Env} {s : State} {m : MethodId} {args : Array Value} {below : List Frame} {meth : Method} {c : Code} {dC : Nat → ClassId} {dI : Nat → Nat → Nat} {A : Nat → Prop} {X : SXT} {h_p0 : Nat} {c_p0 : ClassId} {res : Int32 × (Nat → Int32)} (cx : cxx p s m args meth c b_M_multiply 7 (some .int) R_M) (hK : va_K (dC, dI) classes [(c_p0, .int)] s) (hA : ∀ q, s.heap.size ≤ q → A q) (hX : SX X A s s.heap) : ∀ (a_p0 : (Nat → Int32)) (p1 : Int32) (p2 : Int32) (p3 : Int32) (H : Heap) (locs : List Loc) (ls : Array Slot), va_P (dC, dI) classes (WS_M_multiply h_p0 c_p0 a_p0) H → va_D A (WS_M_multiply h_p0 c_p0 a_p0) → va_S A s.heap H locs → lv_has ls 7 [(0, .ref h_p0), (1, .int p1), (2, .int p2), (3, .int p3)] → f_M_multiply a_p0 p1 p2 p3 = some res → W p l e ({ frames := 0, cells := 0, slots := 0, locals := 0 }) s m args below meth c H locs 0 0 (MQ below (va_Qi (fun (r : Int32) (u : (Nat → Int32)) => some (r, u) = some res) (gB (dC, dI) [(c_p0, .int)] A (fun (u : (Nat → Int32)) => (WS_M_multiply h_p0 c_p0 u))) A) args s 0 0 A) (F0 m 0 ls []) := by
  intro a_p0 p1 p2 p3 H locs ls hP hD hS hl h
  obtain ⟨hx, hb, hr, hml, hown, ht, hlk⟩ := id cx
  refine lv_iload_n hx hb d_M_multiply_0 rfl (lv_at hl 3 rfl) ?_
  refine lv_i2l (v := p3.toInt64) hx hb d_M_multiply_1 rfl ?_
  refine lv_topl (fun x11 e_x11 => ?_)
  have h := bd_g e_x11 h
  refine lv_lstore (lv' := [(4, .long x11), (0, .ref h_p0), (1, .int p1), (2, .int p2), (3, .int p3)]) hx hb d_M_multiply_2 hl (by decide) rfl (fun ls hl => ?_)
  refine lv_iconst (v := 0) hx hb d_M_multiply_4 (by decide) ?_
  refine lv_istore (lv' := [(6, .int (0 : Int32)), (4, .long x11), (0, .ref h_p0), (1, .int p1), (2, .int p2), (3, .int p3)]) hx hb d_M_multiply_5 hl (by decide) rfl (fun ls hl => ?_)
  exact s_M_multiply_7 cx hK hA hX fu a_p0 p1 p2 x11 (0 : Int32) H locs ls hP hD hS (lv_sub hl [2, 3, 4, 1, 0] rfl) h
set_option maxHeartbeats 4000000 in
set_option maxRecDepth 100000 in
theorem c_M_multiply (l : Launch) (dC : Nat → ClassId) (dI : Nat → Nat → Nat) (X : SXT) (h_p0 : Nat) (c_p0 : ClassId) (sz : Nat) (a_p0 : (Nat → Int32)) (p1 : Int32) (p2 : Int32) (p3 : Int32) (res : Int32 × (Nat → Int32)) (hf : f_M_multiply a_p0 p1 p2 p3 = some res) : Met l y_M_multiply (.code y_M_multiply b_M_multiply 7 (some .int) :: w0) ({ frames := 0, cells := 0, slots := 0, locals := 0 }) (va_Pc [.ref h_p0, .int p1, .int p2, .int p3] (gP (dC, dI) (WS_M_multiply h_p0 c_p0 a_p0) [(c_p0, .int)] sz X)) (va_Qi (fun (r : Int32) (u : (Nat → Int32)) => some (r, u) = some res) (gB (dC, dI) [(c_p0, .int)] (va_A (WS_M_multiply h_p0 c_p0 a_p0) sz) (fun (u : (Nat → Int32)) => (WS_M_multiply h_p0 c_p0 u))) (va_A (WS_M_multiply h_p0 c_p0 a_p0) sz)) 0 0 (va_A (WS_M_multiply h_p0 c_p0 a_p0) sz) := by
  refine Met.ofW (cc := b_M_multiply) (maxL := 7) (ret := (some .int)) (by decide) rfl ?_
  intro p e s m args below meth c s₁ B hml hv
  obtain ⟨rfl, hsz, hP, hK, hD0, hX⟩ := hv
  subst hsz
  have cx : cxx p s m ([.ref h_p0, .int p1, .int p2, .int p3] : List Value).toArray meth c b_M_multiply 7 (some .int) R_M := ⟨B.exec, B.bytes, B.returns, hml, findClass_of_methodNamed B.named, fun w9 hw => atoms_spec (ws := .code y_M_multiply b_M_multiply 7 (some .int) :: w0) B.pre w9 (List.mem_cons_of_mem _ hw), B.notSynchronized⟩
  have hD := hD0.self (sz := s.heap.size)
  generalize hAe : va_A (WS_M_multiply h_p0 c_p0 a_p0) s.heap.size = A at hD hX ⊢
  have hA : ∀ q : Nat, s.heap.size ≤ q → A q := fun q h => by rw [← hAe]; exact Or.inr h
  have hS : va_S A s.heap s.heap [] := va_S.rf
  have hl := lv_entry ([.ref h_p0, .int p1, .int p2, .int p3]) (n := 7) (Nat.le_of_ble_eq_true rfl)
  rw [lg_entry_eq]
  generalize (lg_sl ([.ref h_p0, .int p1, .int p2, .int p3]) ++ List.replicate (7 - (lg_sl ([.ref h_p0, .int p1, .int p2, .int p3])).length) Slot.unset).toArray = ls at hl ⊢
  have hl : lv_has ls 7 [(0, .ref h_p0), (1, .int p1), (2, .int p2), (3, .int p3)] := hl
  exact s_M_multiply_e cx hK hA hX a_p0 p1 p2 p3 s.heap [] ls hP hD hS hl hf
abbrev WS_M_bits (h_p0 : Nat) (c_p0 : ClassId) (a_p0 : (Nat → Int32)) : va_W := [(h_p0, .inl (c_p0, 400, .inl a_p0))]
def f_M_bits_24 (a_p0 : (Nat → Int32)) (y1 : Int32) (y2 : Int32) : Option (Int32) :=
  some (((30 : Int32) * (y1 - (1 : Int32))) + y2)
def f_M_bits_8b (k8 : (Nat → Int32) → Int32 → Int32 → Option (Int32)) (a_p0 : (Nat → Int32)) (y1 : Int32) (y2 : Int32) : Option (Int32) :=
  ck (gin (y1 - (1 : Int32)) 400) <|
  if ((a_p0 (y1 - (1 : Int32)).toNatClampNeg) >>> (y2 &&& 31)) = 0 then
    f_M_bits_24 a_p0 y1 y2
  else
    bd (y2 + (1 : Int32)) fun x3 =>
    k8 a_p0 y1 x3
def f_M_bits_8 : Nat → (Nat → Int32) → Int32 → Int32 → Option (Int32)
  | 0 => fun _ _ _ => none
  | n + 1 => fun a_p0 y1 y2 => f_M_bits_8b (f_M_bits_8 n) a_p0 y1 y2
def f_M_bits (a_p0 : (Nat → Int32)) (p1 : Int32) : Option (Int32) :=
  if p1 = 0 then
    some (0 : Int32)
  else
    f_M_bits_8 fu a_p0 p1 (0 : Int32)
set_option maxHeartbeats 4000000 in
set_option maxRecDepth 100000 in
theorem s_M_bits_24 {p : Program} {l : Launch} {e : Env} {s : State} {m : MethodId} {args : Array Value} {below : List Frame} {meth : Method} {c : Code} {dC : Nat → ClassId} {dI : Nat → Nat → Nat} {A : Nat → Prop} {X : SXT} {h_p0 : Nat} {c_p0 : ClassId} {res : Int32}  (cx : cxx p s m args meth c b_M_bits 3 (some .int) R_M) (hK : va_K (dC, dI) classes [(c_p0, .int)] s) (hA : ∀ q, s.heap.size ≤ q → A q) (hX : SX X A s s.heap)  : ∀ (a_p0 : (Nat → Int32)) (y1 : Int32) (y2 : Int32) (H : Heap) (locs : List Loc) (ls : Array Slot), va_P (dC, dI) classes (WS_M_bits h_p0 c_p0 a_p0) H → va_D A (WS_M_bits h_p0 c_p0 a_p0) → va_S A s.heap H locs → lv_has ls 3 [(0, .ref h_p0), (1, .int y1), (2, .int y2)] → f_M_bits_24 a_p0 y1 y2 = some res → W p l e ({ frames := 0, cells := 0, slots := 0, locals := 0 }) s m args below meth c H locs 0 0 (MQ below (va_Qi (fun (r : Int32) (_ : Unit) => some r = some res) (gB (dC, dI) [(c_p0, .int)] A (fun (u : Unit) => (WS_M_bits h_p0 c_p0 a_p0))) A) args s 0 0 A) (F0 m 24 ls []) := by
  intro a_p0 y1 y2 H locs ls hP hD hS hl h
  obtain ⟨hx, hb, hr, hml, hown, ht, hlk⟩ := id cx
  refine lv_bipush (v := 30) hx hb d_M_bits_24 (by decide) ?_
  refine lv_iload_n hx hb d_M_bits_26 rfl (lv_at hl 1 rfl) ?_
  refine lv_iconst (v := 1) hx hb d_M_bits_27 (by decide) ?_
  refine lv_isub hx hb d_M_bits_28 ?_
  refine lv_imul hx hb d_M_bits_29 ?_
  refine lv_iload_n hx hb d_M_bits_30 rfl (lv_at hl 2 rfl) ?_
  refine lv_iadd hx hb d_M_bits_31 ?_
  exact W.iret (v := (((30 : Int32) * (y1 - (1 : Int32))) + y2)) hx hb hr (fun t ht9 hW => ⟨⟨(((30 : Int32) * (y1 - (1 : Int32))) + y2), (), rfl, h, by rw [ht9]; exact hP, va_K.moved hW.alike hK, hD⟩, hS.F ht9⟩) hS.2.2 d_M_bits_32 hlk
set_option maxHeartbeats 4000000 in
set_option maxRecDepth 100000 in
theorem s_M_bits_8b {p : Program} {l : Launch} {e : Env} {s : State} {m : MethodId} {args : Array Value} {below : List Frame} {meth : Method} {c : Code} {dC : Nat → ClassId} {dI : Nat → Nat → Nat} {A : Nat → Prop} {X : SXT} {h_p0 : Nat} {c_p0 : ClassId} {res : Int32} {k8 : (Nat → Int32) → Int32 → Int32 → Option (Int32)} (cx : cxx p s m args meth c b_M_bits 3 (some .int) R_M) (hK : va_K (dC, dI) classes [(c_p0, .int)] s) (hA : ∀ q, s.heap.size ≤ q → A q) (hX : SX X A s s.heap) (hk8 : ∀ (a_p0 : (Nat → Int32)) (y1 : Int32) (y2 : Int32) (H : Heap) (locs : List Loc) (ls : Array Slot), va_P (dC, dI) classes (WS_M_bits h_p0 c_p0 a_p0) H → va_D A (WS_M_bits h_p0 c_p0 a_p0) → va_S A s.heap H locs → lv_has ls 3 [(0, .ref h_p0), (1, .int y1), (2, .int y2)] → k8 a_p0 y1 y2 = some res → W p l e ({ frames := 0, cells := 0, slots := 0, locals := 0 }) s m args below meth c H locs 0 0 (MQ below (va_Qi (fun (r : Int32) (_ : Unit) => some r = some res) (gB (dC, dI) [(c_p0, .int)] A (fun (u : Unit) => (WS_M_bits h_p0 c_p0 a_p0))) A) args s 0 0 A) (F0 m 8 ls [])) : ∀ (a_p0 : (Nat → Int32)) (y1 : Int32) (y2 : Int32) (H : Heap) (locs : List Loc) (ls : Array Slot), va_P (dC, dI) classes (WS_M_bits h_p0 c_p0 a_p0) H → va_D A (WS_M_bits h_p0 c_p0 a_p0) → va_S A s.heap H locs → lv_has ls 3 [(0, .ref h_p0), (1, .int y1), (2, .int y2)] → f_M_bits_8b k8 a_p0 y1 y2 = some res → W p l e ({ frames := 0, cells := 0, slots := 0, locals := 0 }) s m args below meth c H locs 0 0 (MQ below (va_Qi (fun (r : Int32) (_ : Unit) => some r = some res) (gB (dC, dI) [(c_p0, .int)] A (fun (u : Unit) => (WS_M_bits h_p0 c_p0 a_p0))) A) args s 0 0 A) (F0 m 8 ls []) := by
  intro a_p0 y1 y2 H locs ls hP hD hS hl h
  obtain ⟨hx, hb, hr, hml, hown, ht, hlk⟩ := id cx
  refine lv_aload_n hx hb d_M_bits_8 rfl (lv_at hl 0 rfl) ?_
  refine lv_iload_n hx hb d_M_bits_9 rfl (lv_at hl 1 rfl) ?_
  refine lv_iconst (v := 1) hx hb d_M_bits_10 (by decide) ?_
  refine lv_isub hx hb d_M_bits_11 ?_
  obtain ⟨c1, h⟩ := ck_x h
  refine va_iald (D := (dC, dI)) hx hb hK hP 0 0 rfl rfl c1 d_M_bits_12 ?_
  refine lv_iload_n hx hb d_M_bits_13 rfl (lv_at hl 2 rfl) ?_
  refine lv_ishr hx hb d_M_bits_14 ?_
  refine lv_if_eq (tgt := 24) hx hb d_M_bits_15 (by decide) (fun c2 => ?_) (fun c2 => ?_)
  · have h := if_t c2 h
    exact s_M_bits_24 cx hK hA hX a_p0 y1 y2 H locs ls hP hD hS (lv_sub hl [0, 1, 2] rfl) h
  · have h := if_f c2 h
    obtain ⟨x3, e_x3⟩ : ∃ y : Int32, y = y2 + (1 : Int32) := ⟨_, rfl⟩
    refine lv_iinc (v := x3) (lv' := [(2, .int x3), (0, .ref h_p0), (1, .int y1)]) hx hb d_M_bits_18 hl (k := 2) rfl (by rw [e_x3]; rfl) (by decide) rfl (fun ls hl => ?_)
    have h := bd_g e_x3 h
    refine lv_goto (tgt := 8) hx hb d_M_bits_21 (by decide) ?_
    exact hk8 a_p0 y1 x3 H locs ls hP hD hS (lv_sub hl [1, 2, 0] rfl) h
set_option maxHeartbeats 4000000 in
set_option maxRecDepth 100000 in
theorem s_M_bits_8 {p : Program} {l : Launch} {e : Env} {s : State} {m : MethodId} {args : Array Value} {below : List Frame} {meth : Method} {c : Code} {dC : Nat → ClassId} {dI : Nat → Nat → Nat} {A : Nat → Prop} {X : SXT} {h_p0 : Nat} {c_p0 : ClassId} {res : Int32}  (cx : cxx p s m args meth c b_M_bits 3 (some .int) R_M) (hK : va_K (dC, dI) classes [(c_p0, .int)] s) (hA : ∀ q, s.heap.size ≤ q → A q) (hX : SX X A s s.heap)  : ∀ n : Nat, ∀ (a_p0 : (Nat → Int32)) (y1 : Int32) (y2 : Int32) (H : Heap) (locs : List Loc) (ls : Array Slot), va_P (dC, dI) classes (WS_M_bits h_p0 c_p0 a_p0) H → va_D A (WS_M_bits h_p0 c_p0 a_p0) → va_S A s.heap H locs → lv_has ls 3 [(0, .ref h_p0), (1, .int y1), (2, .int y2)] → f_M_bits_8 n a_p0 y1 y2 = some res → W p l e ({ frames := 0, cells := 0, slots := 0, locals := 0 }) s m args below meth c H locs 0 0 (MQ below (va_Qi (fun (r : Int32) (_ : Unit) => some r = some res) (gB (dC, dI) [(c_p0, .int)] A (fun (u : Unit) => (WS_M_bits h_p0 c_p0 a_p0))) A) args s 0 0 A) (F0 m 8 ls []) := by
  intro n
  induction n with
  | zero =>
    intro a_p0 y1 y2 H locs ls hP hD hS hl h
    have h9 : (none : Option (Int32)) = some res := h
    cases h9
  | succ n ih =>
    intro a_p0 y1 y2 H locs ls hP hD hS hl h
    exact s_M_bits_8b cx hK hA hX ih a_p0 y1 y2 H locs ls hP hD hS hl h
set_option maxHeartbeats 4000000 in
set_option maxRecDepth 100000 in
theorem s_M_bits_e {p : Program} {l : Launch} {e : Env} {s : State} {m : MethodId} {args : Array Value} {below : List Frame} {meth : Method} {c : Code} {dC : Nat → ClassId} {dI : Nat → Nat → Nat} {A : Nat → Prop} {X : SXT} {h_p0 : Nat} {c_p0 : ClassId} {res : Int32} (cx : cxx p s m args meth c b_M_bits 3 (some .int) R_M) (hK : va_K (dC, dI) classes [(c_p0, .int)] s) (hA : ∀ q, s.heap.size ≤ q → A q) (hX : SX X A s s.heap) : ∀ (a_p0 : (Nat → Int32)) (p1 : Int32) (H : Heap) (locs : List Loc) (ls : Array Slot), va_P (dC, dI) classes (WS_M_bits h_p0 c_p0 a_p0) H → va_D A (WS_M_bits h_p0 c_p0 a_p0) → va_S A s.heap H locs → lv_has ls 3 [(0, .ref h_p0), (1, .int p1)] → f_M_bits a_p0 p1 = some res → W p l e ({ frames := 0, cells := 0, slots := 0, locals := 0 }) s m args below meth c H locs 0 0 (MQ below (va_Qi (fun (r : Int32) (_ : Unit) => some r = some res) (gB (dC, dI) [(c_p0, .int)] A (fun (u : Unit) => (WS_M_bits h_p0 c_p0 a_p0))) A) args s 0 0 A) (F0 m 0 ls []) := by
  intro a_p0 p1 H locs ls hP hD hS hl h
  obtain ⟨hx, hb, hr, hml, hown, ht, hlk⟩ := id cx
  refine lv_iload_n hx hb d_M_bits_0 rfl (lv_at hl 1 rfl) ?_
  refine lv_if_ne (tgt := 6) hx hb d_M_bits_1 (by decide) (fun c4 => ?_) (fun c4 => ?_)
  · have h := if_f c4 h
    refine lv_iconst (v := 0) hx hb d_M_bits_6 (by decide) ?_
    refine lv_istore_n (lv' := [(2, .int (0 : Int32)), (0, .ref h_p0), (1, .int p1)]) hx hb d_M_bits_7 rfl hl (by decide) rfl (fun ls hl => ?_)
    exact s_M_bits_8 cx hK hA hX fu a_p0 p1 (0 : Int32) H locs ls hP hD hS (lv_sub hl [1, 2, 0] rfl) h
  · have h := if_t c4 h
    refine lv_iconst (v := 0) hx hb d_M_bits_4 (by decide) ?_
    exact W.iret (v := (0 : Int32)) hx hb hr (fun t ht9 hW => ⟨⟨(0 : Int32), (), rfl, h, by rw [ht9]; exact hP, va_K.moved hW.alike hK, hD⟩, hS.F ht9⟩) hS.2.2 d_M_bits_5 hlk
set_option maxHeartbeats 4000000 in
set_option maxRecDepth 100000 in
theorem c_M_bits (l : Launch) (dC : Nat → ClassId) (dI : Nat → Nat → Nat) (X : SXT) (h_p0 : Nat) (c_p0 : ClassId) (sz : Nat) (a_p0 : (Nat → Int32)) (p1 : Int32) (res : Int32) (hf : f_M_bits a_p0 p1 = some res) : Met l y_M_bits (.code y_M_bits b_M_bits 3 (some .int) :: w0) ({ frames := 0, cells := 0, slots := 0, locals := 0 }) (va_Pc [.ref h_p0, .int p1] (gP (dC, dI) (WS_M_bits h_p0 c_p0 a_p0) [(c_p0, .int)] sz X)) (va_Qi (fun (r : Int32) (_ : Unit) => some r = some res) (gB (dC, dI) [(c_p0, .int)] (va_A (WS_M_bits h_p0 c_p0 a_p0) sz) (fun (u : Unit) => (WS_M_bits h_p0 c_p0 a_p0))) (va_A (WS_M_bits h_p0 c_p0 a_p0) sz)) 0 0 (va_A (WS_M_bits h_p0 c_p0 a_p0) sz) := by
  refine Met.ofW (cc := b_M_bits) (maxL := 3) (ret := (some .int)) (by decide) rfl ?_
  intro p e s m args below meth c s₁ B hml hv
  obtain ⟨rfl, hsz, hP, hK, hD0, hX⟩ := hv
  subst hsz
  have cx : cxx p s m ([.ref h_p0, .int p1] : List Value).toArray meth c b_M_bits 3 (some .int) R_M := ⟨B.exec, B.bytes, B.returns, hml, findClass_of_methodNamed B.named, fun w9 hw => atoms_spec (ws := .code y_M_bits b_M_bits 3 (some .int) :: w0) B.pre w9 (List.mem_cons_of_mem _ hw), B.notSynchronized⟩
  have hD := hD0.self (sz := s.heap.size)
  generalize hAe : va_A (WS_M_bits h_p0 c_p0 a_p0) s.heap.size = A at hD hX ⊢
  have hA : ∀ q : Nat, s.heap.size ≤ q → A q := fun q h => by rw [← hAe]; exact Or.inr h
  have hS : va_S A s.heap s.heap [] := va_S.rf
  have hl := lv_entry ([.ref h_p0, .int p1]) (n := 3) (Nat.le_of_ble_eq_true rfl)
  rw [lg_entry_eq]
  generalize (lg_sl ([.ref h_p0, .int p1]) ++ List.replicate (3 - (lg_sl ([.ref h_p0, .int p1])).length) Slot.unset).toArray = ls at hl ⊢
  have hl : lv_has ls 3 [(0, .ref h_p0), (1, .int p1)] := hl
  exact s_M_bits_e cx hK hA hX a_p0 p1 s.heap [] ls hP hD hS hl hf
abbrev WS_M_up (h_p0 : Nat) (c_p0 : ClassId) (a_p0 : (Nat → Int32)) : va_W := [(h_p0, .inl (c_p0, 400, .inl a_p0))]
def f_M_up_51 (a_p0 : (Nat → Int32)) (y2 : Int32) (y3 : Int32) : Option (Int32 × (Nat → Int32)) :=
  bi2 (f_M_multiply a_p0 y3 ((1 : Int32) <<< ((irm y2 (30 : Int32)) &&& 31)) (0 : Int32)) fun r1 a2 =>
  some (r1, a2)
def f_M_up_38 (k5 : (Nat → Int32) → Int32 → Int32 → Int32 → Option (Int32 × (Nat → Int32))) (a_p0 : (Nat → Int32)) (y2 : Int32) (y3 : Int32) (y4 : Int32) : Option (Int32 × (Nat → Int32)) :=
  ck (gin (0 : Int32) 400) <|
  bd (upd a_p0 (0 : Int32).toNatClampNeg (0 : Int32)) fun a4 =>
  bd (y3 + (1 : Int32)) fun x5 =>
  bd (y4 + (1 : Int32)) fun x6 =>
  k5 a4 y2 x5 x6
def f_M_up_17b (k5 : (Nat → Int32) → Int32 → Int32 → Int32 → Option (Int32 × (Nat → Int32))) (k17 : (Nat → Int32) → Int32 → Int32 → Int32 → Int32 → Option (Int32 × (Nat → Int32))) (a_p0 : (Nat → Int32)) (y2 : Int32) (y3 : Int32) (y4 : Int32) (y5 : Int32) : Option (Int32 × (Nat → Int32)) :=
  if y5 ≤ 0 then
    f_M_up_38 k5 a_p0 y2 y3 y4
  else
    ck (gin (y5 - (1 : Int32)) 400) <|
    ck (gin y5 400) <|
    bd (upd a_p0 y5.toNatClampNeg (a_p0 (y5 - (1 : Int32)).toNatClampNeg)) fun a10 =>
    bd (y5 + (-1 : Int32)) fun x11 =>
    k17 a10 y2 y3 y4 x11
def f_M_up_17 (k5 : (Nat → Int32) → Int32 → Int32 → Int32 → Option (Int32 × (Nat → Int32))) : Nat → (Nat → Int32) → Int32 → Int32 → Int32 → Int32 → Option (Int32 × (Nat → Int32))
  | 0 => fun _ _ _ _ _ => none
  | n + 1 => fun a_p0 y2 y3 y4 y5 => f_M_up_17b k5 (f_M_up_17 k5 n) a_p0 y2 y3 y4 y5
def f_M_up_5b (k5 : (Nat → Int32) → Int32 → Int32 → Int32 → Option (Int32 × (Nat → Int32))) (a_p0 : (Nat → Int32)) (y2 : Int32) (y3 : Int32) (y4 : Int32) : Option (Int32 × (Nat → Int32)) :=
  if (y2 / (30 : Int32)) ≤ y4 then
    f_M_up_51 a_p0 y2 y3
  else
    f_M_up_17 k5 fu a_p0 y2 y3 y4 y3
def f_M_up_5 : Nat → (Nat → Int32) → Int32 → Int32 → Int32 → Option (Int32 × (Nat → Int32))
  | 0 => fun _ _ _ _ => none
  | n + 1 => fun a_p0 y2 y3 y4 => f_M_up_5b (f_M_up_5 n) a_p0 y2 y3 y4
def f_M_up (a_p0 : (Nat → Int32)) (p1 : Int32) (p2 : Int32) : Option (Int32 × (Nat → Int32)) :=
  f_M_up_5 fu a_p0 p2 p1 (0 : Int32)
set_option maxHeartbeats 4000000 in
set_option maxRecDepth 100000 in
theorem s_M_up_51 {p : Program} {l : Launch} {e : Env} {s : State} {m : MethodId} {args : Array Value} {below : List Frame} {meth : Method} {c : Code} {dC : Nat → ClassId} {dI : Nat → Nat → Nat} {A : Nat → Prop} {X : SXT} {h_p0 : Nat} {c_p0 : ClassId} {res : Int32 × (Nat → Int32)}  (cx : cxx p s m args meth c b_M_up 6 (some .int) R_M) (hK : va_K (dC, dI) classes [(c_p0, .int)] s) (hA : ∀ q, s.heap.size ≤ q → A q) (hX : SX X A s s.heap)  : ∀ (a_p0 : (Nat → Int32)) (y2 : Int32) (y3 : Int32) (H : Heap) (locs : List Loc) (ls : Array Slot), va_P (dC, dI) classes (WS_M_up h_p0 c_p0 a_p0) H → va_D A (WS_M_up h_p0 c_p0 a_p0) → va_S A s.heap H locs → lv_has ls 6 [(0, .ref h_p0), (2, .int y2), (3, .int y3)] → f_M_up_51 a_p0 y2 y3 = some res → W p l e ({ frames := 1, cells := 0, slots := 0, locals := 26 }) s m args below meth c H locs 0 0 (MQ below (va_Qi (fun (r : Int32) (u : (Nat → Int32)) => some (r, u) = some res) (gB (dC, dI) [(c_p0, .int)] A (fun (u : (Nat → Int32)) => (WS_M_up h_p0 c_p0 u))) A) args s 0 0 A) (F0 m 51 ls []) := by
  intro a_p0 y2 y3 H locs ls hP hD hS hl h
  obtain ⟨hx, hb, hr, hml, hown, ht, hlk⟩ := id cx
  refine lv_aload_n hx hb d_M_up_51 rfl (lv_at hl 0 rfl) ?_
  refine lv_iload_n hx hb d_M_up_52 rfl (lv_at hl 2 rfl) ?_
  refine lv_iconst (v := 1) hx hb d_M_up_53 (by decide) ?_
  refine lv_iload_n hx hb d_M_up_54 rfl (lv_at hl 1 rfl) ?_
  refine lv_bipush (v := 30) hx hb d_M_up_55 (by decide) ?_
  refine lv_irem hx hb d_M_up_57 (by decide) ?_
  refine W.eq (g2 := F0 m 58 ls (.int (irm y2 (30 : Int32)) :: .int (1 : Int32) :: .int y3 :: .ref h_p0 :: [])) rfl ?_
  refine lv_ishl hx hb d_M_up_58 ?_
  refine lv_iconst (v := 0) hx hb d_M_up_59 (by decide) ?_
  obtain ⟨r1, a2, hf, h⟩ := bi2_x h
  refine clSi (D := (dC, dI)) (n := 4) (As := [.ref h_p0, .int y3, .int ((1 : Int32) <<< ((irm y2 (30 : Int32)) &&& 31)), .int (0 : Int32)]) ⟨hx, hb, hml, hown, ht⟩ (c_M_multiply l dC dI X h_p0 c_p0 H.size a_p0 y3 ((1 : Int32) <<< ((irm y2 (30 : Int32)) &&& 31)) (0 : Int32) (r1, a2) hf) (gS q_547 q_548 q_490 q_549) (by decide +kernel) ⟨rfl, rfl, Nat.le_of_ble_eq_true rfl, Nat.le_of_ble_eq_true rfl⟩ hK hP hD hS hA hX [0] [] [0] rfl (wr := []) rfl (by decide) (by decide) (by decide) rfl rfl hl.1 rfl (lv_room (Nat.le_of_ble_eq_true rfl)) d_M_up_60 ⟨Nat.zero_le _, Nat.zero_le _⟩ (fun r9 u9 H locs h9 hP hD hS => ?_)
  cases h9
  have hP : va_P (dC, dI) classes (WS_M_up h_p0 c_p0 a2) H := hP.sub [0] rfl
  have hD : va_D A (WS_M_up h_p0 c_p0 a2) := hD.sub [0] (by decide) rfl
  exact W.iret (v := r1) hx hb hr (fun t ht9 hW => ⟨⟨r1, a2, rfl, h, by rw [ht9]; exact hP, va_K.moved hW.alike hK, hD⟩, hS.F ht9⟩) hS.2.2 d_M_up_63 hlk
set_option maxHeartbeats 4000000 in
set_option maxRecDepth 100000 in
theorem s_M_up_38 {p : Program} {l : Launch} {e : Env} {s : State} {m : MethodId} {args : Array Value} {below : List Frame} {meth : Method} {c : Code} {dC : Nat → ClassId} {dI : Nat → Nat → Nat} {A : Nat → Prop} {X : SXT} {h_p0 : Nat} {c_p0 : ClassId} {res : Int32 × (Nat → Int32)} {k5 : (Nat → Int32) → Int32 → Int32 → Int32 → Option (Int32 × (Nat → Int32))} (cx : cxx p s m args meth c b_M_up 6 (some .int) R_M) (hK : va_K (dC, dI) classes [(c_p0, .int)] s) (hA : ∀ q, s.heap.size ≤ q → A q) (hX : SX X A s s.heap) (hk5 : ∀ (a_p0 : (Nat → Int32)) (y2 : Int32) (y3 : Int32) (y4 : Int32) (H : Heap) (locs : List Loc) (ls : Array Slot), va_P (dC, dI) classes (WS_M_up h_p0 c_p0 a_p0) H → va_D A (WS_M_up h_p0 c_p0 a_p0) → va_S A s.heap H locs → lv_has ls 6 [(0, .ref h_p0), (2, .int y2), (3, .int y3), (4, .int y4)] → k5 a_p0 y2 y3 y4 = some res → W p l e ({ frames := 1, cells := 0, slots := 0, locals := 26 }) s m args below meth c H locs 0 0 (MQ below (va_Qi (fun (r : Int32) (u : (Nat → Int32)) => some (r, u) = some res) (gB (dC, dI) [(c_p0, .int)] A (fun (u : (Nat → Int32)) => (WS_M_up h_p0 c_p0 u))) A) args s 0 0 A) (F0 m 5 ls [])) : ∀ (a_p0 : (Nat → Int32)) (y2 : Int32) (y3 : Int32) (y4 : Int32) (H : Heap) (locs : List Loc) (ls : Array Slot), va_P (dC, dI) classes (WS_M_up h_p0 c_p0 a_p0) H → va_D A (WS_M_up h_p0 c_p0 a_p0) → va_S A s.heap H locs → lv_has ls 6 [(0, .ref h_p0), (2, .int y2), (3, .int y3), (4, .int y4)] → f_M_up_38 k5 a_p0 y2 y3 y4 = some res → W p l e ({ frames := 1, cells := 0, slots := 0, locals := 26 }) s m args below meth c H locs 0 0 (MQ below (va_Qi (fun (r : Int32) (u : (Nat → Int32)) => some (r, u) = some res) (gB (dC, dI) [(c_p0, .int)] A (fun (u : (Nat → Int32)) => (WS_M_up h_p0 c_p0 u))) A) args s 0 0 A) (F0 m 38 ls []) := by
  intro a_p0 y2 y3 y4 H locs ls hP hD hS hl h
  obtain ⟨hx, hb, hr, hml, hown, ht, hlk⟩ := id cx
  refine lv_aload_n hx hb d_M_up_38 rfl (lv_at hl 0 rfl) ?_
  refine lv_iconst (v := 0) hx hb d_M_up_39 (by decide) ?_
  refine lv_iconst (v := 0) hx hb d_M_up_40 (by decide) ?_
  obtain ⟨c3, h⟩ := ck_x h
  refine va_iast (D := (dC, dI)) hx hb hK hP hD hS 0 0 rfl rfl c3 d_M_up_41 (fun H locs hP hD hS => ?_)
  obtain ⟨a4, e_a4⟩ : ∃ y, y = upd a_p0 (0 : Int32).toNatClampNeg (0 : Int32) := ⟨_, rfl⟩
  have hP : va_P (dC, dI) classes (WS_M_up h_p0 c_p0 a4) H := by rw [e_a4]; exact hP
  have hD : va_D A (WS_M_up h_p0 c_p0 a4) := by rw [e_a4]; exact hD
  have h := bd_g e_a4 h
  obtain ⟨x5, e_x5⟩ : ∃ y : Int32, y = y3 + (1 : Int32) := ⟨_, rfl⟩
  refine lv_iinc (v := x5) (lv' := [(3, .int x5), (0, .ref h_p0), (2, .int y2), (4, .int y4)]) hx hb d_M_up_42 hl (k := 2) rfl (by rw [e_x5]; rfl) (by decide) rfl (fun ls hl => ?_)
  have h := bd_g e_x5 h
  obtain ⟨x6, e_x6⟩ : ∃ y : Int32, y = y4 + (1 : Int32) := ⟨_, rfl⟩
  refine lv_iinc (v := x6) (lv' := [(4, .int x6), (3, .int x5), (0, .ref h_p0), (2, .int y2)]) hx hb d_M_up_45 hl (k := 3) rfl (by rw [e_x6]; rfl) (by decide) rfl (fun ls hl => ?_)
  have h := bd_g e_x6 h
  refine lv_goto (tgt := 5) hx hb d_M_up_48 (by decide) ?_
  exact hk5 a4 y2 x5 x6 H locs ls hP hD hS (lv_sub hl [2, 3, 1, 0] rfl) h
set_option maxHeartbeats 4000000 in
set_option maxRecDepth 100000 in
theorem s_M_up_17b {p : Program} {l : Launch} {e : Env} {s : State} {m : MethodId} {args : Array Value} {below : List Frame} {meth : Method} {c : Code} {dC : Nat → ClassId} {dI : Nat → Nat → Nat} {A : Nat → Prop} {X : SXT} {h_p0 : Nat} {c_p0 : ClassId} {res : Int32 × (Nat → Int32)} {k5 : (Nat → Int32) → Int32 → Int32 → Int32 → Option (Int32 × (Nat → Int32))} {k17 : (Nat → Int32) → Int32 → Int32 → Int32 → Int32 → Option (Int32 × (Nat → Int32))} (cx : cxx p s m args meth c b_M_up 6 (some .int) R_M) (hK : va_K (dC, dI) classes [(c_p0, .int)] s) (hA : ∀ q, s.heap.size ≤ q → A q) (hX : SX X A s s.heap) (hk5 : ∀ (a_p0 : (Nat → Int32)) (y2 : Int32) (y3 : Int32) (y4 : Int32) (H : Heap) (locs : List Loc) (ls : Array Slot), va_P (dC, dI) classes (WS_M_up h_p0 c_p0 a_p0) H → va_D A (WS_M_up h_p0 c_p0 a_p0) → va_S A s.heap H locs → lv_has ls 6 [(0, .ref h_p0), (2, .int y2), (3, .int y3), (4, .int y4)] → k5 a_p0 y2 y3 y4 = some res → W p l e ({ frames := 1, cells := 0, slots := 0, locals := 26 }) s m args below meth c H locs 0 0 (MQ below (va_Qi (fun (r : Int32) (u : (Nat → Int32)) => some (r, u) = some res) (gB (dC, dI) [(c_p0, .int)] A (fun (u : (Nat → Int32)) => (WS_M_up h_p0 c_p0 u))) A) args s 0 0 A) (F0 m 5 ls [])) (hk17 : ∀ (a_p0 : (Nat → Int32)) (y2 : Int32) (y3 : Int32) (y4 : Int32) (y5 : Int32) (H : Heap) (locs : List Loc) (ls : Array Slot), va_P (dC, dI) classes (WS_M_up h_p0 c_p0 a_p0) H → va_D A (WS_M_up h_p0 c_p0 a_p0) → va_S A s.heap H locs → lv_has ls 6 [(0, .ref h_p0), (2, .int y2), (3, .int y3), (4, .int y4), (5, .int y5)] → k17 a_p0 y2 y3 y4 y5 = some res → W p l e ({ frames := 1, cells := 0, slots := 0, locals := 26 }) s m args below meth c H locs 0 0 (MQ below (va_Qi (fun (r : Int32) (u : (Nat → Int32)) => some (r, u) = some res) (gB (dC, dI) [(c_p0, .int)] A (fun (u : (Nat → Int32)) => (WS_M_up h_p0 c_p0 u))) A) args s 0 0 A) (F0 m 17 ls [])) : ∀ (a_p0 : (Nat → Int32)) (y2 : Int32) (y3 : Int32) (y4 : Int32) (y5 : Int32) (H : Heap) (locs : List Loc) (ls : Array Slot), va_P (dC, dI) classes (WS_M_up h_p0 c_p0 a_p0) H → va_D A (WS_M_up h_p0 c_p0 a_p0) → va_S A s.heap H locs → lv_has ls 6 [(0, .ref h_p0), (2, .int y2), (3, .int y3), (4, .int y4), (5, .int y5)] → f_M_up_17b k5 k17 a_p0 y2 y3 y4 y5 = some res → W p l e ({ frames := 1, cells := 0, slots := 0, locals := 26 }) s m args below meth c H locs 0 0 (MQ below (va_Qi (fun (r : Int32) (u : (Nat → Int32)) => some (r, u) = some res) (gB (dC, dI) [(c_p0, .int)] A (fun (u : (Nat → Int32)) => (WS_M_up h_p0 c_p0 u))) A) args s 0 0 A) (F0 m 17 ls []) := by
  intro a_p0 y2 y3 y4 y5 H locs ls hP hD hS hl h
  obtain ⟨hx, hb, hr, hml, hown, ht, hlk⟩ := id cx
  refine lv_iload hx hb d_M_up_17 (lv_at hl 4 rfl) ?_
  refine lv_if_le (tgt := 38) hx hb d_M_up_19 (by decide) (fun c7 => ?_) (fun c7 => ?_)
  · have h := if_t c7 h
    exact s_M_up_38 cx hK hA hX hk5 a_p0 y2 y3 y4 H locs ls hP hD hS (lv_sub hl [0, 1, 2, 3] rfl) h
  · have h := if_f c7 h
    refine lv_aload_n hx hb d_M_up_22 rfl (lv_at hl 0 rfl) ?_
    refine lv_iload hx hb d_M_up_23 (lv_at hl 4 rfl) ?_
    refine lv_aload_n hx hb d_M_up_25 rfl (lv_at hl 0 rfl) ?_
    refine lv_iload hx hb d_M_up_26 (lv_at hl 4 rfl) ?_
    refine lv_iconst (v := 1) hx hb d_M_up_28 (by decide) ?_
    refine lv_isub hx hb d_M_up_29 ?_
    obtain ⟨c8, h⟩ := ck_x h
    refine va_iald (D := (dC, dI)) hx hb hK hP 0 0 rfl rfl c8 d_M_up_30 ?_
    obtain ⟨c9, h⟩ := ck_x h
    refine va_iast (D := (dC, dI)) hx hb hK hP hD hS 0 0 rfl rfl c9 d_M_up_31 (fun H locs hP hD hS => ?_)
    obtain ⟨a10, e_a10⟩ : ∃ y, y = upd a_p0 y5.toNatClampNeg (a_p0 (y5 - (1 : Int32)).toNatClampNeg) := ⟨_, rfl⟩
    have hP : va_P (dC, dI) classes (WS_M_up h_p0 c_p0 a10) H := by rw [e_a10]; exact hP
    have hD : va_D A (WS_M_up h_p0 c_p0 a10) := by rw [e_a10]; exact hD
    have h := bd_g e_a10 h
    obtain ⟨x11, e_x11⟩ : ∃ y : Int32, y = y5 + (-1 : Int32) := ⟨_, rfl⟩
    refine lv_iinc (v := x11) (lv' := [(5, .int x11), (0, .ref h_p0), (2, .int y2), (3, .int y3), (4, .int y4)]) hx hb d_M_up_32 hl (k := 4) rfl (by rw [e_x11]; rfl) (by decide) rfl (fun ls hl => ?_)
    have h := bd_g e_x11 h
    refine lv_goto (tgt := 17) hx hb d_M_up_35 (by decide) ?_
    exact hk17 a10 y2 y3 y4 x11 H locs ls hP hD hS (lv_sub hl [1, 2, 3, 4, 0] rfl) h
set_option maxHeartbeats 4000000 in
set_option maxRecDepth 100000 in
theorem s_M_up_17 {p : Program} {l : Launch} {e : Env} {s : State} {m : MethodId} {args : Array Value} {below : List Frame} {meth : Method} {c : Code} {dC : Nat → ClassId} {dI : Nat → Nat → Nat} {A : Nat → Prop} {X : SXT} {h_p0 : Nat} {c_p0 : ClassId} {res : Int32 × (Nat → Int32)} {k5 : (Nat → Int32) → Int32 → Int32 → Int32 → Option (Int32 × (Nat → Int32))} (cx : cxx p s m args meth c b_M_up 6 (some .int) R_M) (hK : va_K (dC, dI) classes [(c_p0, .int)] s) (hA : ∀ q, s.heap.size ≤ q → A q) (hX : SX X A s s.heap) (hk5 : ∀ (a_p0 : (Nat → Int32)) (y2 : Int32) (y3 : Int32) (y4 : Int32) (H : Heap) (locs : List Loc) (ls : Array Slot), va_P (dC, dI) classes (WS_M_up h_p0 c_p0 a_p0) H → va_D A (WS_M_up h_p0 c_p0 a_p0) → va_S A s.heap H locs → lv_has ls 6 [(0, .ref h_p0), (2, .int y2), (3, .int y3), (4, .int y4)] → k5 a_p0 y2 y3 y4 = some res → W p l e ({ frames := 1, cells := 0, slots := 0, locals := 26 }) s m args below meth c H locs 0 0 (MQ below (va_Qi (fun (r : Int32) (u : (Nat → Int32)) => some (r, u) = some res) (gB (dC, dI) [(c_p0, .int)] A (fun (u : (Nat → Int32)) => (WS_M_up h_p0 c_p0 u))) A) args s 0 0 A) (F0 m 5 ls [])) : ∀ n : Nat, ∀ (a_p0 : (Nat → Int32)) (y2 : Int32) (y3 : Int32) (y4 : Int32) (y5 : Int32) (H : Heap) (locs : List Loc) (ls : Array Slot), va_P (dC, dI) classes (WS_M_up h_p0 c_p0 a_p0) H → va_D A (WS_M_up h_p0 c_p0 a_p0) → va_S A s.heap H locs → lv_has ls 6 [(0, .ref h_p0), (2, .int y2), (3, .int y3), (4, .int y4), (5, .int y5)] → f_M_up_17 k5 n a_p0 y2 y3 y4 y5 = some res → W p l e ({ frames := 1, cells := 0, slots := 0, locals := 26 }) s m args below meth c H locs 0 0 (MQ below (va_Qi (fun (r : Int32) (u : (Nat → Int32)) => some (r, u) = some res) (gB (dC, dI) [(c_p0, .int)] A (fun (u : (Nat → Int32)) => (WS_M_up h_p0 c_p0 u))) A) args s 0 0 A) (F0 m 17 ls []) := by
  intro n
  induction n with
  | zero =>
    intro a_p0 y2 y3 y4 y5 H locs ls hP hD hS hl h
    have h9 : (none : Option (Int32 × (Nat → Int32))) = some res := h
    cases h9
  | succ n ih =>
    intro a_p0 y2 y3 y4 y5 H locs ls hP hD hS hl h
    exact s_M_up_17b cx hK hA hX hk5 ih a_p0 y2 y3 y4 y5 H locs ls hP hD hS hl h
set_option maxHeartbeats 4000000 in
set_option maxRecDepth 100000 in
theorem s_M_up_5b {p : Program} {l : Launch} {e : Env} {s : State} {m : MethodId} {args : Array Value} {below : List Frame} {meth : Method} {c : Code} {dC : Nat → ClassId} {dI : Nat → Nat → Nat} {A : Nat → Prop} {X : SXT} {h_p0 : Nat} {c_p0 : ClassId} {res : Int32 × (Nat → Int32)} {k5 : (Nat → Int32) → Int32 → Int32 → Int32 → Option (Int32 × (Nat → Int32))} (cx : cxx p s m args meth c b_M_up 6 (some .int) R_M) (hK : va_K (dC, dI) classes [(c_p0, .int)] s) (hA : ∀ q, s.heap.size ≤ q → A q) (hX : SX X A s s.heap) (hk5 : ∀ (a_p0 : (Nat → Int32)) (y2 : Int32) (y3 : Int32) (y4 : Int32) (H : Heap) (locs : List Loc) (ls : Array Slot), va_P (dC, dI) classes (WS_M_up h_p0 c_p0 a_p0) H → va_D A (WS_M_up h_p0 c_p0 a_p0) → va_S A s.heap H locs → lv_has ls 6 [(0, .ref h_p0), (2, .int y2), (3, .int y3), (4, .int y4)] → k5 a_p0 y2 y3 y4 = some res → W p l e ({ frames := 1, cells := 0, slots := 0, locals := 26 }) s m args below meth c H locs 0 0 (MQ below (va_Qi (fun (r : Int32) (u : (Nat → Int32)) => some (r, u) = some res) (gB (dC, dI) [(c_p0, .int)] A (fun (u : (Nat → Int32)) => (WS_M_up h_p0 c_p0 u))) A) args s 0 0 A) (F0 m 5 ls [])) : ∀ (a_p0 : (Nat → Int32)) (y2 : Int32) (y3 : Int32) (y4 : Int32) (H : Heap) (locs : List Loc) (ls : Array Slot), va_P (dC, dI) classes (WS_M_up h_p0 c_p0 a_p0) H → va_D A (WS_M_up h_p0 c_p0 a_p0) → va_S A s.heap H locs → lv_has ls 6 [(0, .ref h_p0), (2, .int y2), (3, .int y3), (4, .int y4)] → f_M_up_5b k5 a_p0 y2 y3 y4 = some res → W p l e ({ frames := 1, cells := 0, slots := 0, locals := 26 }) s m args below meth c H locs 0 0 (MQ below (va_Qi (fun (r : Int32) (u : (Nat → Int32)) => some (r, u) = some res) (gB (dC, dI) [(c_p0, .int)] A (fun (u : (Nat → Int32)) => (WS_M_up h_p0 c_p0 u))) A) args s 0 0 A) (F0 m 5 ls []) := by
  intro a_p0 y2 y3 y4 H locs ls hP hD hS hl h
  obtain ⟨hx, hb, hr, hml, hown, ht, hlk⟩ := id cx
  refine lv_iload hx hb d_M_up_5 (lv_at hl 3 rfl) ?_
  refine lv_iload_n hx hb d_M_up_7 rfl (lv_at hl 1 rfl) ?_
  refine lv_bipush (v := 30) hx hb d_M_up_8 (by decide) ?_
  refine lv_idiv hx hb d_M_up_10 (by decide) ?_
  refine lv_icmp_ge (tgt := 51) hx hb d_M_up_11 (by decide) (fun c12 => ?_) (fun c12 => ?_)
  · have h := if_t c12 h
    exact s_M_up_51 cx hK hA hX a_p0 y2 y3 H locs ls hP hD hS (lv_sub hl [0, 1, 2] rfl) h
  · have h := if_f c12 h
    refine lv_iload_n hx hb d_M_up_14 rfl (lv_at hl 2 rfl) ?_
    refine lv_istore (lv' := [(5, .int y3), (0, .ref h_p0), (2, .int y2), (3, .int y3), (4, .int y4)]) hx hb d_M_up_15 hl (by decide) rfl (fun ls hl => ?_)
    exact s_M_up_17 cx hK hA hX hk5 fu a_p0 y2 y3 y4 y3 H locs ls hP hD hS (lv_sub hl [1, 2, 3, 4, 0] rfl) h
set_option maxHeartbeats 4000000 in
set_option maxRecDepth 100000 in
theorem s_M_up_5 {p : Program} {l : Launch} {e : Env} {s : State} {m : MethodId} {args : Array Value} {below : List Frame} {meth : Method} {c : Code} {dC : Nat → ClassId} {dI : Nat → Nat → Nat} {A : Nat → Prop} {X : SXT} {h_p0 : Nat} {c_p0 : ClassId} {res : Int32 × (Nat → Int32)}  (cx : cxx p s m args meth c b_M_up 6 (some .int) R_M) (hK : va_K (dC, dI) classes [(c_p0, .int)] s) (hA : ∀ q, s.heap.size ≤ q → A q) (hX : SX X A s s.heap)  : ∀ n : Nat, ∀ (a_p0 : (Nat → Int32)) (y2 : Int32) (y3 : Int32) (y4 : Int32) (H : Heap) (locs : List Loc) (ls : Array Slot), va_P (dC, dI) classes (WS_M_up h_p0 c_p0 a_p0) H → va_D A (WS_M_up h_p0 c_p0 a_p0) → va_S A s.heap H locs → lv_has ls 6 [(0, .ref h_p0), (2, .int y2), (3, .int y3), (4, .int y4)] → f_M_up_5 n a_p0 y2 y3 y4 = some res → W p l e ({ frames := 1, cells := 0, slots := 0, locals := 26 }) s m args below meth c H locs 0 0 (MQ below (va_Qi (fun (r : Int32) (u : (Nat → Int32)) => some (r, u) = some res) (gB (dC, dI) [(c_p0, .int)] A (fun (u : (Nat → Int32)) => (WS_M_up h_p0 c_p0 u))) A) args s 0 0 A) (F0 m 5 ls []) := by
  intro n
  induction n with
  | zero =>
    intro a_p0 y2 y3 y4 H locs ls hP hD hS hl h
    have h9 : (none : Option (Int32 × (Nat → Int32))) = some res := h
    cases h9
  | succ n ih =>
    intro a_p0 y2 y3 y4 H locs ls hP hD hS hl h
    exact s_M_up_5b cx hK hA hX ih a_p0 y2 y3 y4 H locs ls hP hD hS hl h
set_option maxHeartbeats 4000000 in
set_option maxRecDepth 100000 in
theorem s_M_up_e {p : Program} {l : Launch} {e : Env} {s : State} {m : MethodId} {args : Array Value} {below : List Frame} {meth : Method} {c : Code} {dC : Nat → ClassId} {dI : Nat → Nat → Nat} {A : Nat → Prop} {X : SXT} {h_p0 : Nat} {c_p0 : ClassId} {res : Int32 × (Nat → Int32)} (cx : cxx p s m args meth c b_M_up 6 (some .int) R_M) (hK : va_K (dC, dI) classes [(c_p0, .int)] s) (hA : ∀ q, s.heap.size ≤ q → A q) (hX : SX X A s s.heap) : ∀ (a_p0 : (Nat → Int32)) (p1 : Int32) (p2 : Int32) (H : Heap) (locs : List Loc) (ls : Array Slot), va_P (dC, dI) classes (WS_M_up h_p0 c_p0 a_p0) H → va_D A (WS_M_up h_p0 c_p0 a_p0) → va_S A s.heap H locs → lv_has ls 6 [(0, .ref h_p0), (1, .int p1), (2, .int p2)] → f_M_up a_p0 p1 p2 = some res → W p l e ({ frames := 1, cells := 0, slots := 0, locals := 26 }) s m args below meth c H locs 0 0 (MQ below (va_Qi (fun (r : Int32) (u : (Nat → Int32)) => some (r, u) = some res) (gB (dC, dI) [(c_p0, .int)] A (fun (u : (Nat → Int32)) => (WS_M_up h_p0 c_p0 u))) A) args s 0 0 A) (F0 m 0 ls []) := by
  intro a_p0 p1 p2 H locs ls hP hD hS hl h
  obtain ⟨hx, hb, hr, hml, hown, ht, hlk⟩ := id cx
  refine lv_iload_n hx hb d_M_up_0 rfl (lv_at hl 1 rfl) ?_
  refine lv_istore_n (lv' := [(3, .int p1), (0, .ref h_p0), (1, .int p1), (2, .int p2)]) hx hb d_M_up_1 rfl hl (by decide) rfl (fun ls hl => ?_)
  refine lv_iconst (v := 0) hx hb d_M_up_2 (by decide) ?_
  refine lv_istore (lv' := [(4, .int (0 : Int32)), (3, .int p1), (0, .ref h_p0), (1, .int p1), (2, .int p2)]) hx hb d_M_up_3 hl (by decide) rfl (fun ls hl => ?_)
  exact s_M_up_5 cx hK hA hX fu a_p0 p2 p1 (0 : Int32) H locs ls hP hD hS (lv_sub hl [2, 4, 1, 0] rfl) h
set_option maxHeartbeats 4000000 in
set_option maxRecDepth 100000 in
theorem c_M_up (l : Launch) (dC : Nat → ClassId) (dI : Nat → Nat → Nat) (X : SXT) (h_p0 : Nat) (c_p0 : ClassId) (sz : Nat) (a_p0 : (Nat → Int32)) (p1 : Int32) (p2 : Int32) (res : Int32 × (Nat → Int32)) (hf : f_M_up a_p0 p1 p2 = some res) : Met l y_M_up (.code y_M_up b_M_up 6 (some .int) :: w0) ({ frames := 1, cells := 0, slots := 0, locals := 26 }) (va_Pc [.ref h_p0, .int p1, .int p2] (gP (dC, dI) (WS_M_up h_p0 c_p0 a_p0) [(c_p0, .int)] sz X)) (va_Qi (fun (r : Int32) (u : (Nat → Int32)) => some (r, u) = some res) (gB (dC, dI) [(c_p0, .int)] (va_A (WS_M_up h_p0 c_p0 a_p0) sz) (fun (u : (Nat → Int32)) => (WS_M_up h_p0 c_p0 u))) (va_A (WS_M_up h_p0 c_p0 a_p0) sz)) 0 0 (va_A (WS_M_up h_p0 c_p0 a_p0) sz) := by
  refine Met.ofW (cc := b_M_up) (maxL := 6) (ret := (some .int)) (by decide) rfl ?_
  intro p e s m args below meth c s₁ B hml hv
  obtain ⟨rfl, hsz, hP, hK, hD0, hX⟩ := hv
  subst hsz
  have cx : cxx p s m ([.ref h_p0, .int p1, .int p2] : List Value).toArray meth c b_M_up 6 (some .int) R_M := ⟨B.exec, B.bytes, B.returns, hml, findClass_of_methodNamed B.named, fun w9 hw => atoms_spec (ws := .code y_M_up b_M_up 6 (some .int) :: w0) B.pre w9 (List.mem_cons_of_mem _ hw), B.notSynchronized⟩
  have hD := hD0.self (sz := s.heap.size)
  generalize hAe : va_A (WS_M_up h_p0 c_p0 a_p0) s.heap.size = A at hD hX ⊢
  have hA : ∀ q : Nat, s.heap.size ≤ q → A q := fun q h => by rw [← hAe]; exact Or.inr h
  have hS : va_S A s.heap s.heap [] := va_S.rf
  have hl := lv_entry ([.ref h_p0, .int p1, .int p2]) (n := 6) (Nat.le_of_ble_eq_true rfl)
  rw [lg_entry_eq]
  generalize (lg_sl ([.ref h_p0, .int p1, .int p2]) ++ List.replicate (6 - (lg_sl ([.ref h_p0, .int p1, .int p2])).length) Slot.unset).toArray = ls at hl ⊢
  have hl : lv_has ls 6 [(0, .ref h_p0), (1, .int p1), (2, .int p2)] := hl
  exact s_M_up_e cx hK hA hX a_p0 p1 p2 s.heap [] ls hP hD hS hl hf
abbrev WS_M_half (h_p0 : Nat) (c_p0 : ClassId) (a_p0 : (Nat → Int32)) : va_W := [(h_p0, .inl (c_p0, 400, .inl a_p0))]
def f_M_half_25 (k2 : (Nat → Int32) → Int32 → Int32 → Option ((Nat → Int32))) (a_p0 : (Nat → Int32)) (y1 : Int32) (y2 : Int32) (z0 : Int32) : Option ((Nat → Int32)) :=
  ck (gin y2 400) <|
  ck (gin y2 400) <|
  bd (upd a_p0 y2.toNatClampNeg (((a_p0 y2.toNatClampNeg) >>> ((1 : Int32) &&& 31)) ||| (z0 <<< ((29 : Int32) &&& 31)))) fun a3 =>
  bd (y2 + (1 : Int32)) fun x4 =>
  k2 a3 y1 x4
def f_M_half_2b (k2 : (Nat → Int32) → Int32 → Int32 → Option ((Nat → Int32))) (a_p0 : (Nat → Int32)) (y1 : Int32) (y2 : Int32) : Option ((Nat → Int32)) :=
  if y1 ≤ y2 then
    some a_p0
  else
    if y1 ≤ (y2 + (1 : Int32)) then
      f_M_half_25 k2 a_p0 y1 y2 (0 : Int32)
    else
      ck (gin (y2 + (1 : Int32)) 400) <|
      f_M_half_25 k2 a_p0 y1 y2 ((a_p0 (y2 + (1 : Int32)).toNatClampNeg) &&& (1 : Int32))
def f_M_half_2 : Nat → (Nat → Int32) → Int32 → Int32 → Option ((Nat → Int32))
  | 0 => fun _ _ _ => none
  | n + 1 => fun a_p0 y1 y2 => f_M_half_2b (f_M_half_2 n) a_p0 y1 y2
def f_M_half (a_p0 : (Nat → Int32)) (p1 : Int32) : Option ((Nat → Int32)) :=
  f_M_half_2 fu a_p0 p1 (0 : Int32)
set_option maxHeartbeats 4000000 in
set_option maxRecDepth 100000 in
theorem s_M_half_25 {p : Program} {l : Launch} {e : Env} {s : State} {m : MethodId} {args : Array Value} {below : List Frame} {meth : Method} {c : Code} {dC : Nat → ClassId} {dI : Nat → Nat → Nat} {A : Nat → Prop} {X : SXT} {h_p0 : Nat} {c_p0 : ClassId} {res : (Nat → Int32)} {k2 : (Nat → Int32) → Int32 → Int32 → Option ((Nat → Int32))} (cx : cxx p s m args meth c b_M_half 4 none R_M) (hK : va_K (dC, dI) classes [(c_p0, .int)] s) (hA : ∀ q, s.heap.size ≤ q → A q) (hX : SX X A s s.heap) (hk2 : ∀ (a_p0 : (Nat → Int32)) (y1 : Int32) (y2 : Int32) (H : Heap) (locs : List Loc) (ls : Array Slot), va_P (dC, dI) classes (WS_M_half h_p0 c_p0 a_p0) H → va_D A (WS_M_half h_p0 c_p0 a_p0) → va_S A s.heap H locs → lv_has ls 4 [(0, .ref h_p0), (1, .int y1), (2, .int y2)] → k2 a_p0 y1 y2 = some res → W p l e ({ frames := 0, cells := 0, slots := 0, locals := 0 }) s m args below meth c H locs 0 0 (MQ below (va_Qv (fun (u : (Nat → Int32)) => some u = some res) (gB (dC, dI) [(c_p0, .int)] A (fun (u : (Nat → Int32)) => (WS_M_half h_p0 c_p0 u))) A) args s 0 0 A) (F0 m 2 ls [])) : ∀ (a_p0 : (Nat → Int32)) (y1 : Int32) (y2 : Int32) (z0 : Int32) (H : Heap) (locs : List Loc) (ls : Array Slot), va_P (dC, dI) classes (WS_M_half h_p0 c_p0 a_p0) H → va_D A (WS_M_half h_p0 c_p0 a_p0) → va_S A s.heap H locs → lv_has ls 4 [(0, .ref h_p0), (1, .int y1), (2, .int y2)] → f_M_half_25 k2 a_p0 y1 y2 z0 = some res → W p l e ({ frames := 0, cells := 0, slots := 0, locals := 0 }) s m args below meth c H locs 0 0 (MQ below (va_Qv (fun (u : (Nat → Int32)) => some u = some res) (gB (dC, dI) [(c_p0, .int)] A (fun (u : (Nat → Int32)) => (WS_M_half h_p0 c_p0 u))) A) args s 0 0 A) (F0 m 25 ls [.int z0]) := by
  intro a_p0 y1 y2 z0 H locs ls hP hD hS hl h
  obtain ⟨hx, hb, hr, hml, hown, ht, hlk⟩ := id cx
  refine lv_istore_n (lv' := [(3, .int z0), (0, .ref h_p0), (1, .int y1), (2, .int y2)]) hx hb d_M_half_25 rfl hl (by decide) rfl (fun ls hl => ?_)
  refine lv_aload_n hx hb d_M_half_26 rfl (lv_at hl 1 rfl) ?_
  refine lv_iload_n hx hb d_M_half_27 rfl (lv_at hl 3 rfl) ?_
  refine lv_aload_n hx hb d_M_half_28 rfl (lv_at hl 1 rfl) ?_
  refine lv_iload_n hx hb d_M_half_29 rfl (lv_at hl 3 rfl) ?_
  obtain ⟨c1, h⟩ := ck_x h
  refine va_iald (D := (dC, dI)) hx hb hK hP 0 0 rfl rfl c1 d_M_half_30 ?_
  refine lv_iconst (v := 1) hx hb d_M_half_31 (by decide) ?_
  refine lv_ishr hx hb d_M_half_32 ?_
  refine lv_iload_n hx hb d_M_half_33 rfl (lv_at hl 0 rfl) ?_
  refine lv_bipush (v := 29) hx hb d_M_half_34 (by decide) ?_
  refine lv_ishl hx hb d_M_half_36 ?_
  refine lv_ior hx hb d_M_half_37 ?_
  obtain ⟨c2, h⟩ := ck_x h
  refine va_iast (D := (dC, dI)) hx hb hK hP hD hS 0 0 rfl rfl c2 d_M_half_38 (fun H locs hP hD hS => ?_)
  obtain ⟨a3, e_a3⟩ : ∃ y, y = upd a_p0 y2.toNatClampNeg (((a_p0 y2.toNatClampNeg) >>> ((1 : Int32) &&& 31)) ||| (z0 <<< ((29 : Int32) &&& 31))) := ⟨_, rfl⟩
  have hP : va_P (dC, dI) classes (WS_M_half h_p0 c_p0 a3) H := by rw [e_a3]; exact hP
  have hD : va_D A (WS_M_half h_p0 c_p0 a3) := by rw [e_a3]; exact hD
  have h := bd_g e_a3 h
  obtain ⟨x4, e_x4⟩ : ∃ y : Int32, y = y2 + (1 : Int32) := ⟨_, rfl⟩
  refine lv_iinc (v := x4) (lv' := [(2, .int x4), (3, .int z0), (0, .ref h_p0), (1, .int y1)]) hx hb d_M_half_39 hl (k := 3) rfl (by rw [e_x4]; rfl) (by decide) rfl (fun ls hl => ?_)
  have h := bd_g e_x4 h
  refine lv_goto (tgt := 2) hx hb d_M_half_42 (by decide) ?_
  exact hk2 a3 y1 x4 H locs ls hP hD hS (lv_sub hl [2, 3, 0] rfl) h
set_option maxHeartbeats 4000000 in
set_option maxRecDepth 100000 in
theorem s_M_half_2b {p : Program} {l : Launch} {e : Env} {s : State} {m : MethodId} {args : Array Value} {below : List Frame} {meth : Method} {c : Code} {dC : Nat → ClassId} {dI : Nat → Nat → Nat} {A : Nat → Prop} {X : SXT} {h_p0 : Nat} {c_p0 : ClassId} {res : (Nat → Int32)} {k2 : (Nat → Int32) → Int32 → Int32 → Option ((Nat → Int32))} (cx : cxx p s m args meth c b_M_half 4 none R_M) (hK : va_K (dC, dI) classes [(c_p0, .int)] s) (hA : ∀ q, s.heap.size ≤ q → A q) (hX : SX X A s s.heap) (hk2 : ∀ (a_p0 : (Nat → Int32)) (y1 : Int32) (y2 : Int32) (H : Heap) (locs : List Loc) (ls : Array Slot), va_P (dC, dI) classes (WS_M_half h_p0 c_p0 a_p0) H → va_D A (WS_M_half h_p0 c_p0 a_p0) → va_S A s.heap H locs → lv_has ls 4 [(0, .ref h_p0), (1, .int y1), (2, .int y2)] → k2 a_p0 y1 y2 = some res → W p l e ({ frames := 0, cells := 0, slots := 0, locals := 0 }) s m args below meth c H locs 0 0 (MQ below (va_Qv (fun (u : (Nat → Int32)) => some u = some res) (gB (dC, dI) [(c_p0, .int)] A (fun (u : (Nat → Int32)) => (WS_M_half h_p0 c_p0 u))) A) args s 0 0 A) (F0 m 2 ls [])) : ∀ (a_p0 : (Nat → Int32)) (y1 : Int32) (y2 : Int32) (H : Heap) (locs : List Loc) (ls : Array Slot), va_P (dC, dI) classes (WS_M_half h_p0 c_p0 a_p0) H → va_D A (WS_M_half h_p0 c_p0 a_p0) → va_S A s.heap H locs → lv_has ls 4 [(0, .ref h_p0), (1, .int y1), (2, .int y2)] → f_M_half_2b k2 a_p0 y1 y2 = some res → W p l e ({ frames := 0, cells := 0, slots := 0, locals := 0 }) s m args below meth c H locs 0 0 (MQ below (va_Qv (fun (u : (Nat → Int32)) => some u = some res) (gB (dC, dI) [(c_p0, .int)] A (fun (u : (Nat → Int32)) => (WS_M_half h_p0 c_p0 u))) A) args s 0 0 A) (F0 m 2 ls []) := by
  intro a_p0 y1 y2 H locs ls hP hD hS hl h
  obtain ⟨hx, hb, hr, hml, hown, ht, hlk⟩ := id cx
  refine lv_iload_n hx hb d_M_half_2 rfl (lv_at hl 2 rfl) ?_
  refine lv_iload_n hx hb d_M_half_3 rfl (lv_at hl 1 rfl) ?_
  refine lv_icmp_ge (tgt := 45) hx hb d_M_half_4 (by decide) (fun c5 => ?_) (fun c5 => ?_)
  · have h := if_t c5 h
    exact W.vret hx hb hr (fun t ht9 hW => ⟨⟨a_p0, rfl, h, by rw [ht9]; exact hP, va_K.moved hW.alike hK, hD⟩, hS.F ht9⟩) hS.2.2 d_M_half_45 hlk
  · have h := if_f c5 h
    refine lv_iload_n hx hb d_M_half_7 rfl (lv_at hl 2 rfl) ?_
    refine lv_iconst (v := 1) hx hb d_M_half_8 (by decide) ?_
    refine lv_iadd hx hb d_M_half_9 ?_
    refine lv_iload_n hx hb d_M_half_10 rfl (lv_at hl 1 rfl) ?_
    refine lv_icmp_ge (tgt := 24) hx hb d_M_half_11 (by decide) (fun c6 => ?_) (fun c6 => ?_)
    · have h := if_t c6 h
      refine lv_iconst (v := 0) hx hb d_M_half_24 (by decide) ?_
      exact s_M_half_25 cx hK hA hX hk2 a_p0 y1 y2 (0 : Int32) H locs ls hP hD hS (lv_sub hl [0, 1, 2] rfl) h
    · have h := if_f c6 h
      refine lv_aload_n hx hb d_M_half_14 rfl (lv_at hl 0 rfl) ?_
      refine lv_iload_n hx hb d_M_half_15 rfl (lv_at hl 2 rfl) ?_
      refine lv_iconst (v := 1) hx hb d_M_half_16 (by decide) ?_
      refine lv_iadd hx hb d_M_half_17 ?_
      obtain ⟨c7, h⟩ := ck_x h
      refine va_iald (D := (dC, dI)) hx hb hK hP 0 0 rfl rfl c7 d_M_half_18 ?_
      refine lv_iconst (v := 1) hx hb d_M_half_19 (by decide) ?_
      refine lv_iand hx hb d_M_half_20 ?_
      refine lv_goto (tgt := 25) hx hb d_M_half_21 (by decide) ?_
      exact s_M_half_25 cx hK hA hX hk2 a_p0 y1 y2 ((a_p0 (y2 + (1 : Int32)).toNatClampNeg) &&& (1 : Int32)) H locs ls hP hD hS (lv_sub hl [0, 1, 2] rfl) h
set_option maxHeartbeats 4000000 in
set_option maxRecDepth 100000 in
theorem s_M_half_2 {p : Program} {l : Launch} {e : Env} {s : State} {m : MethodId} {args : Array Value} {below : List Frame} {meth : Method} {c : Code} {dC : Nat → ClassId} {dI : Nat → Nat → Nat} {A : Nat → Prop} {X : SXT} {h_p0 : Nat} {c_p0 : ClassId} {res : (Nat → Int32)}  (cx : cxx p s m args meth c b_M_half 4 none R_M) (hK : va_K (dC, dI) classes [(c_p0, .int)] s) (hA : ∀ q, s.heap.size ≤ q → A q) (hX : SX X A s s.heap)  : ∀ n : Nat, ∀ (a_p0 : (Nat → Int32)) (y1 : Int32) (y2 : Int32) (H : Heap) (locs : List Loc) (ls : Array Slot), va_P (dC, dI) classes (WS_M_half h_p0 c_p0 a_p0) H → va_D A (WS_M_half h_p0 c_p0 a_p0) → va_S A s.heap H locs → lv_has ls 4 [(0, .ref h_p0), (1, .int y1), (2, .int y2)] → f_M_half_2 n a_p0 y1 y2 = some res → W p l e ({ frames := 0, cells := 0, slots := 0, locals := 0 }) s m args below meth c H locs 0 0 (MQ below (va_Qv (fun (u : (Nat → Int32)) => some u = some res) (gB (dC, dI) [(c_p0, .int)] A (fun (u : (Nat → Int32)) => (WS_M_half h_p0 c_p0 u))) A) args s 0 0 A) (F0 m 2 ls []) := by
  intro n
  induction n with
  | zero =>
    intro a_p0 y1 y2 H locs ls hP hD hS hl h
    have h9 : (none : Option ((Nat → Int32))) = some res := h
    cases h9
  | succ n ih =>
    intro a_p0 y1 y2 H locs ls hP hD hS hl h
    exact s_M_half_2b cx hK hA hX ih a_p0 y1 y2 H locs ls hP hD hS hl h
set_option maxHeartbeats 4000000 in
set_option maxRecDepth 100000 in
theorem s_M_half_e {p : Program} {l : Launch} {e : Env} {s : State} {m : MethodId} {args : Array Value} {below : List Frame} {meth : Method} {c : Code} {dC : Nat → ClassId} {dI : Nat → Nat → Nat} {A : Nat → Prop} {X : SXT} {h_p0 : Nat} {c_p0 : ClassId} {res : (Nat → Int32)} (cx : cxx p s m args meth c b_M_half 4 none R_M) (hK : va_K (dC, dI) classes [(c_p0, .int)] s) (hA : ∀ q, s.heap.size ≤ q → A q) (hX : SX X A s s.heap) : ∀ (a_p0 : (Nat → Int32)) (p1 : Int32) (H : Heap) (locs : List Loc) (ls : Array Slot), va_P (dC, dI) classes (WS_M_half h_p0 c_p0 a_p0) H → va_D A (WS_M_half h_p0 c_p0 a_p0) → va_S A s.heap H locs → lv_has ls 4 [(0, .ref h_p0), (1, .int p1)] → f_M_half a_p0 p1 = some res → W p l e ({ frames := 0, cells := 0, slots := 0, locals := 0 }) s m args below meth c H locs 0 0 (MQ below (va_Qv (fun (u : (Nat → Int32)) => some u = some res) (gB (dC, dI) [(c_p0, .int)] A (fun (u : (Nat → Int32)) => (WS_M_half h_p0 c_p0 u))) A) args s 0 0 A) (F0 m 0 ls []) := by
  intro a_p0 p1 H locs ls hP hD hS hl h
  obtain ⟨hx, hb, hr, hml, hown, ht, hlk⟩ := id cx
  refine lv_iconst (v := 0) hx hb d_M_half_0 (by decide) ?_
  refine lv_istore_n (lv' := [(2, .int (0 : Int32)), (0, .ref h_p0), (1, .int p1)]) hx hb d_M_half_1 rfl hl (by decide) rfl (fun ls hl => ?_)
  exact s_M_half_2 cx hK hA hX fu a_p0 p1 (0 : Int32) H locs ls hP hD hS (lv_sub hl [1, 2, 0] rfl) h
set_option maxHeartbeats 4000000 in
set_option maxRecDepth 100000 in
theorem c_M_half (l : Launch) (dC : Nat → ClassId) (dI : Nat → Nat → Nat) (X : SXT) (h_p0 : Nat) (c_p0 : ClassId) (sz : Nat) (a_p0 : (Nat → Int32)) (p1 : Int32) (res : (Nat → Int32)) (hf : f_M_half a_p0 p1 = some res) : Met l y_M_half (.code y_M_half b_M_half 4 none :: w0) ({ frames := 0, cells := 0, slots := 0, locals := 0 }) (va_Pc [.ref h_p0, .int p1] (gP (dC, dI) (WS_M_half h_p0 c_p0 a_p0) [(c_p0, .int)] sz X)) (va_Qv (fun (u : (Nat → Int32)) => some u = some res) (gB (dC, dI) [(c_p0, .int)] (va_A (WS_M_half h_p0 c_p0 a_p0) sz) (fun (u : (Nat → Int32)) => (WS_M_half h_p0 c_p0 u))) (va_A (WS_M_half h_p0 c_p0 a_p0) sz)) 0 0 (va_A (WS_M_half h_p0 c_p0 a_p0) sz) := by
  refine Met.ofW (cc := b_M_half) (maxL := 4) (ret := none) (by decide) rfl ?_
  intro p e s m args below meth c s₁ B hml hv
  obtain ⟨rfl, hsz, hP, hK, hD0, hX⟩ := hv
  subst hsz
  have cx : cxx p s m ([.ref h_p0, .int p1] : List Value).toArray meth c b_M_half 4 none R_M := ⟨B.exec, B.bytes, B.returns, hml, findClass_of_methodNamed B.named, fun w9 hw => atoms_spec (ws := .code y_M_half b_M_half 4 none :: w0) B.pre w9 (List.mem_cons_of_mem _ hw), B.notSynchronized⟩
  have hD := hD0.self (sz := s.heap.size)
  generalize hAe : va_A (WS_M_half h_p0 c_p0 a_p0) s.heap.size = A at hD hX ⊢
  have hA : ∀ q : Nat, s.heap.size ≤ q → A q := fun q h => by rw [← hAe]; exact Or.inr h
  have hS : va_S A s.heap s.heap [] := va_S.rf
  have hl := lv_entry ([.ref h_p0, .int p1]) (n := 4) (Nat.le_of_ble_eq_true rfl)
  rw [lg_entry_eq]
  generalize (lg_sl ([.ref h_p0, .int p1]) ++ List.replicate (4 - (lg_sl ([.ref h_p0, .int p1])).length) Slot.unset).toArray = ls at hl ⊢
  have hl : lv_has ls 4 [(0, .ref h_p0), (1, .int p1)] := hl
  exact s_M_half_e cx hK hA hX a_p0 p1 s.heap [] ls hP hD hS hl hf

abbrev WS_M_type (g_this_above : Nat) (g_this_below : Nat) (g_this_digit : Nat) (g_this_limbs : Nat) (g_this_exact : Nat) (g_this_round : Nat) (g_this_out : Nat) (g_this_body : Nat) (h_this : Nat) (h_this_tape : Nat) (c_this_tape : ClassId) (v_size : Int32) (v_kind : Int32) (v_number : Int64) (v_exponent : Int32) (v_aboveSize : Int32) (v_belowSize : Int32) (v_state : Int32) (v_digits : Int32) (v_behind : Int32) (v_power : Int32) (v_powerLess : Int32) (v_less : Int32) (v_plainDigits : Int32) (v_sixteen : Int32) (v_limbCount : Int32) (v_length : Int32) (v_point : Int32) (v_roundLength : Int32) (v_roundPoint : Int32) (v_written : Int32) (v_bodySize : Int32) (a_tape : (Nat → Int32)) : va_W := [(h_this, .inr (7, [.ref h_this_tape, .int v_size, .int v_kind, .long v_number, .int v_exponent, .ref g_this_above, .int v_aboveSize, .ref g_this_below, .int v_belowSize, .int v_state, .int v_digits, .ref g_this_digit, .int v_behind, .int v_power, .int v_powerLess, .int v_less, .int v_plainDigits, .int v_sixteen, .ref g_this_limbs, .int v_limbCount, .ref g_this_exact, .int v_length, .int v_point, .ref g_this_round, .int v_roundLength, .int v_roundPoint, .ref g_this_out, .int v_written, .ref g_this_body, .int v_bodySize])), (h_this_tape, .inl (c_this_tape, 1200, .inl a_tape))]
def f_M_type_33b (k33 : Int32 → (Nat → Int32) → Int64 → Int32 → Option (Int32 × Int32 × (Nat → Int32))) (v_size : Int32) (a_tape : (Nat → Int32)) (y1 : Int64) (y4 : Int32) : Option (Int32 × Int32 × (Nat → Int32)) :=
  if y4 < 0 then
    some (v_size, v_size, a_tape)
  else
    ck (gin v_size 1200) <|
    bd (upd a_tape v_size.toNatClampNeg ((((lsr y1 ((8 : Int32) * y4)).toInt32).toInt8.toInt32).toInt8.toInt32)) fun a3 =>
    bd (v_size + (1 : Int32)) fun x4 =>
    bd (y4 + (-1 : Int32)) fun x5 =>
    k33 x4 a3 y1 x5
def f_M_type_33 : Nat → Int32 → (Nat → Int32) → Int64 → Int32 → Option (Int32 × Int32 × (Nat → Int32))
  | 0 => fun _ _ _ _ => none
  | n + 1 => fun v_size a_tape y1 y4 => f_M_type_33b (f_M_type_33 n) v_size a_tape y1 y4
def f_M_type (v_size : Int32) (a_tape : (Nat → Int32)) (p1 : Int64) (p3 : Int32) : Option (Int32 × Int32 × (Nat → Int32)) :=
  if p3 < (1 : Int32) then
    some ((-1 : Int32), v_size, a_tape)
  else
    if p3 ≤ (8 : Int32) then
      if (v_size + p3) ≤ (1200 : Int32) then
        bd (p3 - (1 : Int32)) fun x9 =>
        f_M_type_33 fu v_size a_tape p1 x9
      else
        some ((-3 : Int32), v_size, a_tape)
    else
      some ((-1 : Int32), v_size, a_tape)
set_option maxHeartbeats 4000000 in
set_option maxRecDepth 100000 in
theorem s_M_type_33b {p : Program} {l : Launch} {e : Env} {s : State} {m : MethodId} {args : Array Value} {below : List Frame} {meth : Method} {c : Code} {dC : Nat → ClassId} {dI : Nat → Nat → Nat} {A : Nat → Prop} {X : SXT} {g_this_above : Nat} {g_this_below : Nat} {g_this_digit : Nat} {g_this_limbs : Nat} {g_this_exact : Nat} {g_this_round : Nat} {g_this_out : Nat} {g_this_body : Nat} {h_this : Nat} {h_this_tape : Nat} {c_this_tape : ClassId} {v_kind : Int32} {v_number : Int64} {v_exponent : Int32} {v_aboveSize : Int32} {v_belowSize : Int32} {v_state : Int32} {v_digits : Int32} {v_behind : Int32} {v_power : Int32} {v_powerLess : Int32} {v_less : Int32} {v_plainDigits : Int32} {v_sixteen : Int32} {v_limbCount : Int32} {v_length : Int32} {v_point : Int32} {v_roundLength : Int32} {v_roundPoint : Int32} {v_written : Int32} {v_bodySize : Int32} {res : Int32 × Int32 × (Nat → Int32)} {k33 : Int32 → (Nat → Int32) → Int64 → Int32 → Option (Int32 × Int32 × (Nat → Int32))} (cx : cxx p s m args meth c b_M_type 5 (some .int) R_M) (hK : va_K (dC, dI) classes [(c_this_tape, .byte)] s) (hA : ∀ q, s.heap.size ≤ q → A q) (hX : SX X A s s.heap) (hk33 : ∀ (v_size : Int32) (a_tape : (Nat → Int32)) (y1 : Int64) (y4 : Int32) (H : Heap) (locs : List Loc) (ls : Array Slot), va_P (dC, dI) classes (WS_M_type g_this_above g_this_below g_this_digit g_this_limbs g_this_exact g_this_round g_this_out g_this_body h_this h_this_tape c_this_tape v_size v_kind v_number v_exponent v_aboveSize v_belowSize v_state v_digits v_behind v_power v_powerLess v_less v_plainDigits v_sixteen v_limbCount v_length v_point v_roundLength v_roundPoint v_written v_bodySize a_tape) H → va_D A (WS_M_type g_this_above g_this_below g_this_digit g_this_limbs g_this_exact g_this_round g_this_out g_this_body h_this h_this_tape c_this_tape v_size v_kind v_number v_exponent v_aboveSize v_belowSize v_state v_digits v_behind v_power v_powerLess v_less v_plainDigits v_sixteen v_limbCount v_length v_point v_roundLength v_roundPoint v_written v_bodySize a_tape) → va_S A s.heap H locs → lv_has ls 5 [(0, .ref h_this), (1, .long y1), (4, .int y4)] → k33 v_size a_tape y1 y4 = some res → W p l e ({ frames := 0, cells := 0, slots := 0, locals := 0 }) s m args below meth c H locs 0 0 (MQ below (va_Qi (fun (r : Int32) (u : Int32 × (Nat → Int32)) => some (r, u) = some res) (gB (dC, dI) [(c_this_tape, .byte)] A (fun (u : Int32 × (Nat → Int32)) => (WS_M_type g_this_above g_this_below g_this_digit g_this_limbs g_this_exact g_this_round g_this_out g_this_body h_this h_this_tape c_this_tape u.1 v_kind v_number v_exponent v_aboveSize v_belowSize v_state v_digits v_behind v_power v_powerLess v_less v_plainDigits v_sixteen v_limbCount v_length v_point v_roundLength v_roundPoint v_written v_bodySize u.2))) A) args s 0 0 A) (F0 m 33 ls [])) : ∀ (v_size : Int32) (a_tape : (Nat → Int32)) (y1 : Int64) (y4 : Int32) (H : Heap) (locs : List Loc) (ls : Array Slot), va_P (dC, dI) classes (WS_M_type g_this_above g_this_below g_this_digit g_this_limbs g_this_exact g_this_round g_this_out g_this_body h_this h_this_tape c_this_tape v_size v_kind v_number v_exponent v_aboveSize v_belowSize v_state v_digits v_behind v_power v_powerLess v_less v_plainDigits v_sixteen v_limbCount v_length v_point v_roundLength v_roundPoint v_written v_bodySize a_tape) H → va_D A (WS_M_type g_this_above g_this_below g_this_digit g_this_limbs g_this_exact g_this_round g_this_out g_this_body h_this h_this_tape c_this_tape v_size v_kind v_number v_exponent v_aboveSize v_belowSize v_state v_digits v_behind v_power v_powerLess v_less v_plainDigits v_sixteen v_limbCount v_length v_point v_roundLength v_roundPoint v_written v_bodySize a_tape) → va_S A s.heap H locs → lv_has ls 5 [(0, .ref h_this), (1, .long y1), (4, .int y4)] → f_M_type_33b k33 v_size a_tape y1 y4 = some res → W p l e ({ frames := 0, cells := 0, slots := 0, locals := 0 }) s m args below meth c H locs 0 0 (MQ below (va_Qi (fun (r : Int32) (u : Int32 × (Nat → Int32)) => some (r, u) = some res) (gB (dC, dI) [(c_this_tape, .byte)] A (fun (u : Int32 × (Nat → Int32)) => (WS_M_type g_this_above g_this_below g_this_digit g_this_limbs g_this_exact g_this_round g_this_out g_this_body h_this h_this_tape c_this_tape u.1 v_kind v_number v_exponent v_aboveSize v_belowSize v_state v_digits v_behind v_power v_powerLess v_less v_plainDigits v_sixteen v_limbCount v_length v_point v_roundLength v_roundPoint v_written v_bodySize u.2))) A) args s 0 0 A) (F0 m 33 ls []) := by
  intro v_size a_tape y1 y4 H locs ls hP hD hS hl h
  obtain ⟨hx, hb, hr, hml, hown, ht, hlk⟩ := id cx
  refine lv_iload hx hb d_M_type_33 (lv_at hl 2 rfl) ?_
  refine lv_if_lt (tgt := 72) hx hb d_M_type_35 (by decide) (fun c1 => ?_) (fun c1 => ?_)
  · have h := if_t c1 h
    refine lv_aload_n hx hb d_M_type_72 rfl (lv_at hl 0 rfl) ?_
    refine va_get (D := (dC, dI)) (ci := 7) (v := .int v_size) (C := R_M) (T := F_M) (N := 30) hx hb ht i_M hown hK hP 0 rfl rfl 1 (by decide) (ht _ q_482) (fun _ h9 => h9) rfl d_M_type_73 ?_
    exact W.iret (v := v_size) hx hb hr (fun t ht9 hW => ⟨⟨v_size, (v_size, a_tape), rfl, h, by rw [ht9]; exact hP, va_K.moved hW.alike hK, hD⟩, hS.F ht9⟩) hS.2.2 d_M_type_76 hlk
  · have h := if_f c1 h
    refine lv_aload_n hx hb d_M_type_38 rfl (lv_at hl 0 rfl) ?_
    refine va_get (D := (dC, dI)) (ci := 7) (v := .ref h_this_tape) (C := R_M) (T := F_M) (N := 30) hx hb ht i_M hown hK hP 0 rfl rfl 0 (by decide) (ht _ q_483) (fun _ h9 => h9) rfl d_M_type_39 ?_
    refine lv_aload_n hx hb d_M_type_42 rfl (lv_at hl 0 rfl) ?_
    refine va_get (D := (dC, dI)) (ci := 7) (v := .int v_size) (C := R_M) (T := F_M) (N := 30) hx hb ht i_M hown hK hP 0 rfl rfl 1 (by decide) (ht _ q_482) (fun _ h9 => h9) rfl d_M_type_43 ?_
    refine lv_lload_n hx hb d_M_type_46 rfl (lv_at hl 1 rfl) ?_
    refine lv_bipush (v := 8) hx hb d_M_type_47 (by decide) ?_
    refine lv_iload hx hb d_M_type_49 (lv_at hl 2 rfl) ?_
    refine lv_imul hx hb d_M_type_51 ?_
    refine lv_lshr (v := lsr y1 ((8 : Int32) * y4)) hx hb d_M_type_52 rfl ?_
    refine lv_l2i (v := (lsr y1 ((8 : Int32) * y4)).toInt32) hx hb d_M_type_53 rfl ?_
    refine lv_i2b (v := ((lsr y1 ((8 : Int32) * y4)).toInt32).toInt8.toInt32) hx hb d_M_type_54 rfl ?_
    obtain ⟨c2, h⟩ := ck_x h
    refine va_bast (D := (dC, dI)) hx hb hK hP hD hS 1 0 rfl rfl c2 d_M_type_55 (fun H locs hP hD hS => ?_)
    obtain ⟨a3, e_a3⟩ : ∃ y, y = upd a_tape v_size.toNatClampNeg ((((lsr y1 ((8 : Int32) * y4)).toInt32).toInt8.toInt32).toInt8.toInt32) := ⟨_, rfl⟩
    have hP : va_P (dC, dI) classes (WS_M_type g_this_above g_this_below g_this_digit g_this_limbs g_this_exact g_this_round g_this_out g_this_body h_this h_this_tape c_this_tape v_size v_kind v_number v_exponent v_aboveSize v_belowSize v_state v_digits v_behind v_power v_powerLess v_less v_plainDigits v_sixteen v_limbCount v_length v_point v_roundLength v_roundPoint v_written v_bodySize a3) H := by rw [e_a3]; exact hP
    have hD : va_D A (WS_M_type g_this_above g_this_below g_this_digit g_this_limbs g_this_exact g_this_round g_this_out g_this_body h_this h_this_tape c_this_tape v_size v_kind v_number v_exponent v_aboveSize v_belowSize v_state v_digits v_behind v_power v_powerLess v_less v_plainDigits v_sixteen v_limbCount v_length v_point v_roundLength v_roundPoint v_written v_bodySize a3) := by rw [e_a3]; exact hD
    have h := bd_g e_a3 h
    refine lv_aload_n hx hb d_M_type_56 rfl (lv_at hl 0 rfl) ?_
    refine lv_dup hx hb d_M_type_57 rfl ?_
    refine va_get (D := (dC, dI)) (ci := 7) (v := .int v_size) (C := R_M) (T := F_M) (N := 30) hx hb ht i_M hown hK hP 0 rfl rfl 1 (by decide) (ht _ q_482) (fun _ h9 => h9) rfl d_M_type_58 ?_
    refine lv_iconst (v := 1) hx hb d_M_type_61 (by decide) ?_
    refine lv_iadd hx hb d_M_type_62 ?_
    refine lv_topi (fun x4 e_x4 => ?_)
    have h := bd_g e_x4 h
    refine va_put (D := (dC, dI)) (ci := 7) (v := .int x4) (ty := .int) (C := R_M) (T := F_M) (N := 30) hx hb ht i_M t_M t_M_ok n_M hown hK hP hD hS 0 rfl rfl 1 (by decide) (ht _ q_482) (fun _ h9 => h9) rfl (t_M_ok 1 (by decide)) rfl rfl (Nat.le_of_ble_eq_true rfl) d_M_type_63 (fun H locs hP hD hS => ?_)
    have hP : va_P (dC, dI) classes (WS_M_type g_this_above g_this_below g_this_digit g_this_limbs g_this_exact g_this_round g_this_out g_this_body h_this h_this_tape c_this_tape x4 v_kind v_number v_exponent v_aboveSize v_belowSize v_state v_digits v_behind v_power v_powerLess v_less v_plainDigits v_sixteen v_limbCount v_length v_point v_roundLength v_roundPoint v_written v_bodySize a3) H := hP
    have hD : va_D A (WS_M_type g_this_above g_this_below g_this_digit g_this_limbs g_this_exact g_this_round g_this_out g_this_body h_this h_this_tape c_this_tape x4 v_kind v_number v_exponent v_aboveSize v_belowSize v_state v_digits v_behind v_power v_powerLess v_less v_plainDigits v_sixteen v_limbCount v_length v_point v_roundLength v_roundPoint v_written v_bodySize a3) := hD
    obtain ⟨x5, e_x5⟩ : ∃ y : Int32, y = y4 + (-1 : Int32) := ⟨_, rfl⟩
    refine lv_iinc (v := x5) (lv' := [(4, .int x5), (0, .ref h_this), (1, .long y1)]) hx hb d_M_type_66 hl (k := 2) rfl (by rw [e_x5]; rfl) (by decide) rfl (fun ls hl => ?_)
    have h := bd_g e_x5 h
    refine lv_goto (tgt := 33) hx hb d_M_type_69 (by decide) ?_
    exact hk33 x4 a3 y1 x5 H locs ls hP hD hS (lv_sub hl [1, 2, 0] rfl) h
set_option maxHeartbeats 4000000 in
set_option maxRecDepth 100000 in
theorem s_M_type_33 {p : Program} {l : Launch} {e : Env} {s : State} {m : MethodId} {args : Array Value} {below : List Frame} {meth : Method} {c : Code} {dC : Nat → ClassId} {dI : Nat → Nat → Nat} {A : Nat → Prop} {X : SXT} {g_this_above : Nat} {g_this_below : Nat} {g_this_digit : Nat} {g_this_limbs : Nat} {g_this_exact : Nat} {g_this_round : Nat} {g_this_out : Nat} {g_this_body : Nat} {h_this : Nat} {h_this_tape : Nat} {c_this_tape : ClassId} {v_kind : Int32} {v_number : Int64} {v_exponent : Int32} {v_aboveSize : Int32} {v_belowSize : Int32} {v_state : Int32} {v_digits : Int32} {v_behind : Int32} {v_power : Int32} {v_powerLess : Int32} {v_less : Int32} {v_plainDigits : Int32} {v_sixteen : Int32} {v_limbCount : Int32} {v_length : Int32} {v_point : Int32} {v_roundLength : Int32} {v_roundPoint : Int32} {v_written : Int32} {v_bodySize : Int32} {res : Int32 × Int32 × (Nat → Int32)}  (cx : cxx p s m args meth c b_M_type 5 (some .int) R_M) (hK : va_K (dC, dI) classes [(c_this_tape, .byte)] s) (hA : ∀ q, s.heap.size ≤ q → A q) (hX : SX X A s s.heap)  : ∀ n : Nat, ∀ (v_size : Int32) (a_tape : (Nat → Int32)) (y1 : Int64) (y4 : Int32) (H : Heap) (locs : List Loc) (ls : Array Slot), va_P (dC, dI) classes (WS_M_type g_this_above g_this_below g_this_digit g_this_limbs g_this_exact g_this_round g_this_out g_this_body h_this h_this_tape c_this_tape v_size v_kind v_number v_exponent v_aboveSize v_belowSize v_state v_digits v_behind v_power v_powerLess v_less v_plainDigits v_sixteen v_limbCount v_length v_point v_roundLength v_roundPoint v_written v_bodySize a_tape) H → va_D A (WS_M_type g_this_above g_this_below g_this_digit g_this_limbs g_this_exact g_this_round g_this_out g_this_body h_this h_this_tape c_this_tape v_size v_kind v_number v_exponent v_aboveSize v_belowSize v_state v_digits v_behind v_power v_powerLess v_less v_plainDigits v_sixteen v_limbCount v_length v_point v_roundLength v_roundPoint v_written v_bodySize a_tape) → va_S A s.heap H locs → lv_has ls 5 [(0, .ref h_this), (1, .long y1), (4, .int y4)] → f_M_type_33 n v_size a_tape y1 y4 = some res → W p l e ({ frames := 0, cells := 0, slots := 0, locals := 0 }) s m args below meth c H locs 0 0 (MQ below (va_Qi (fun (r : Int32) (u : Int32 × (Nat → Int32)) => some (r, u) = some res) (gB (dC, dI) [(c_this_tape, .byte)] A (fun (u : Int32 × (Nat → Int32)) => (WS_M_type g_this_above g_this_below g_this_digit g_this_limbs g_this_exact g_this_round g_this_out g_this_body h_this h_this_tape c_this_tape u.1 v_kind v_number v_exponent v_aboveSize v_belowSize v_state v_digits v_behind v_power v_powerLess v_less v_plainDigits v_sixteen v_limbCount v_length v_point v_roundLength v_roundPoint v_written v_bodySize u.2))) A) args s 0 0 A) (F0 m 33 ls []) := by
  intro n
  induction n with
  | zero =>
    intro v_size a_tape y1 y4 H locs ls hP hD hS hl h
    have h9 : (none : Option (Int32 × Int32 × (Nat → Int32))) = some res := h
    cases h9
  | succ n ih =>
    intro v_size a_tape y1 y4 H locs ls hP hD hS hl h
    exact s_M_type_33b cx hK hA hX ih v_size a_tape y1 y4 H locs ls hP hD hS hl h
set_option maxHeartbeats 4000000 in
set_option maxRecDepth 100000 in
theorem s_M_type_e {p : Program} {l : Launch} {e : Env} {s : State} {m : MethodId} {args : Array Value} {below : List Frame} {meth : Method} {c : Code} {dC : Nat → ClassId} {dI : Nat → Nat → Nat} {A : Nat → Prop} {X : SXT} {g_this_above : Nat} {g_this_below : Nat} {g_this_digit : Nat} {g_this_limbs : Nat} {g_this_exact : Nat} {g_this_round : Nat} {g_this_out : Nat} {g_this_body : Nat} {h_this : Nat} {h_this_tape : Nat} {c_this_tape : ClassId} {v_kind : Int32} {v_number : Int64} {v_exponent : Int32} {v_aboveSize : Int32} {v_belowSize : Int32} {v_state : Int32} {v_digits : Int32} {v_behind : Int32} {v_power : Int32} {v_powerLess : Int32} {v_less : Int32} {v_plainDigits : Int32} {v_sixteen : Int32} {v_limbCount : Int32} {v_length : Int32} {v_point : Int32} {v_roundLength : Int32} {v_roundPoint : Int32} {v_written : Int32} {v_bodySize : Int32} {res : Int32 × Int32 × (Nat → Int32)} (cx : cxx p s m args meth c b_M_type 5 (some .int) R_M) (hK : va_K (dC, dI) classes [(c_this_tape, .byte)] s) (hA : ∀ q, s.heap.size ≤ q → A q) (hX : SX X A s s.heap) : ∀ (v_size : Int32) (a_tape : (Nat → Int32)) (p1 : Int64) (p3 : Int32) (H : Heap) (locs : List Loc) (ls : Array Slot), va_P (dC, dI) classes (WS_M_type g_this_above g_this_below g_this_digit g_this_limbs g_this_exact g_this_round g_this_out g_this_body h_this h_this_tape c_this_tape v_size v_kind v_number v_exponent v_aboveSize v_belowSize v_state v_digits v_behind v_power v_powerLess v_less v_plainDigits v_sixteen v_limbCount v_length v_point v_roundLength v_roundPoint v_written v_bodySize a_tape) H → va_D A (WS_M_type g_this_above g_this_below g_this_digit g_this_limbs g_this_exact g_this_round g_this_out g_this_body h_this h_this_tape c_this_tape v_size v_kind v_number v_exponent v_aboveSize v_belowSize v_state v_digits v_behind v_power v_powerLess v_less v_plainDigits v_sixteen v_limbCount v_length v_point v_roundLength v_roundPoint v_written v_bodySize a_tape) → va_S A s.heap H locs → lv_has ls 5 [(0, .ref h_this), (1, .long p1), (3, .int p3)] → f_M_type v_size a_tape p1 p3 = some res → W p l e ({ frames := 0, cells := 0, slots := 0, locals := 0 }) s m args below meth c H locs 0 0 (MQ below (va_Qi (fun (r : Int32) (u : Int32 × (Nat → Int32)) => some (r, u) = some res) (gB (dC, dI) [(c_this_tape, .byte)] A (fun (u : Int32 × (Nat → Int32)) => (WS_M_type g_this_above g_this_below g_this_digit g_this_limbs g_this_exact g_this_round g_this_out g_this_body h_this h_this_tape c_this_tape u.1 v_kind v_number v_exponent v_aboveSize v_belowSize v_state v_digits v_behind v_power v_powerLess v_less v_plainDigits v_sixteen v_limbCount v_length v_point v_roundLength v_roundPoint v_written v_bodySize u.2))) A) args s 0 0 A) (F0 m 0 ls []) := by
  intro v_size a_tape p1 p3 H locs ls hP hD hS hl h
  obtain ⟨hx, hb, hr, hml, hown, ht, hlk⟩ := id cx
  refine lv_iload_n hx hb d_M_type_0 rfl (lv_at hl 2 rfl) ?_
  refine lv_iconst (v := 1) hx hb d_M_type_1 (by decide) ?_
  refine lv_icmp_lt (tgt := 11) hx hb d_M_type_2 (by decide) (fun c6 => ?_) (fun c6 => ?_)
  · have h := if_t c6 h
    refine lv_iconst (v := -1) hx hb d_M_type_11 (by decide) ?_
    exact W.iret (v := (-1 : Int32)) hx hb hr (fun t ht9 hW => ⟨⟨(-1 : Int32), (v_size, a_tape), rfl, h, by rw [ht9]; exact hP, va_K.moved hW.alike hK, hD⟩, hS.F ht9⟩) hS.2.2 d_M_type_12 hlk
  · have h := if_f c6 h
    refine lv_iload_n hx hb d_M_type_5 rfl (lv_at hl 2 rfl) ?_
    refine lv_bipush (v := 8) hx hb d_M_type_6 (by decide) ?_
    refine lv_icmp_le (tgt := 13) hx hb d_M_type_8 (by decide) (fun c7 => ?_) (fun c7 => ?_)
    · have h := if_t c7 h
      refine lv_aload_n hx hb d_M_type_13 rfl (lv_at hl 0 rfl) ?_
      refine va_get (D := (dC, dI)) (ci := 7) (v := .int v_size) (C := R_M) (T := F_M) (N := 30) hx hb ht i_M hown hK hP 0 rfl rfl 1 (by decide) (ht _ q_482) (fun _ h9 => h9) rfl d_M_type_14 ?_
      refine lv_iload_n hx hb d_M_type_17 rfl (lv_at hl 2 rfl) ?_
      refine lv_iadd hx hb d_M_type_18 ?_
      refine lv_sipush (v := 1200) hx hb d_M_type_19 (by decide) ?_
      refine lv_icmp_le (tgt := 28) hx hb d_M_type_22 (by decide) (fun c8 => ?_) (fun c8 => ?_)
      · have h := if_t c8 h
        refine lv_iload_n hx hb d_M_type_28 rfl (lv_at hl 2 rfl) ?_
        refine lv_iconst (v := 1) hx hb d_M_type_29 (by decide) ?_
        refine lv_isub hx hb d_M_type_30 ?_
        refine lv_topi (fun x9 e_x9 => ?_)
        have h := bd_g e_x9 h
        refine lv_istore (lv' := [(4, .int x9), (0, .ref h_this), (1, .long p1), (3, .int p3)]) hx hb d_M_type_31 hl (by decide) rfl (fun ls hl => ?_)
        exact s_M_type_33 cx hK hA hX fu v_size a_tape p1 x9 H locs ls hP hD hS (lv_sub hl [1, 2, 0] rfl) h
      · have h := if_f c8 h
        refine lv_bipush (v := -3) hx hb d_M_type_25 (by decide) ?_
        exact W.iret (v := (-3 : Int32)) hx hb hr (fun t ht9 hW => ⟨⟨(-3 : Int32), (v_size, a_tape), rfl, h, by rw [ht9]; exact hP, va_K.moved hW.alike hK, hD⟩, hS.F ht9⟩) hS.2.2 d_M_type_27 hlk
    · have h := if_f c7 h
      refine lv_iconst (v := -1) hx hb d_M_type_11 (by decide) ?_
      exact W.iret (v := (-1 : Int32)) hx hb hr (fun t ht9 hW => ⟨⟨(-1 : Int32), (v_size, a_tape), rfl, h, by rw [ht9]; exact hP, va_K.moved hW.alike hK, hD⟩, hS.F ht9⟩) hS.2.2 d_M_type_12 hlk
set_option maxHeartbeats 4000000 in
set_option maxRecDepth 100000 in
theorem c_M_type (l : Launch) (dC : Nat → ClassId) (dI : Nat → Nat → Nat) (X : SXT) (g_this_above : Nat) (g_this_below : Nat) (g_this_digit : Nat) (g_this_limbs : Nat) (g_this_exact : Nat) (g_this_round : Nat) (g_this_out : Nat) (g_this_body : Nat) (h_this : Nat) (h_this_tape : Nat) (c_this_tape : ClassId) (sz : Nat) (v_size : Int32) (v_kind : Int32) (v_number : Int64) (v_exponent : Int32) (v_aboveSize : Int32) (v_belowSize : Int32) (v_state : Int32) (v_digits : Int32) (v_behind : Int32) (v_power : Int32) (v_powerLess : Int32) (v_less : Int32) (v_plainDigits : Int32) (v_sixteen : Int32) (v_limbCount : Int32) (v_length : Int32) (v_point : Int32) (v_roundLength : Int32) (v_roundPoint : Int32) (v_written : Int32) (v_bodySize : Int32) (a_tape : (Nat → Int32)) (p1 : Int64) (p3 : Int32) (res : Int32 × Int32 × (Nat → Int32)) (hf : f_M_type v_size a_tape p1 p3 = some res) : Met l y_M_type (.code y_M_type b_M_type 5 (some .int) :: w0) ({ frames := 0, cells := 0, slots := 0, locals := 0 }) (va_Pc [.ref h_this, .long p1, .int p3] (gP (dC, dI) (WS_M_type g_this_above g_this_below g_this_digit g_this_limbs g_this_exact g_this_round g_this_out g_this_body h_this h_this_tape c_this_tape v_size v_kind v_number v_exponent v_aboveSize v_belowSize v_state v_digits v_behind v_power v_powerLess v_less v_plainDigits v_sixteen v_limbCount v_length v_point v_roundLength v_roundPoint v_written v_bodySize a_tape) [(c_this_tape, .byte)] sz X)) (va_Qi (fun (r : Int32) (u : Int32 × (Nat → Int32)) => some (r, u) = some res) (gB (dC, dI) [(c_this_tape, .byte)] (va_A (WS_M_type g_this_above g_this_below g_this_digit g_this_limbs g_this_exact g_this_round g_this_out g_this_body h_this h_this_tape c_this_tape v_size v_kind v_number v_exponent v_aboveSize v_belowSize v_state v_digits v_behind v_power v_powerLess v_less v_plainDigits v_sixteen v_limbCount v_length v_point v_roundLength v_roundPoint v_written v_bodySize a_tape) sz) (fun (u : Int32 × (Nat → Int32)) => (WS_M_type g_this_above g_this_below g_this_digit g_this_limbs g_this_exact g_this_round g_this_out g_this_body h_this h_this_tape c_this_tape u.1 v_kind v_number v_exponent v_aboveSize v_belowSize v_state v_digits v_behind v_power v_powerLess v_less v_plainDigits v_sixteen v_limbCount v_length v_point v_roundLength v_roundPoint v_written v_bodySize u.2))) (va_A (WS_M_type g_this_above g_this_below g_this_digit g_this_limbs g_this_exact g_this_round g_this_out g_this_body h_this h_this_tape c_this_tape v_size v_kind v_number v_exponent v_aboveSize v_belowSize v_state v_digits v_behind v_power v_powerLess v_less v_plainDigits v_sixteen v_limbCount v_length v_point v_roundLength v_roundPoint v_written v_bodySize a_tape) sz)) 0 0 (va_A (WS_M_type g_this_above g_this_below g_this_digit g_this_limbs g_this_exact g_this_round g_this_out g_this_body h_this h_this_tape c_this_tape v_size v_kind v_number v_exponent v_aboveSize v_belowSize v_state v_digits v_behind v_power v_powerLess v_less v_plainDigits v_sixteen v_limbCount v_length v_point v_roundLength v_roundPoint v_written v_bodySize a_tape) sz) := by
  refine Met.ofW (cc := b_M_type) (maxL := 5) (ret := (some .int)) (by decide) rfl ?_
  intro p e s m args below meth c s₁ B hml hv
  obtain ⟨rfl, hsz, hP, hK, hD0, hX⟩ := hv
  subst hsz
  have cx : cxx p s m ([.ref h_this, .long p1, .int p3] : List Value).toArray meth c b_M_type 5 (some .int) R_M := ⟨B.exec, B.bytes, B.returns, hml, findClass_of_methodNamed B.named, fun w9 hw => atoms_spec (ws := .code y_M_type b_M_type 5 (some .int) :: w0) B.pre w9 (List.mem_cons_of_mem _ hw), B.notSynchronized⟩
  have hD := hD0.self (sz := s.heap.size)
  generalize hAe : va_A (WS_M_type g_this_above g_this_below g_this_digit g_this_limbs g_this_exact g_this_round g_this_out g_this_body h_this h_this_tape c_this_tape v_size v_kind v_number v_exponent v_aboveSize v_belowSize v_state v_digits v_behind v_power v_powerLess v_less v_plainDigits v_sixteen v_limbCount v_length v_point v_roundLength v_roundPoint v_written v_bodySize a_tape) s.heap.size = A at hD hX ⊢
  have hA : ∀ q : Nat, s.heap.size ≤ q → A q := fun q h => by rw [← hAe]; exact Or.inr h
  have hS : va_S A s.heap s.heap [] := va_S.rf
  have hl := lv_entry ([.ref h_this, .long p1, .int p3]) (n := 5) (Nat.le_of_ble_eq_true rfl)
  rw [lg_entry_eq]
  generalize (lg_sl ([.ref h_this, .long p1, .int p3]) ++ List.replicate (5 - (lg_sl ([.ref h_this, .long p1, .int p3])).length) Slot.unset).toArray = ls at hl ⊢
  have hl : lv_has ls 5 [(0, .ref h_this), (1, .long p1), (3, .int p3)] := hl
  exact s_M_type_e cx hK hA hX v_size a_tape p1 p3 s.heap [] ls hP hD hS hl hf
abbrev WS_M_set (g_this_tape : Nat) (g_this_above : Nat) (g_this_below : Nat) (g_this_digit : Nat) (g_this_limbs : Nat) (g_this_exact : Nat) (g_this_round : Nat) (g_this_out : Nat) (g_this_body : Nat) (h_this : Nat)  (v_size : Int32) (v_kind : Int32) (v_number : Int64) (v_exponent : Int32) (v_aboveSize : Int32) (v_belowSize : Int32) (v_state : Int32) (v_digits : Int32) (v_behind : Int32) (v_power : Int32) (v_powerLess : Int32) (v_less : Int32) (v_plainDigits : Int32) (v_sixteen : Int32) (v_limbCount : Int32) (v_length : Int32) (v_point : Int32) (v_roundLength : Int32) (v_roundPoint : Int32) (v_written : Int32) (v_bodySize : Int32) : va_W := [(h_this, .inr (7, [.ref g_this_tape, .int v_size, .int v_kind, .long v_number, .int v_exponent, .ref g_this_above, .int v_aboveSize, .ref g_this_below, .int v_belowSize, .int v_state, .int v_digits, .ref g_this_digit, .int v_behind, .int v_power, .int v_powerLess, .int v_less, .int v_plainDigits, .int v_sixteen, .ref g_this_limbs, .int v_limbCount, .ref g_this_exact, .int v_length, .int v_point, .ref g_this_round, .int v_roundLength, .int v_roundPoint, .ref g_this_out, .int v_written, .ref g_this_body, .int v_bodySize]))]
def f_M_set_26b (k26 : Int32 → Int64 → Int32 → Int32 → Option (Int32 × Int32 × Int64 × Int32)) (v_kind : Int32) (v_number : Int64) (v_exponent : Int32) (y1 : Int32) : Option (Int32 × Int32 × Int64 × Int32) :=
  if y1 = (2 : Int32) then
    if v_number = (0 : Int64) then
      some (y1, v_kind, v_number, v_exponent)
    else
      if (v_number &&& (1 : Int64)) = (0 : Int64) then
        bd (lsr v_number (1 : Int32)) fun x4 =>
        bd (v_exponent + (1 : Int32)) fun x5 =>
        k26 v_kind x4 x5 y1
      else
        some (y1, v_kind, v_number, v_exponent)
  else
    some (y1, v_kind, v_number, v_exponent)
def f_M_set_26 : Nat → Int32 → Int64 → Int32 → Int32 → Option (Int32 × Int32 × Int64 × Int32)
  | 0 => fun _ _ _ _ => none
  | n + 1 => fun v_kind v_number v_exponent y1 => f_M_set_26b (f_M_set_26 n) v_kind v_number v_exponent y1
def f_M_set_23 (v_kind : Int32) (v_number : Int64) (v_exponent : Int32) (y1 : Int32) (z1 : Int32) : Option (Int32 × Int32 × Int64 × Int32) :=
  f_M_set_26 fu v_kind v_number z1 y1
def f_M_set (v_kind : Int32) (v_number : Int64) (v_exponent : Int32) (p1 : Int32) (p2 : Int64) (p4 : Int32) : Option (Int32 × Int32 × Int64 × Int32) :=
  if p2 = (0 : Int64) then
    f_M_set_23 p1 p2 v_exponent p1 (0 : Int32)
  else
    f_M_set_23 p1 p2 v_exponent p1 p4
set_option maxHeartbeats 4000000 in
set_option maxRecDepth 100000 in
theorem s_M_set_26b {p : Program} {l : Launch} {e : Env} {s : State} {m : MethodId} {args : Array Value} {below : List Frame} {meth : Method} {c : Code} {dC : Nat → ClassId} {dI : Nat → Nat → Nat} {A : Nat → Prop} {X : SXT} {g_this_tape : Nat} {g_this_above : Nat} {g_this_below : Nat} {g_this_digit : Nat} {g_this_limbs : Nat} {g_this_exact : Nat} {g_this_round : Nat} {g_this_out : Nat} {g_this_body : Nat} {h_this : Nat} {v_size : Int32} {v_aboveSize : Int32} {v_belowSize : Int32} {v_state : Int32} {v_digits : Int32} {v_behind : Int32} {v_power : Int32} {v_powerLess : Int32} {v_less : Int32} {v_plainDigits : Int32} {v_sixteen : Int32} {v_limbCount : Int32} {v_length : Int32} {v_point : Int32} {v_roundLength : Int32} {v_roundPoint : Int32} {v_written : Int32} {v_bodySize : Int32} {res : Int32 × Int32 × Int64 × Int32} {k26 : Int32 → Int64 → Int32 → Int32 → Option (Int32 × Int32 × Int64 × Int32)} (cx : cxx p s m args meth c b_M_set 5 (some .int) R_M) (hK : va_K (dC, dI) classes [] s) (hA : ∀ q, s.heap.size ≤ q → A q) (hX : SX X A s s.heap) (hk26 : ∀ (v_kind : Int32) (v_number : Int64) (v_exponent : Int32) (y1 : Int32) (H : Heap) (locs : List Loc) (ls : Array Slot), va_P (dC, dI) classes (WS_M_set g_this_tape g_this_above g_this_below g_this_digit g_this_limbs g_this_exact g_this_round g_this_out g_this_body h_this v_size v_kind v_number v_exponent v_aboveSize v_belowSize v_state v_digits v_behind v_power v_powerLess v_less v_plainDigits v_sixteen v_limbCount v_length v_point v_roundLength v_roundPoint v_written v_bodySize) H → va_D A (WS_M_set g_this_tape g_this_above g_this_below g_this_digit g_this_limbs g_this_exact g_this_round g_this_out g_this_body h_this v_size v_kind v_number v_exponent v_aboveSize v_belowSize v_state v_digits v_behind v_power v_powerLess v_less v_plainDigits v_sixteen v_limbCount v_length v_point v_roundLength v_roundPoint v_written v_bodySize) → va_S A s.heap H locs → lv_has ls 5 [(0, .ref h_this), (1, .int y1)] → k26 v_kind v_number v_exponent y1 = some res → W p l e ({ frames := 0, cells := 0, slots := 0, locals := 0 }) s m args below meth c H locs 0 0 (MQ below (va_Qi (fun (r : Int32) (u : Int32 × Int64 × Int32) => some (r, u) = some res) (gB (dC, dI) [] A (fun (u : Int32 × Int64 × Int32) => (WS_M_set g_this_tape g_this_above g_this_below g_this_digit g_this_limbs g_this_exact g_this_round g_this_out g_this_body h_this v_size u.1 u.2.1 u.2.2 v_aboveSize v_belowSize v_state v_digits v_behind v_power v_powerLess v_less v_plainDigits v_sixteen v_limbCount v_length v_point v_roundLength v_roundPoint v_written v_bodySize))) A) args s 0 0 A) (F0 m 26 ls [])) : ∀ (v_kind : Int32) (v_number : Int64) (v_exponent : Int32) (y1 : Int32) (H : Heap) (locs : List Loc) (ls : Array Slot), va_P (dC, dI) classes (WS_M_set g_this_tape g_this_above g_this_below g_this_digit g_this_limbs g_this_exact g_this_round g_this_out g_this_body h_this v_size v_kind v_number v_exponent v_aboveSize v_belowSize v_state v_digits v_behind v_power v_powerLess v_less v_plainDigits v_sixteen v_limbCount v_length v_point v_roundLength v_roundPoint v_written v_bodySize) H → va_D A (WS_M_set g_this_tape g_this_above g_this_below g_this_digit g_this_limbs g_this_exact g_this_round g_this_out g_this_body h_this v_size v_kind v_number v_exponent v_aboveSize v_belowSize v_state v_digits v_behind v_power v_powerLess v_less v_plainDigits v_sixteen v_limbCount v_length v_point v_roundLength v_roundPoint v_written v_bodySize) → va_S A s.heap H locs → lv_has ls 5 [(0, .ref h_this), (1, .int y1)] → f_M_set_26b k26 v_kind v_number v_exponent y1 = some res → W p l e ({ frames := 0, cells := 0, slots := 0, locals := 0 }) s m args below meth c H locs 0 0 (MQ below (va_Qi (fun (r : Int32) (u : Int32 × Int64 × Int32) => some (r, u) = some res) (gB (dC, dI) [] A (fun (u : Int32 × Int64 × Int32) => (WS_M_set g_this_tape g_this_above g_this_below g_this_digit g_this_limbs g_this_exact g_this_round g_this_out g_this_body h_this v_size u.1 u.2.1 u.2.2 v_aboveSize v_belowSize v_state v_digits v_behind v_power v_powerLess v_less v_plainDigits v_sixteen v_limbCount v_length v_point v_roundLength v_roundPoint v_written v_bodySize))) A) args s 0 0 A) (F0 m 26 ls []) := by
  intro v_kind v_number v_exponent y1 H locs ls hP hD hS hl h
  obtain ⟨hx, hb, hr, hml, hown, ht, hlk⟩ := id cx
  refine lv_iload_n hx hb d_M_set_26 rfl (lv_at hl 1 rfl) ?_
  refine lv_iconst (v := 2) hx hb d_M_set_27 (by decide) ?_
  refine lv_icmp_ne (tgt := 74) hx hb d_M_set_28 (by decide) (fun c1 => ?_) (fun c1 => ?_)
  · have h := if_f c1 h
    refine lv_iload_n hx hb d_M_set_74 rfl (lv_at hl 1 rfl) ?_
    exact W.iret (v := y1) hx hb hr (fun t ht9 hW => ⟨⟨y1, (v_kind, v_number, v_exponent), rfl, h, by rw [ht9]; exact hP, va_K.moved hW.alike hK, hD⟩, hS.F ht9⟩) hS.2.2 d_M_set_75 hlk
  · have h := if_t c1 h
    refine lv_aload_n hx hb d_M_set_31 rfl (lv_at hl 0 rfl) ?_
    refine va_get (D := (dC, dI)) (ci := 7) (v := .long v_number) (C := R_M) (T := F_M) (N := 30) hx hb ht i_M hown hK hP 0 rfl rfl 3 (by decide) (ht _ q_484) (fun _ h9 => h9) rfl d_M_set_32 ?_
    refine lv_lconst (v := 0) hx hb d_M_set_35 (by decide) ?_
    refine W.lcmp hx hb d_M_set_36 ?_
    refine lv_if_eq (tgt := 74) hx hb d_M_set_37 (by decide) (fun c2 => ?_) (fun c2 => ?_)
    · have c2 := (lg_cmp_eq _ _).mp c2
      have h := if_t c2 h
      refine lv_iload_n hx hb d_M_set_74 rfl (lv_at hl 1 rfl) ?_
      exact W.iret (v := y1) hx hb hr (fun t ht9 hW => ⟨⟨y1, (v_kind, v_number, v_exponent), rfl, h, by rw [ht9]; exact hP, va_K.moved hW.alike hK, hD⟩, hS.F ht9⟩) hS.2.2 d_M_set_75 hlk
    · have c2 := fun h9 => c2 ((lg_cmp_eq _ _).mpr h9)
      have h := if_f c2 h
      refine lv_aload_n hx hb d_M_set_40 rfl (lv_at hl 0 rfl) ?_
      refine va_get (D := (dC, dI)) (ci := 7) (v := .long v_number) (C := R_M) (T := F_M) (N := 30) hx hb ht i_M hown hK hP 0 rfl rfl 3 (by decide) (ht _ q_484) (fun _ h9 => h9) rfl d_M_set_41 ?_
      refine lv_lconst (v := 1) hx hb d_M_set_44 (by decide) ?_
      refine lv_land hx hb d_M_set_45 ?_
      refine lv_lconst (v := 0) hx hb d_M_set_46 (by decide) ?_
      refine W.lcmp hx hb d_M_set_47 ?_
      refine lv_if_ne (tgt := 74) hx hb d_M_set_48 (by decide) (fun c3 => ?_) (fun c3 => ?_)
      · have c3 := fun h9 => c3 ((lg_cmp_eq _ _).mpr h9)
        have h := if_f c3 h
        refine lv_iload_n hx hb d_M_set_74 rfl (lv_at hl 1 rfl) ?_
        exact W.iret (v := y1) hx hb hr (fun t ht9 hW => ⟨⟨y1, (v_kind, v_number, v_exponent), rfl, h, by rw [ht9]; exact hP, va_K.moved hW.alike hK, hD⟩, hS.F ht9⟩) hS.2.2 d_M_set_75 hlk
      · have c3 := (lg_cmp_eq _ _).mp c3
        have h := if_t c3 h
        refine lv_aload_n hx hb d_M_set_51 rfl (lv_at hl 0 rfl) ?_
        refine lv_aload_n hx hb d_M_set_52 rfl (lv_at hl 0 rfl) ?_
        refine va_get (D := (dC, dI)) (ci := 7) (v := .long v_number) (C := R_M) (T := F_M) (N := 30) hx hb ht i_M hown hK hP 0 rfl rfl 3 (by decide) (ht _ q_484) (fun _ h9 => h9) rfl d_M_set_53 ?_
        refine lv_iconst (v := 1) hx hb d_M_set_56 (by decide) ?_
        refine lv_lshr (v := lsr v_number (1 : Int32)) hx hb d_M_set_57 rfl ?_
        refine lv_topl (fun x4 e_x4 => ?_)
        have h := bd_g e_x4 h
        refine va_put (D := (dC, dI)) (ci := 7) (v := .long x4) (ty := .long) (C := R_M) (T := F_M) (N := 30) hx hb ht i_M t_M t_M_ok n_M hown hK hP hD hS 0 rfl rfl 3 (by decide) (ht _ q_484) (fun _ h9 => h9) rfl (t_M_ok 3 (by decide)) rfl rfl (Nat.le_of_ble_eq_true rfl) d_M_set_58 (fun H locs hP hD hS => ?_)
        have hP : va_P (dC, dI) classes (WS_M_set g_this_tape g_this_above g_this_below g_this_digit g_this_limbs g_this_exact g_this_round g_this_out g_this_body h_this v_size v_kind x4 v_exponent v_aboveSize v_belowSize v_state v_digits v_behind v_power v_powerLess v_less v_plainDigits v_sixteen v_limbCount v_length v_point v_roundLength v_roundPoint v_written v_bodySize) H := hP
        have hD : va_D A (WS_M_set g_this_tape g_this_above g_this_below g_this_digit g_this_limbs g_this_exact g_this_round g_this_out g_this_body h_this v_size v_kind x4 v_exponent v_aboveSize v_belowSize v_state v_digits v_behind v_power v_powerLess v_less v_plainDigits v_sixteen v_limbCount v_length v_point v_roundLength v_roundPoint v_written v_bodySize) := hD
        refine lv_aload_n hx hb d_M_set_61 rfl (lv_at hl 0 rfl) ?_
        refine lv_dup hx hb d_M_set_62 rfl ?_
        refine va_get (D := (dC, dI)) (ci := 7) (v := .int v_exponent) (C := R_M) (T := F_M) (N := 30) hx hb ht i_M hown hK hP 0 rfl rfl 4 (by decide) (ht _ q_485) (fun _ h9 => h9) rfl d_M_set_63 ?_
        refine lv_iconst (v := 1) hx hb d_M_set_66 (by decide) ?_
        refine lv_iadd hx hb d_M_set_67 ?_
        refine lv_topi (fun x5 e_x5 => ?_)
        have h := bd_g e_x5 h
        refine va_put (D := (dC, dI)) (ci := 7) (v := .int x5) (ty := .int) (C := R_M) (T := F_M) (N := 30) hx hb ht i_M t_M t_M_ok n_M hown hK hP hD hS 0 rfl rfl 4 (by decide) (ht _ q_485) (fun _ h9 => h9) rfl (t_M_ok 4 (by decide)) rfl rfl (Nat.le_of_ble_eq_true rfl) d_M_set_68 (fun H locs hP hD hS => ?_)
        have hP : va_P (dC, dI) classes (WS_M_set g_this_tape g_this_above g_this_below g_this_digit g_this_limbs g_this_exact g_this_round g_this_out g_this_body h_this v_size v_kind x4 x5 v_aboveSize v_belowSize v_state v_digits v_behind v_power v_powerLess v_less v_plainDigits v_sixteen v_limbCount v_length v_point v_roundLength v_roundPoint v_written v_bodySize) H := hP
        have hD : va_D A (WS_M_set g_this_tape g_this_above g_this_below g_this_digit g_this_limbs g_this_exact g_this_round g_this_out g_this_body h_this v_size v_kind x4 x5 v_aboveSize v_belowSize v_state v_digits v_behind v_power v_powerLess v_less v_plainDigits v_sixteen v_limbCount v_length v_point v_roundLength v_roundPoint v_written v_bodySize) := hD
        refine lv_goto (tgt := 26) hx hb d_M_set_71 (by decide) ?_
        exact hk26 v_kind x4 x5 y1 H locs ls hP hD hS (lv_sub hl [0, 1] rfl) h
set_option maxHeartbeats 4000000 in
set_option maxRecDepth 100000 in
theorem s_M_set_26 {p : Program} {l : Launch} {e : Env} {s : State} {m : MethodId} {args : Array Value} {below : List Frame} {meth : Method} {c : Code} {dC : Nat → ClassId} {dI : Nat → Nat → Nat} {A : Nat → Prop} {X : SXT} {g_this_tape : Nat} {g_this_above : Nat} {g_this_below : Nat} {g_this_digit : Nat} {g_this_limbs : Nat} {g_this_exact : Nat} {g_this_round : Nat} {g_this_out : Nat} {g_this_body : Nat} {h_this : Nat} {v_size : Int32} {v_aboveSize : Int32} {v_belowSize : Int32} {v_state : Int32} {v_digits : Int32} {v_behind : Int32} {v_power : Int32} {v_powerLess : Int32} {v_less : Int32} {v_plainDigits : Int32} {v_sixteen : Int32} {v_limbCount : Int32} {v_length : Int32} {v_point : Int32} {v_roundLength : Int32} {v_roundPoint : Int32} {v_written : Int32} {v_bodySize : Int32} {res : Int32 × Int32 × Int64 × Int32}  (cx : cxx p s m args meth c b_M_set 5 (some .int) R_M) (hK : va_K (dC, dI) classes [] s) (hA : ∀ q, s.heap.size ≤ q → A q) (hX : SX X A s s.heap)  : ∀ n : Nat, ∀ (v_kind : Int32) (v_number : Int64) (v_exponent : Int32) (y1 : Int32) (H : Heap) (locs : List Loc) (ls : Array Slot), va_P (dC, dI) classes (WS_M_set g_this_tape g_this_above g_this_below g_this_digit g_this_limbs g_this_exact g_this_round g_this_out g_this_body h_this v_size v_kind v_number v_exponent v_aboveSize v_belowSize v_state v_digits v_behind v_power v_powerLess v_less v_plainDigits v_sixteen v_limbCount v_length v_point v_roundLength v_roundPoint v_written v_bodySize) H → va_D A (WS_M_set g_this_tape g_this_above g_this_below g_this_digit g_this_limbs g_this_exact g_this_round g_this_out g_this_body h_this v_size v_kind v_number v_exponent v_aboveSize v_belowSize v_state v_digits v_behind v_power v_powerLess v_less v_plainDigits v_sixteen v_limbCount v_length v_point v_roundLength v_roundPoint v_written v_bodySize) → va_S A s.heap H locs → lv_has ls 5 [(0, .ref h_this), (1, .int y1)] → f_M_set_26 n v_kind v_number v_exponent y1 = some res → W p l e ({ frames := 0, cells := 0, slots := 0, locals := 0 }) s m args below meth c H locs 0 0 (MQ below (va_Qi (fun (r : Int32) (u : Int32 × Int64 × Int32) => some (r, u) = some res) (gB (dC, dI) [] A (fun (u : Int32 × Int64 × Int32) => (WS_M_set g_this_tape g_this_above g_this_below g_this_digit g_this_limbs g_this_exact g_this_round g_this_out g_this_body h_this v_size u.1 u.2.1 u.2.2 v_aboveSize v_belowSize v_state v_digits v_behind v_power v_powerLess v_less v_plainDigits v_sixteen v_limbCount v_length v_point v_roundLength v_roundPoint v_written v_bodySize))) A) args s 0 0 A) (F0 m 26 ls []) := by
  intro n
  induction n with
  | zero =>
    intro v_kind v_number v_exponent y1 H locs ls hP hD hS hl h
    have h9 : (none : Option (Int32 × Int32 × Int64 × Int32)) = some res := h
    cases h9
  | succ n ih =>
    intro v_kind v_number v_exponent y1 H locs ls hP hD hS hl h
    exact s_M_set_26b cx hK hA hX ih v_kind v_number v_exponent y1 H locs ls hP hD hS hl h
set_option maxHeartbeats 4000000 in
set_option maxRecDepth 100000 in
theorem s_M_set_23 {p : Program} {l : Launch} {e : Env} {s : State} {m : MethodId} {args : Array Value} {below : List Frame} {meth : Method} {c : Code} {dC : Nat → ClassId} {dI : Nat → Nat → Nat} {A : Nat → Prop} {X : SXT} {g_this_tape : Nat} {g_this_above : Nat} {g_this_below : Nat} {g_this_digit : Nat} {g_this_limbs : Nat} {g_this_exact : Nat} {g_this_round : Nat} {g_this_out : Nat} {g_this_body : Nat} {h_this : Nat} {v_size : Int32} {v_aboveSize : Int32} {v_belowSize : Int32} {v_state : Int32} {v_digits : Int32} {v_behind : Int32} {v_power : Int32} {v_powerLess : Int32} {v_less : Int32} {v_plainDigits : Int32} {v_sixteen : Int32} {v_limbCount : Int32} {v_length : Int32} {v_point : Int32} {v_roundLength : Int32} {v_roundPoint : Int32} {v_written : Int32} {v_bodySize : Int32} {res : Int32 × Int32 × Int64 × Int32}  (cx : cxx p s m args meth c b_M_set 5 (some .int) R_M) (hK : va_K (dC, dI) classes [] s) (hA : ∀ q, s.heap.size ≤ q → A q) (hX : SX X A s s.heap)  : ∀ (v_kind : Int32) (v_number : Int64) (v_exponent : Int32) (y1 : Int32) (z1 : Int32) (H : Heap) (locs : List Loc) (ls : Array Slot), va_P (dC, dI) classes (WS_M_set g_this_tape g_this_above g_this_below g_this_digit g_this_limbs g_this_exact g_this_round g_this_out g_this_body h_this v_size v_kind v_number v_exponent v_aboveSize v_belowSize v_state v_digits v_behind v_power v_powerLess v_less v_plainDigits v_sixteen v_limbCount v_length v_point v_roundLength v_roundPoint v_written v_bodySize) H → va_D A (WS_M_set g_this_tape g_this_above g_this_below g_this_digit g_this_limbs g_this_exact g_this_round g_this_out g_this_body h_this v_size v_kind v_number v_exponent v_aboveSize v_belowSize v_state v_digits v_behind v_power v_powerLess v_less v_plainDigits v_sixteen v_limbCount v_length v_point v_roundLength v_roundPoint v_written v_bodySize) → va_S A s.heap H locs → lv_has ls 5 [(0, .ref h_this), (1, .int y1)] → f_M_set_23 v_kind v_number v_exponent y1 z1 = some res → W p l e ({ frames := 0, cells := 0, slots := 0, locals := 0 }) s m args below meth c H locs 0 0 (MQ below (va_Qi (fun (r : Int32) (u : Int32 × Int64 × Int32) => some (r, u) = some res) (gB (dC, dI) [] A (fun (u : Int32 × Int64 × Int32) => (WS_M_set g_this_tape g_this_above g_this_below g_this_digit g_this_limbs g_this_exact g_this_round g_this_out g_this_body h_this v_size u.1 u.2.1 u.2.2 v_aboveSize v_belowSize v_state v_digits v_behind v_power v_powerLess v_less v_plainDigits v_sixteen v_limbCount v_length v_point v_roundLength v_roundPoint v_written v_bodySize))) A) args s 0 0 A) (F0 m 23 ls [.int z1, .ref h_this]) := by
  intro v_kind v_number v_exponent y1 z1 H locs ls hP hD hS hl h
  obtain ⟨hx, hb, hr, hml, hown, ht, hlk⟩ := id cx
  refine va_put (D := (dC, dI)) (ci := 7) (v := .int z1) (ty := .int) (C := R_M) (T := F_M) (N := 30) hx hb ht i_M t_M t_M_ok n_M hown hK hP hD hS 0 rfl rfl 4 (by decide) (ht _ q_485) (fun _ h9 => h9) rfl (t_M_ok 4 (by decide)) rfl rfl (Nat.le_of_ble_eq_true rfl) d_M_set_23 (fun H locs hP hD hS => ?_)
  have hP : va_P (dC, dI) classes (WS_M_set g_this_tape g_this_above g_this_below g_this_digit g_this_limbs g_this_exact g_this_round g_this_out g_this_body h_this v_size v_kind v_number z1 v_aboveSize v_belowSize v_state v_digits v_behind v_power v_powerLess v_less v_plainDigits v_sixteen v_limbCount v_length v_point v_roundLength v_roundPoint v_written v_bodySize) H := hP
  have hD : va_D A (WS_M_set g_this_tape g_this_above g_this_below g_this_digit g_this_limbs g_this_exact g_this_round g_this_out g_this_body h_this v_size v_kind v_number z1 v_aboveSize v_belowSize v_state v_digits v_behind v_power v_powerLess v_less v_plainDigits v_sixteen v_limbCount v_length v_point v_roundLength v_roundPoint v_written v_bodySize) := hD
  exact s_M_set_26 cx hK hA hX fu v_kind v_number z1 y1 H locs ls hP hD hS (lv_sub hl [0, 1] rfl) h
set_option maxHeartbeats 4000000 in
set_option maxRecDepth 100000 in
theorem s_M_set_e {p : Program} {l : Launch} {e : Env} {s : State} {m : MethodId} {args : Array Value} {below : List Frame} {meth : Method} {c : Code} {dC : Nat → ClassId} {dI : Nat → Nat → Nat} {A : Nat → Prop} {X : SXT} {g_this_tape : Nat} {g_this_above : Nat} {g_this_below : Nat} {g_this_digit : Nat} {g_this_limbs : Nat} {g_this_exact : Nat} {g_this_round : Nat} {g_this_out : Nat} {g_this_body : Nat} {h_this : Nat} {v_size : Int32} {v_aboveSize : Int32} {v_belowSize : Int32} {v_state : Int32} {v_digits : Int32} {v_behind : Int32} {v_power : Int32} {v_powerLess : Int32} {v_less : Int32} {v_plainDigits : Int32} {v_sixteen : Int32} {v_limbCount : Int32} {v_length : Int32} {v_point : Int32} {v_roundLength : Int32} {v_roundPoint : Int32} {v_written : Int32} {v_bodySize : Int32} {res : Int32 × Int32 × Int64 × Int32} (cx : cxx p s m args meth c b_M_set 5 (some .int) R_M) (hK : va_K (dC, dI) classes [] s) (hA : ∀ q, s.heap.size ≤ q → A q) (hX : SX X A s s.heap) : ∀ (v_kind : Int32) (v_number : Int64) (v_exponent : Int32) (p1 : Int32) (p2 : Int64) (p4 : Int32) (H : Heap) (locs : List Loc) (ls : Array Slot), va_P (dC, dI) classes (WS_M_set g_this_tape g_this_above g_this_below g_this_digit g_this_limbs g_this_exact g_this_round g_this_out g_this_body h_this v_size v_kind v_number v_exponent v_aboveSize v_belowSize v_state v_digits v_behind v_power v_powerLess v_less v_plainDigits v_sixteen v_limbCount v_length v_point v_roundLength v_roundPoint v_written v_bodySize) H → va_D A (WS_M_set g_this_tape g_this_above g_this_below g_this_digit g_this_limbs g_this_exact g_this_round g_this_out g_this_body h_this v_size v_kind v_number v_exponent v_aboveSize v_belowSize v_state v_digits v_behind v_power v_powerLess v_less v_plainDigits v_sixteen v_limbCount v_length v_point v_roundLength v_roundPoint v_written v_bodySize) → va_S A s.heap H locs → lv_has ls 5 [(0, .ref h_this), (1, .int p1), (2, .long p2), (4, .int p4)] → f_M_set v_kind v_number v_exponent p1 p2 p4 = some res → W p l e ({ frames := 0, cells := 0, slots := 0, locals := 0 }) s m args below meth c H locs 0 0 (MQ below (va_Qi (fun (r : Int32) (u : Int32 × Int64 × Int32) => some (r, u) = some res) (gB (dC, dI) [] A (fun (u : Int32 × Int64 × Int32) => (WS_M_set g_this_tape g_this_above g_this_below g_this_digit g_this_limbs g_this_exact g_this_round g_this_out g_this_body h_this v_size u.1 u.2.1 u.2.2 v_aboveSize v_belowSize v_state v_digits v_behind v_power v_powerLess v_less v_plainDigits v_sixteen v_limbCount v_length v_point v_roundLength v_roundPoint v_written v_bodySize))) A) args s 0 0 A) (F0 m 0 ls []) := by
  intro v_kind v_number v_exponent p1 p2 p4 H locs ls hP hD hS hl h
  obtain ⟨hx, hb, hr, hml, hown, ht, hlk⟩ := id cx
  refine lv_aload_n hx hb d_M_set_0 rfl (lv_at hl 0 rfl) ?_
  refine lv_iload_n hx hb d_M_set_1 rfl (lv_at hl 1 rfl) ?_
  refine va_put (D := (dC, dI)) (ci := 7) (v := .int p1) (ty := .int) (C := R_M) (T := F_M) (N := 30) hx hb ht i_M t_M t_M_ok n_M hown hK hP hD hS 0 rfl rfl 2 (by decide) (ht _ q_486) (fun _ h9 => h9) rfl (t_M_ok 2 (by decide)) rfl rfl (Nat.le_of_ble_eq_true rfl) d_M_set_2 (fun H locs hP hD hS => ?_)
  have hP : va_P (dC, dI) classes (WS_M_set g_this_tape g_this_above g_this_below g_this_digit g_this_limbs g_this_exact g_this_round g_this_out g_this_body h_this v_size p1 v_number v_exponent v_aboveSize v_belowSize v_state v_digits v_behind v_power v_powerLess v_less v_plainDigits v_sixteen v_limbCount v_length v_point v_roundLength v_roundPoint v_written v_bodySize) H := hP
  have hD : va_D A (WS_M_set g_this_tape g_this_above g_this_below g_this_digit g_this_limbs g_this_exact g_this_round g_this_out g_this_body h_this v_size p1 v_number v_exponent v_aboveSize v_belowSize v_state v_digits v_behind v_power v_powerLess v_less v_plainDigits v_sixteen v_limbCount v_length v_point v_roundLength v_roundPoint v_written v_bodySize) := hD
  refine lv_aload_n hx hb d_M_set_5 rfl (lv_at hl 0 rfl) ?_
  refine lv_lload_n hx hb d_M_set_6 rfl (lv_at hl 2 rfl) ?_
  refine va_put (D := (dC, dI)) (ci := 7) (v := .long p2) (ty := .long) (C := R_M) (T := F_M) (N := 30) hx hb ht i_M t_M t_M_ok n_M hown hK hP hD hS 0 rfl rfl 3 (by decide) (ht _ q_484) (fun _ h9 => h9) rfl (t_M_ok 3 (by decide)) rfl rfl (Nat.le_of_ble_eq_true rfl) d_M_set_7 (fun H locs hP hD hS => ?_)
  have hP : va_P (dC, dI) classes (WS_M_set g_this_tape g_this_above g_this_below g_this_digit g_this_limbs g_this_exact g_this_round g_this_out g_this_body h_this v_size p1 p2 v_exponent v_aboveSize v_belowSize v_state v_digits v_behind v_power v_powerLess v_less v_plainDigits v_sixteen v_limbCount v_length v_point v_roundLength v_roundPoint v_written v_bodySize) H := hP
  have hD : va_D A (WS_M_set g_this_tape g_this_above g_this_below g_this_digit g_this_limbs g_this_exact g_this_round g_this_out g_this_body h_this v_size p1 p2 v_exponent v_aboveSize v_belowSize v_state v_digits v_behind v_power v_powerLess v_less v_plainDigits v_sixteen v_limbCount v_length v_point v_roundLength v_roundPoint v_written v_bodySize) := hD
  refine lv_aload_n hx hb d_M_set_10 rfl (lv_at hl 0 rfl) ?_
  refine lv_lload_n hx hb d_M_set_11 rfl (lv_at hl 2 rfl) ?_
  refine lv_lconst (v := 0) hx hb d_M_set_12 (by decide) ?_
  refine W.lcmp hx hb d_M_set_13 ?_
  refine lv_if_ne (tgt := 21) hx hb d_M_set_14 (by decide) (fun c6 => ?_) (fun c6 => ?_)
  · have c6 := fun h9 => c6 ((lg_cmp_eq _ _).mpr h9)
    have h := if_f c6 h
    refine lv_iload hx hb d_M_set_21 (lv_at hl 3 rfl) ?_
    exact s_M_set_23 cx hK hA hX p1 p2 v_exponent p1 p4 H locs ls hP hD hS (lv_sub hl [0, 1] rfl) h
  · have c6 := (lg_cmp_eq _ _).mp c6
    have h := if_t c6 h
    refine lv_iconst (v := 0) hx hb d_M_set_17 (by decide) ?_
    refine lv_goto (tgt := 23) hx hb d_M_set_18 (by decide) ?_
    exact s_M_set_23 cx hK hA hX p1 p2 v_exponent p1 (0 : Int32) H locs ls hP hD hS (lv_sub hl [0, 1] rfl) h
set_option maxHeartbeats 4000000 in
set_option maxRecDepth 100000 in
theorem c_M_set (l : Launch) (dC : Nat → ClassId) (dI : Nat → Nat → Nat) (X : SXT) (g_this_tape : Nat) (g_this_above : Nat) (g_this_below : Nat) (g_this_digit : Nat) (g_this_limbs : Nat) (g_this_exact : Nat) (g_this_round : Nat) (g_this_out : Nat) (g_this_body : Nat) (h_this : Nat) (sz : Nat) (v_size : Int32) (v_kind : Int32) (v_number : Int64) (v_exponent : Int32) (v_aboveSize : Int32) (v_belowSize : Int32) (v_state : Int32) (v_digits : Int32) (v_behind : Int32) (v_power : Int32) (v_powerLess : Int32) (v_less : Int32) (v_plainDigits : Int32) (v_sixteen : Int32) (v_limbCount : Int32) (v_length : Int32) (v_point : Int32) (v_roundLength : Int32) (v_roundPoint : Int32) (v_written : Int32) (v_bodySize : Int32) (p1 : Int32) (p2 : Int64) (p4 : Int32) (res : Int32 × Int32 × Int64 × Int32) (hf : f_M_set v_kind v_number v_exponent p1 p2 p4 = some res) : Met l y_M_set (.code y_M_set b_M_set 5 (some .int) :: w0) ({ frames := 0, cells := 0, slots := 0, locals := 0 }) (va_Pc [.ref h_this, .int p1, .long p2, .int p4] (gP (dC, dI) (WS_M_set g_this_tape g_this_above g_this_below g_this_digit g_this_limbs g_this_exact g_this_round g_this_out g_this_body h_this v_size v_kind v_number v_exponent v_aboveSize v_belowSize v_state v_digits v_behind v_power v_powerLess v_less v_plainDigits v_sixteen v_limbCount v_length v_point v_roundLength v_roundPoint v_written v_bodySize) [] sz X)) (va_Qi (fun (r : Int32) (u : Int32 × Int64 × Int32) => some (r, u) = some res) (gB (dC, dI) [] (va_A (WS_M_set g_this_tape g_this_above g_this_below g_this_digit g_this_limbs g_this_exact g_this_round g_this_out g_this_body h_this v_size v_kind v_number v_exponent v_aboveSize v_belowSize v_state v_digits v_behind v_power v_powerLess v_less v_plainDigits v_sixteen v_limbCount v_length v_point v_roundLength v_roundPoint v_written v_bodySize) sz) (fun (u : Int32 × Int64 × Int32) => (WS_M_set g_this_tape g_this_above g_this_below g_this_digit g_this_limbs g_this_exact g_this_round g_this_out g_this_body h_this v_size u.1 u.2.1 u.2.2 v_aboveSize v_belowSize v_state v_digits v_behind v_power v_powerLess v_less v_plainDigits v_sixteen v_limbCount v_length v_point v_roundLength v_roundPoint v_written v_bodySize))) (va_A (WS_M_set g_this_tape g_this_above g_this_below g_this_digit g_this_limbs g_this_exact g_this_round g_this_out g_this_body h_this v_size v_kind v_number v_exponent v_aboveSize v_belowSize v_state v_digits v_behind v_power v_powerLess v_less v_plainDigits v_sixteen v_limbCount v_length v_point v_roundLength v_roundPoint v_written v_bodySize) sz)) 0 0 (va_A (WS_M_set g_this_tape g_this_above g_this_below g_this_digit g_this_limbs g_this_exact g_this_round g_this_out g_this_body h_this v_size v_kind v_number v_exponent v_aboveSize v_belowSize v_state v_digits v_behind v_power v_powerLess v_less v_plainDigits v_sixteen v_limbCount v_length v_point v_roundLength v_roundPoint v_written v_bodySize) sz) := by
  refine Met.ofW (cc := b_M_set) (maxL := 5) (ret := (some .int)) (by decide) rfl ?_
  intro p e s m args below meth c s₁ B hml hv
  obtain ⟨rfl, hsz, hP, hK, hD0, hX⟩ := hv
  subst hsz
  have cx : cxx p s m ([.ref h_this, .int p1, .long p2, .int p4] : List Value).toArray meth c b_M_set 5 (some .int) R_M := ⟨B.exec, B.bytes, B.returns, hml, findClass_of_methodNamed B.named, fun w9 hw => atoms_spec (ws := .code y_M_set b_M_set 5 (some .int) :: w0) B.pre w9 (List.mem_cons_of_mem _ hw), B.notSynchronized⟩
  have hD := hD0.self (sz := s.heap.size)
  generalize hAe : va_A (WS_M_set g_this_tape g_this_above g_this_below g_this_digit g_this_limbs g_this_exact g_this_round g_this_out g_this_body h_this v_size v_kind v_number v_exponent v_aboveSize v_belowSize v_state v_digits v_behind v_power v_powerLess v_less v_plainDigits v_sixteen v_limbCount v_length v_point v_roundLength v_roundPoint v_written v_bodySize) s.heap.size = A at hD hX ⊢
  have hA : ∀ q : Nat, s.heap.size ≤ q → A q := fun q h => by rw [← hAe]; exact Or.inr h
  have hS : va_S A s.heap s.heap [] := va_S.rf
  have hl := lv_entry ([.ref h_this, .int p1, .long p2, .int p4]) (n := 5) (Nat.le_of_ble_eq_true rfl)
  rw [lg_entry_eq]
  generalize (lg_sl ([.ref h_this, .int p1, .long p2, .int p4]) ++ List.replicate (5 - (lg_sl ([.ref h_this, .int p1, .long p2, .int p4])).length) Slot.unset).toArray = ls at hl ⊢
  have hl : lv_has ls 5 [(0, .ref h_this), (1, .int p1), (2, .long p2), (4, .int p4)] := hl
  exact s_M_set_e cx hK hA hX v_kind v_number v_exponent p1 p2 p4 s.heap [] ls hP hD hS hl hf
abbrev WS_M_nearest (g_this_tape : Nat) (g_this_above : Nat) (g_this_below : Nat) (g_this_digit : Nat) (g_this_limbs : Nat) (g_this_exact : Nat) (g_this_round : Nat) (g_this_out : Nat) (g_this_body : Nat) (h_this : Nat)  (v_size : Int32) (v_kind : Int32) (v_number : Int64) (v_exponent : Int32) (v_aboveSize : Int32) (v_belowSize : Int32) (v_state : Int32) (v_digits : Int32) (v_behind : Int32) (v_power : Int32) (v_powerLess : Int32) (v_less : Int32) (v_plainDigits : Int32) (v_sixteen : Int32) (v_limbCount : Int32) (v_length : Int32) (v_point : Int32) (v_roundLength : Int32) (v_roundPoint : Int32) (v_written : Int32) (v_bodySize : Int32) : va_W := [(h_this, .inr (7, [.ref g_this_tape, .int v_size, .int v_kind, .long v_number, .int v_exponent, .ref g_this_above, .int v_aboveSize, .ref g_this_below, .int v_belowSize, .int v_state, .int v_digits, .ref g_this_digit, .int v_behind, .int v_power, .int v_powerLess, .int v_less, .int v_plainDigits, .int v_sixteen, .ref g_this_limbs, .int v_limbCount, .ref g_this_exact, .int v_length, .int v_point, .ref g_this_round, .int v_roundLength, .int v_roundPoint, .ref g_this_out, .int v_written, .ref g_this_body, .int v_bodySize]))]
def f_M_nearest_216 (v_kind : Int32) (v_number : Int64) (v_exponent : Int32) (y7 : Int32) (y8 : Int32) (z1 : Int32) (z2 : Int64) : Option (Int32 × Int32 × Int64 × Int32) :=
  bi4 (f_M_set v_kind v_number v_exponent z1 z2 (y7 + y8)) fun r1 v2 v3 v4 =>
  some (r1, v2, v3, v4)
def f_M_nearest_201 (v_kind : Int32) (v_number : Int64) (v_exponent : Int32) (y4 : Int32) (y7 : Int32) (y8 : Int32) (y9 : Int64) : Option (Int32 × Int32 × Int64 × Int32) :=
  if y4 = 0 then
    f_M_nearest_216 v_kind v_number v_exponent y7 y8 (2 : Int32) y9
  else
    f_M_nearest_216 v_kind v_number v_exponent y7 y8 (2 : Int32) (-y9)
def f_M_nearest_195 (v_kind : Int32) (v_number : Int64) (v_exponent : Int32) (z1 : Int32) : Option (Int32 × Int32 × Int64 × Int32) :=
  bi4 (f_M_set v_kind v_number v_exponent z1 (0 : Int64) (0 : Int32)) fun r6 v7 v8 v9 =>
  some (r6, v7, v8, v9)
def f_M_nearest_164 (v_kind : Int32) (v_number : Int64) (v_exponent : Int32) (y4 : Int32) (y7 : Int32) (y8 : Int32) (y9 : Int64) : Option (Int32 × Int32 × Int64 × Int32) :=
  if y9 < (4503599627370496 : Int64) then
    f_M_nearest_201 v_kind v_number v_exponent y4 y7 y8 y9
  else
    if (y7 + y8) ≤ (971 : Int32) then
      f_M_nearest_201 v_kind v_number v_exponent y4 y7 y8 y9
    else
      if y4 = 0 then
        f_M_nearest_195 v_kind v_number v_exponent (3 : Int32)
      else
        f_M_nearest_195 v_kind v_number v_exponent (4 : Int32)
def f_M_nearest_147 (v_kind : Int32) (v_number : Int64) (v_exponent : Int32) (y4 : Int32) (y7 : Int32) (y8 : Int32) (y9 : Int64) : Option (Int32 × Int32 × Int64 × Int32) :=
  if y9 = (9007199254740992 : Int64) then
    bd (y8 + (1 : Int32)) fun x14 =>
    f_M_nearest_164 v_kind v_number v_exponent y4 y7 x14 (4503599627370496 : Int64)
  else
    f_M_nearest_164 v_kind v_number v_exponent y4 y7 y8 y9
def f_M_nearest_144 (v_kind : Int32) (v_number : Int64) (v_exponent : Int32) (y4 : Int32) (y7 : Int32) (y8 : Int32) (z0 : Int64) (z1 : Int64) : Option (Int32 × Int32 × Int64 × Int32) :=
  bd (z0 + z1) fun x15 =>
  f_M_nearest_147 v_kind v_number v_exponent y4 y7 y8 x15
def f_M_nearest_143 (v_kind : Int32) (v_number : Int64) (v_exponent : Int32) (y4 : Int32) (y7 : Int32) (y8 : Int32) (z0 : Int64) : Option (Int32 × Int32 × Int64 × Int32) :=
  f_M_nearest_144 v_kind v_number v_exponent y4 y7 y8 z0 (0 : Int64)
def f_M_nearest_139 (v_kind : Int32) (v_number : Int64) (v_exponent : Int32) (y4 : Int32) (y7 : Int32) (y8 : Int32) (z0 : Int64) : Option (Int32 × Int32 × Int64 × Int32) :=
  f_M_nearest_144 v_kind v_number v_exponent y4 y7 y8 z0 (1 : Int64)
def f_M_nearest_83 (v_kind : Int32) (v_number : Int64) (v_exponent : Int32) (y4 : Int32) (y5 : Int64) (y7 : Int32) (y8 : Int32) (z0 : Int64) : Option (Int32 × Int32 × Int64 × Int32) :=
  if (62 : Int32) < y8 then
    f_M_nearest_147 v_kind v_number v_exponent y4 y7 y8 z0
  else
    bd (y5 - (lsl z0 y8)) fun x17 =>
    bd (lsl (1 : Int64) (y8 - (1 : Int32))) fun x18 =>
    if x18 < x17 then
      f_M_nearest_139 v_kind v_number v_exponent y4 y7 y8 z0
    else
      if x17 = x18 then
        if (lrm z0 (2 : Int64)) = (1 : Int64) then
          f_M_nearest_139 v_kind v_number v_exponent y4 y7 y8 z0
        else
          f_M_nearest_143 v_kind v_number v_exponent y4 y7 y8 z0
      else
        f_M_nearest_143 v_kind v_number v_exponent y4 y7 y8 z0
def f_M_nearest_65 (v_kind : Int32) (v_number : Int64) (v_exponent : Int32) (y4 : Int32) (y5 : Int64) (y7 : Int32) (z0 : Int32) : Option (Int32 × Int32 × Int64 × Int32) :=
  if z0 ≤ (62 : Int32) then
    f_M_nearest_83 v_kind v_number v_exponent y4 y5 y7 z0 (lsr y5 z0)
  else
    f_M_nearest_83 v_kind v_number v_exponent y4 y5 y7 z0 (0 : Int64)
def f_M_nearest_43 (v_kind : Int32) (v_number : Int64) (v_exponent : Int32) (y4 : Int32) (y5 : Int64) (y7 : Int32) : Option (Int32 × Int32 × Int64 × Int32) :=
  if (y7 + (9 : Int32)) < (-1074 : Int32) then
    f_M_nearest_65 v_kind v_number v_exponent y4 y5 y7 ((-1074 : Int32) - y7)
  else
    f_M_nearest_65 v_kind v_number v_exponent y4 y5 y7 (9 : Int32)
def f_M_nearest_20b (k20 : Int32 → Int64 → Int32 → Int32 → Int64 → Int32 → Option (Int32 × Int32 × Int64 × Int32)) (v_kind : Int32) (v_number : Int64) (v_exponent : Int32) (y4 : Int32) (y5 : Int64) (y7 : Int32) : Option (Int32 × Int32 × Int64 × Int32) :=
  if (2305843009213693952 : Int64) ≤ y5 then
    f_M_nearest_43 v_kind v_number v_exponent y4 y5 y7
  else
    bd ((2 : Int64) * y5) fun x25 =>
    bd (y7 + (-1 : Int32)) fun x26 =>
    k20 v_kind v_number v_exponent y4 x25 x26
def f_M_nearest_20 : Nat → Int32 → Int64 → Int32 → Int32 → Int64 → Int32 → Option (Int32 × Int32 × Int64 × Int32)
  | 0 => fun _ _ _ _ _ _ => none
  | n + 1 => fun v_kind v_number v_exponent y4 y5 y7 => f_M_nearest_20b (f_M_nearest_20 n) v_kind v_number v_exponent y4 y5 y7
def f_M_nearest (v_kind : Int32) (v_number : Int64) (v_exponent : Int32) (p1 : Int64) (p3 : Int32) (p4 : Int32) : Option (Int32 × Int32 × Int64 × Int32) :=
  if p1 = (0 : Int64) then
    bi4 (f_M_set v_kind v_number v_exponent (2 : Int32) (0 : Int64) (0 : Int32)) fun r28 v29 v30 v31 =>
    some (r28, v29, v30, v31)
  else
    f_M_nearest_20 fu v_kind v_number v_exponent p4 p1 p3
set_option maxHeartbeats 4000000 in
set_option maxRecDepth 100000 in
theorem s_M_nearest_216 {p : Program} {l : Launch} {e : Env} {s : State} {m : MethodId} {args : Array Value} {below : List Frame} {meth : Method} {c : Code} {dC : Nat → ClassId} {dI : Nat → Nat → Nat} {A : Nat → Prop} {X : SXT} {g_this_tape : Nat} {g_this_above : Nat} {g_this_below : Nat} {g_this_digit : Nat} {g_this_limbs : Nat} {g_this_exact : Nat} {g_this_round : Nat} {g_this_out : Nat} {g_this_body : Nat} {h_this : Nat} {v_size : Int32} {v_aboveSize : Int32} {v_belowSize : Int32} {v_state : Int32} {v_digits : Int32} {v_behind : Int32} {v_power : Int32} {v_powerLess : Int32} {v_less : Int32} {v_plainDigits : Int32} {v_sixteen : Int32} {v_limbCount : Int32} {v_length : Int32} {v_point : Int32} {v_roundLength : Int32} {v_roundPoint : Int32} {v_written : Int32} {v_bodySize : Int32} {res : Int32 × Int32 × Int64 × Int32}  (cx : cxx p s m args meth c b_M_nearest 15 (some .int) R_M) (hK : va_K (dC, dI) classes [] s) (hA : ∀ q, s.heap.size ≤ q → A q) (hX : SX X A s s.heap)  : ∀ (v_kind : Int32) (v_number : Int64) (v_exponent : Int32) (y7 : Int32) (y8 : Int32) (z1 : Int32) (z2 : Int64) (H : Heap) (locs : List Loc) (ls : Array Slot), va_P (dC, dI) classes (WS_M_nearest g_this_tape g_this_above g_this_below g_this_digit g_this_limbs g_this_exact g_this_round g_this_out g_this_body h_this v_size v_kind v_number v_exponent v_aboveSize v_belowSize v_state v_digits v_behind v_power v_powerLess v_less v_plainDigits v_sixteen v_limbCount v_length v_point v_roundLength v_roundPoint v_written v_bodySize) H → va_D A (WS_M_nearest g_this_tape g_this_above g_this_below g_this_digit g_this_limbs g_this_exact g_this_round g_this_out g_this_body h_this v_size v_kind v_number v_exponent v_aboveSize v_belowSize v_state v_digits v_behind v_power v_powerLess v_less v_plainDigits v_sixteen v_limbCount v_length v_point v_roundLength v_roundPoint v_written v_bodySize) → va_S A s.heap H locs → lv_has ls 15 [(0, .ref h_this), (7, .int y7), (8, .int y8)] → f_M_nearest_216 v_kind v_number v_exponent y7 y8 z1 z2 = some res → W p l e ({ frames := 1, cells := 0, slots := 0, locals := 24 }) s m args below meth c H locs 0 0 (MQ below (va_Qi (fun (r : Int32) (u : Int32 × Int64 × Int32) => some (r, u) = some res) (gB (dC, dI) [] A (fun (u : Int32 × Int64 × Int32) => (WS_M_nearest g_this_tape g_this_above g_this_below g_this_digit g_this_limbs g_this_exact g_this_round g_this_out g_this_body h_this v_size u.1 u.2.1 u.2.2 v_aboveSize v_belowSize v_state v_digits v_behind v_power v_powerLess v_less v_plainDigits v_sixteen v_limbCount v_length v_point v_roundLength v_roundPoint v_written v_bodySize))) A) args s 0 0 A) (F0 m 216 ls [.long z2, .int z1, .ref h_this]) := by
  intro v_kind v_number v_exponent y7 y8 z1 z2 H locs ls hP hD hS hl h
  obtain ⟨hx, hb, hr, hml, hown, ht, hlk⟩ := id cx
  refine lv_iload hx hb d_M_nearest_216 (lv_at hl 1 rfl) ?_
  refine lv_iload hx hb d_M_nearest_218 (lv_at hl 2 rfl) ?_
  refine lv_iadd hx hb d_M_nearest_220 ?_
  obtain ⟨r1, v2, v3, v4, hf, h⟩ := bi4_x h
  refine clVi (D := (dC, dI)) (n := 3) (As := [.int z1, .long z2, .int (y7 + y8)]) ⟨hx, hb, hml, hown, ht⟩ (c_M_set l dC dI X g_this_tape g_this_above g_this_below g_this_digit g_this_limbs g_this_exact g_this_round g_this_out g_this_body h_this H.size v_size v_kind v_number v_exponent v_aboveSize v_belowSize v_state v_digits v_behind v_power v_powerLess v_less v_plainDigits v_sixteen v_limbCount v_length v_point v_roundLength v_roundPoint v_written v_bodySize z1 z2 (y7 + y8) (r1, v2, v3, v4) hf) (gV q_487 q_488 q_489 q_490 q_491) (by decide +kernel) ⟨rfl, rfl, Nat.le_of_ble_eq_true rfl, Nat.le_of_ble_eq_true rfl⟩ hK hP hD hS hA hX [0] [] [] rfl (wr := []) rfl (by decide) (by decide) (by decide) rfl (va_recv hK hP (ci := 7) (q0 := 0) rfl rfl) rfl hl.1 rfl (lv_room (Nat.le_of_ble_eq_true rfl)) d_M_nearest_221 ⟨Nat.zero_le _, Nat.zero_le _⟩ (fun r9 u9 H locs h9 hP hD hS => ?_)
  cases h9
  have hP : va_P (dC, dI) classes (WS_M_nearest g_this_tape g_this_above g_this_below g_this_digit g_this_limbs g_this_exact g_this_round g_this_out g_this_body h_this v_size v2 v3 v4 v_aboveSize v_belowSize v_state v_digits v_behind v_power v_powerLess v_less v_plainDigits v_sixteen v_limbCount v_length v_point v_roundLength v_roundPoint v_written v_bodySize) H := hP.sub [0] rfl
  have hD : va_D A (WS_M_nearest g_this_tape g_this_above g_this_below g_this_digit g_this_limbs g_this_exact g_this_round g_this_out g_this_body h_this v_size v2 v3 v4 v_aboveSize v_belowSize v_state v_digits v_behind v_power v_powerLess v_less v_plainDigits v_sixteen v_limbCount v_length v_point v_roundLength v_roundPoint v_written v_bodySize) := hD.sub [0] (by decide) rfl
  exact W.iret (v := r1) hx hb hr (fun t ht9 hW => ⟨⟨r1, (v2, v3, v4), rfl, h, by rw [ht9]; exact hP, va_K.moved hW.alike hK, hD⟩, hS.F ht9⟩) hS.2.2 d_M_nearest_224 hlk
set_option maxHeartbeats 4000000 in
set_option maxRecDepth 100000 in
theorem s_M_nearest_201 {p : Program} {l : Launch} {e : Env} {s : State} {m : MethodId} {args : Array Value} {below : List Frame} {meth : Method} {c : Code} {dC : Nat → ClassId} {dI : Nat → Nat → Nat} {A : Nat → Prop} {X : SXT} {g_this_tape : Nat} {g_this_above : Nat} {g_this_below : Nat} {g_this_digit : Nat} {g_this_limbs : Nat} {g_this_exact : Nat} {g_this_round : Nat} {g_this_out : Nat} {g_this_body : Nat} {h_this : Nat} {v_size : Int32} {v_aboveSize : Int32} {v_belowSize : Int32} {v_state : Int32} {v_digits : Int32} {v_behind : Int32} {v_power : Int32} {v_powerLess : Int32} {v_less : Int32} {v_plainDigits : Int32} {v_sixteen : Int32} {v_limbCount : Int32} {v_length : Int32} {v_point : Int32} {v_roundLength : Int32} {v_roundPoint : Int32} {v_written : Int32} {v_bodySize : Int32} {res : Int32 × Int32 × Int64 × Int32}  (cx : cxx p s m args meth c b_M_nearest 15 (some .int) R_M) (hK : va_K (dC, dI) classes [] s) (hA : ∀ q, s.heap.size ≤ q → A q) (hX : SX X A s s.heap)  : ∀ (v_kind : Int32) (v_number : Int64) (v_exponent : Int32) (y4 : Int32) (y7 : Int32) (y8 : Int32) (y9 : Int64) (H : Heap) (locs : List Loc) (ls : Array Slot), va_P (dC, dI) classes (WS_M_nearest g_this_tape g_this_above g_this_below g_this_digit g_this_limbs g_this_exact g_this_round g_this_out g_this_body h_this v_size v_kind v_number v_exponent v_aboveSize v_belowSize v_state v_digits v_behind v_power v_powerLess v_less v_plainDigits v_sixteen v_limbCount v_length v_point v_roundLength v_roundPoint v_written v_bodySize) H → va_D A (WS_M_nearest g_this_tape g_this_above g_this_below g_this_digit g_this_limbs g_this_exact g_this_round g_this_out g_this_body h_this v_size v_kind v_number v_exponent v_aboveSize v_belowSize v_state v_digits v_behind v_power v_powerLess v_less v_plainDigits v_sixteen v_limbCount v_length v_point v_roundLength v_roundPoint v_written v_bodySize) → va_S A s.heap H locs → lv_has ls 15 [(0, .ref h_this), (4, .int y4), (7, .int y7), (8, .int y8), (9, .long y9)] → f_M_nearest_201 v_kind v_number v_exponent y4 y7 y8 y9 = some res → W p l e ({ frames := 1, cells := 0, slots := 0, locals := 24 }) s m args below meth c H locs 0 0 (MQ below (va_Qi (fun (r : Int32) (u : Int32 × Int64 × Int32) => some (r, u) = some res) (gB (dC, dI) [] A (fun (u : Int32 × Int64 × Int32) => (WS_M_nearest g_this_tape g_this_above g_this_below g_this_digit g_this_limbs g_this_exact g_this_round g_this_out g_this_body h_this v_size u.1 u.2.1 u.2.2 v_aboveSize v_belowSize v_state v_digits v_behind v_power v_powerLess v_less v_plainDigits v_sixteen v_limbCount v_length v_point v_roundLength v_roundPoint v_written v_bodySize))) A) args s 0 0 A) (F0 m 201 ls []) := by
  intro v_kind v_number v_exponent y4 y7 y8 y9 H locs ls hP hD hS hl h
  obtain ⟨hx, hb, hr, hml, hown, ht, hlk⟩ := id cx
  refine lv_aload_n hx hb d_M_nearest_201 rfl (lv_at hl 0 rfl) ?_
  refine lv_iconst (v := 2) hx hb d_M_nearest_202 (by decide) ?_
  refine lv_iload hx hb d_M_nearest_203 (lv_at hl 1 rfl) ?_
  refine lv_if_eq (tgt := 214) hx hb d_M_nearest_205 (by decide) (fun c5 => ?_) (fun c5 => ?_)
  · have h := if_t c5 h
    refine lv_lload hx hb d_M_nearest_214 (lv_at hl 4 rfl) ?_
    exact s_M_nearest_216 cx hK hA hX v_kind v_number v_exponent y7 y8 (2 : Int32) y9 H locs ls hP hD hS (lv_sub hl [0, 2, 3] rfl) h
  · have h := if_f c5 h
    refine lv_lload hx hb d_M_nearest_208 (lv_at hl 4 rfl) ?_
    refine lv_lneg hx hb d_M_nearest_210 ?_
    refine lv_goto (tgt := 216) hx hb d_M_nearest_211 (by decide) ?_
    exact s_M_nearest_216 cx hK hA hX v_kind v_number v_exponent y7 y8 (2 : Int32) (-y9) H locs ls hP hD hS (lv_sub hl [0, 2, 3] rfl) h
set_option maxHeartbeats 4000000 in
set_option maxRecDepth 100000 in
theorem s_M_nearest_195 {p : Program} {l : Launch} {e : Env} {s : State} {m : MethodId} {args : Array Value} {below : List Frame} {meth : Method} {c : Code} {dC : Nat → ClassId} {dI : Nat → Nat → Nat} {A : Nat → Prop} {X : SXT} {g_this_tape : Nat} {g_this_above : Nat} {g_this_below : Nat} {g_this_digit : Nat} {g_this_limbs : Nat} {g_this_exact : Nat} {g_this_round : Nat} {g_this_out : Nat} {g_this_body : Nat} {h_this : Nat} {v_size : Int32} {v_aboveSize : Int32} {v_belowSize : Int32} {v_state : Int32} {v_digits : Int32} {v_behind : Int32} {v_power : Int32} {v_powerLess : Int32} {v_less : Int32} {v_plainDigits : Int32} {v_sixteen : Int32} {v_limbCount : Int32} {v_length : Int32} {v_point : Int32} {v_roundLength : Int32} {v_roundPoint : Int32} {v_written : Int32} {v_bodySize : Int32} {res : Int32 × Int32 × Int64 × Int32}  (cx : cxx p s m args meth c b_M_nearest 15 (some .int) R_M) (hK : va_K (dC, dI) classes [] s) (hA : ∀ q, s.heap.size ≤ q → A q) (hX : SX X A s s.heap)  : ∀ (v_kind : Int32) (v_number : Int64) (v_exponent : Int32) (z1 : Int32) (H : Heap) (locs : List Loc) (ls : Array Slot), va_P (dC, dI) classes (WS_M_nearest g_this_tape g_this_above g_this_below g_this_digit g_this_limbs g_this_exact g_this_round g_this_out g_this_body h_this v_size v_kind v_number v_exponent v_aboveSize v_belowSize v_state v_digits v_behind v_power v_powerLess v_less v_plainDigits v_sixteen v_limbCount v_length v_point v_roundLength v_roundPoint v_written v_bodySize) H → va_D A (WS_M_nearest g_this_tape g_this_above g_this_below g_this_digit g_this_limbs g_this_exact g_this_round g_this_out g_this_body h_this v_size v_kind v_number v_exponent v_aboveSize v_belowSize v_state v_digits v_behind v_power v_powerLess v_less v_plainDigits v_sixteen v_limbCount v_length v_point v_roundLength v_roundPoint v_written v_bodySize) → va_S A s.heap H locs → lv_has ls 15 [(0, .ref h_this)] → f_M_nearest_195 v_kind v_number v_exponent z1 = some res → W p l e ({ frames := 1, cells := 0, slots := 0, locals := 24 }) s m args below meth c H locs 0 0 (MQ below (va_Qi (fun (r : Int32) (u : Int32 × Int64 × Int32) => some (r, u) = some res) (gB (dC, dI) [] A (fun (u : Int32 × Int64 × Int32) => (WS_M_nearest g_this_tape g_this_above g_this_below g_this_digit g_this_limbs g_this_exact g_this_round g_this_out g_this_body h_this v_size u.1 u.2.1 u.2.2 v_aboveSize v_belowSize v_state v_digits v_behind v_power v_powerLess v_less v_plainDigits v_sixteen v_limbCount v_length v_point v_roundLength v_roundPoint v_written v_bodySize))) A) args s 0 0 A) (F0 m 195 ls [.int z1, .ref h_this]) := by
  intro v_kind v_number v_exponent z1 H locs ls hP hD hS hl h
  obtain ⟨hx, hb, hr, hml, hown, ht, hlk⟩ := id cx
  refine lv_lconst (v := 0) hx hb d_M_nearest_195 (by decide) ?_
  refine lv_iconst (v := 0) hx hb d_M_nearest_196 (by decide) ?_
  obtain ⟨r6, v7, v8, v9, hf, h⟩ := bi4_x h
  refine clVi (D := (dC, dI)) (n := 3) (As := [.int z1, .long (0 : Int64), .int (0 : Int32)]) ⟨hx, hb, hml, hown, ht⟩ (c_M_set l dC dI X g_this_tape g_this_above g_this_below g_this_digit g_this_limbs g_this_exact g_this_round g_this_out g_this_body h_this H.size v_size v_kind v_number v_exponent v_aboveSize v_belowSize v_state v_digits v_behind v_power v_powerLess v_less v_plainDigits v_sixteen v_limbCount v_length v_point v_roundLength v_roundPoint v_written v_bodySize z1 (0 : Int64) (0 : Int32) (r6, v7, v8, v9) hf) (gV q_487 q_488 q_489 q_490 q_491) (by decide +kernel) ⟨rfl, rfl, Nat.le_of_ble_eq_true rfl, Nat.le_of_ble_eq_true rfl⟩ hK hP hD hS hA hX [0] [] [] rfl (wr := []) rfl (by decide) (by decide) (by decide) rfl (va_recv hK hP (ci := 7) (q0 := 0) rfl rfl) rfl hl.1 rfl (lv_room (Nat.le_of_ble_eq_true rfl)) d_M_nearest_197 ⟨Nat.zero_le _, Nat.zero_le _⟩ (fun r9 u9 H locs h9 hP hD hS => ?_)
  cases h9
  have hP : va_P (dC, dI) classes (WS_M_nearest g_this_tape g_this_above g_this_below g_this_digit g_this_limbs g_this_exact g_this_round g_this_out g_this_body h_this v_size v7 v8 v9 v_aboveSize v_belowSize v_state v_digits v_behind v_power v_powerLess v_less v_plainDigits v_sixteen v_limbCount v_length v_point v_roundLength v_roundPoint v_written v_bodySize) H := hP.sub [0] rfl
  have hD : va_D A (WS_M_nearest g_this_tape g_this_above g_this_below g_this_digit g_this_limbs g_this_exact g_this_round g_this_out g_this_body h_this v_size v7 v8 v9 v_aboveSize v_belowSize v_state v_digits v_behind v_power v_powerLess v_less v_plainDigits v_sixteen v_limbCount v_length v_point v_roundLength v_roundPoint v_written v_bodySize) := hD.sub [0] (by decide) rfl
  exact W.iret (v := r6) hx hb hr (fun t ht9 hW => ⟨⟨r6, (v7, v8, v9), rfl, h, by rw [ht9]; exact hP, va_K.moved hW.alike hK, hD⟩, hS.F ht9⟩) hS.2.2 d_M_nearest_200 hlk
set_option maxHeartbeats 4000000 in
set_option maxRecDepth 100000 in
theorem s_M_nearest_164 {p : Program} {l : Launch} {e : Env} {s : State} {m : MethodId} {args : Array Value} {below : List Frame} {meth : Method} {c : Code} {dC : Nat → ClassId} {dI : Nat → Nat → Nat} {A : Nat → Prop} {X : SXT} {g_this_tape : Nat} {g_this_above : Nat} {g_this_below : Nat} {g_this_digit : Nat} {g_this_limbs : Nat} {g_this_exact : Nat} {g_this_round : Nat} {g_this_out : Nat} {g_this_body : Nat} {h_this : Nat} {v_size : Int32} {v_aboveSize : Int32} {v_belowSize : Int32} {v_state : Int32} {v_digits : Int32} {v_behind : Int32} {v_power : Int32} {v_powerLess : Int32} {v_less : Int32} {v_plainDigits : Int32} {v_sixteen : Int32} {v_limbCount : Int32} {v_length : Int32} {v_point : Int32} {v_roundLength : Int32} {v_roundPoint : Int32} {v_written : Int32} {v_bodySize : Int32} {res : Int32 × Int32 × Int64 × Int32}  (cx : cxx p s m args meth c b_M_nearest 15 (some .int) R_M) (hK : va_K (dC, dI) classes [] s) (hA : ∀ q, s.heap.size ≤ q → A q) (hX : SX X A s s.heap)  : ∀ (v_kind : Int32) (v_number : Int64) (v_exponent : Int32) (y4 : Int32) (y7 : Int32) (y8 : Int32) (y9 : Int64) (H : Heap) (locs : List Loc) (ls : Array Slot), va_P (dC, dI) classes (WS_M_nearest g_this_tape g_this_above g_this_below g_this_digit g_this_limbs g_this_exact g_this_round g_this_out g_this_body h_this v_size v_kind v_number v_exponent v_aboveSize v_belowSize v_state v_digits v_behind v_power v_powerLess v_less v_plainDigits v_sixteen v_limbCount v_length v_point v_roundLength v_roundPoint v_written v_bodySize) H → va_D A (WS_M_nearest g_this_tape g_this_above g_this_below g_this_digit g_this_limbs g_this_exact g_this_round g_this_out g_this_body h_this v_size v_kind v_number v_exponent v_aboveSize v_belowSize v_state v_digits v_behind v_power v_powerLess v_less v_plainDigits v_sixteen v_limbCount v_length v_point v_roundLength v_roundPoint v_written v_bodySize) → va_S A s.heap H locs → lv_has ls 15 [(0, .ref h_this), (4, .int y4), (7, .int y7), (8, .int y8), (9, .long y9)] → f_M_nearest_164 v_kind v_number v_exponent y4 y7 y8 y9 = some res → W p l e ({ frames := 1, cells := 0, slots := 0, locals := 24 }) s m args below meth c H locs 0 0 (MQ below (va_Qi (fun (r : Int32) (u : Int32 × Int64 × Int32) => some (r, u) = some res) (gB (dC, dI) [] A (fun (u : Int32 × Int64 × Int32) => (WS_M_nearest g_this_tape g_this_above g_this_below g_this_digit g_this_limbs g_this_exact g_this_round g_this_out g_this_body h_this v_size u.1 u.2.1 u.2.2 v_aboveSize v_belowSize v_state v_digits v_behind v_power v_powerLess v_less v_plainDigits v_sixteen v_limbCount v_length v_point v_roundLength v_roundPoint v_written v_bodySize))) A) args s 0 0 A) (F0 m 164 ls []) := by
  intro v_kind v_number v_exponent y4 y7 y8 y9 H locs ls hP hD hS hl h
  obtain ⟨hx, hb, hr, hml, hown, ht, hlk⟩ := id cx
  refine lv_lload hx hb d_M_nearest_164 (lv_at hl 4 rfl) ?_
  refine lv_ldc2 (v := 4503599627370496) hx hb hown (ht _ q_492) d_M_nearest_166 ?_
  refine W.lcmp hx hb d_M_nearest_169 ?_
  refine lv_if_lt (tgt := 201) hx hb d_M_nearest_170 (by decide) (fun c10 => ?_) (fun c10 => ?_)
  · have c10 := (lg_cmp_lt _ _).mp c10
    have h := if_t c10 h
    exact s_M_nearest_201 cx hK hA hX v_kind v_number v_exponent y4 y7 y8 y9 H locs ls hP hD hS (lv_sub hl [0, 1, 2, 3, 4] rfl) h
  · have c10 := fun h9 => c10 ((lg_cmp_lt _ _).mpr h9)
    have h := if_f c10 h
    refine lv_iload hx hb d_M_nearest_173 (lv_at hl 2 rfl) ?_
    refine lv_iload hx hb d_M_nearest_175 (lv_at hl 3 rfl) ?_
    refine lv_iadd hx hb d_M_nearest_177 ?_
    refine lv_sipush (v := 971) hx hb d_M_nearest_178 (by decide) ?_
    refine lv_icmp_le (tgt := 201) hx hb d_M_nearest_181 (by decide) (fun c11 => ?_) (fun c11 => ?_)
    · have h := if_t c11 h
      exact s_M_nearest_201 cx hK hA hX v_kind v_number v_exponent y4 y7 y8 y9 H locs ls hP hD hS (lv_sub hl [0, 1, 2, 3, 4] rfl) h
    · have h := if_f c11 h
      refine lv_aload_n hx hb d_M_nearest_184 rfl (lv_at hl 0 rfl) ?_
      refine lv_iload hx hb d_M_nearest_185 (lv_at hl 1 rfl) ?_
      refine lv_if_eq (tgt := 194) hx hb d_M_nearest_187 (by decide) (fun c12 => ?_) (fun c12 => ?_)
      · have h := if_t c12 h
        refine lv_iconst (v := 3) hx hb d_M_nearest_194 (by decide) ?_
        exact s_M_nearest_195 cx hK hA hX v_kind v_number v_exponent (3 : Int32) H locs ls hP hD hS (lv_sub hl [0] rfl) h
      · have h := if_f c12 h
        refine lv_iconst (v := 4) hx hb d_M_nearest_190 (by decide) ?_
        refine lv_goto (tgt := 195) hx hb d_M_nearest_191 (by decide) ?_
        exact s_M_nearest_195 cx hK hA hX v_kind v_number v_exponent (4 : Int32) H locs ls hP hD hS (lv_sub hl [0] rfl) h
set_option maxHeartbeats 4000000 in
set_option maxRecDepth 100000 in
theorem s_M_nearest_147 {p : Program} {l : Launch} {e : Env} {s : State} {m : MethodId} {args : Array Value} {below : List Frame} {meth : Method} {c : Code} {dC : Nat → ClassId} {dI : Nat → Nat → Nat} {A : Nat → Prop} {X : SXT} {g_this_tape : Nat} {g_this_above : Nat} {g_this_below : Nat} {g_this_digit : Nat} {g_this_limbs : Nat} {g_this_exact : Nat} {g_this_round : Nat} {g_this_out : Nat} {g_this_body : Nat} {h_this : Nat} {v_size : Int32} {v_aboveSize : Int32} {v_belowSize : Int32} {v_state : Int32} {v_digits : Int32} {v_behind : Int32} {v_power : Int32} {v_powerLess : Int32} {v_less : Int32} {v_plainDigits : Int32} {v_sixteen : Int32} {v_limbCount : Int32} {v_length : Int32} {v_point : Int32} {v_roundLength : Int32} {v_roundPoint : Int32} {v_written : Int32} {v_bodySize : Int32} {res : Int32 × Int32 × Int64 × Int32}  (cx : cxx p s m args meth c b_M_nearest 15 (some .int) R_M) (hK : va_K (dC, dI) classes [] s) (hA : ∀ q, s.heap.size ≤ q → A q) (hX : SX X A s s.heap)  : ∀ (v_kind : Int32) (v_number : Int64) (v_exponent : Int32) (y4 : Int32) (y7 : Int32) (y8 : Int32) (y9 : Int64) (H : Heap) (locs : List Loc) (ls : Array Slot), va_P (dC, dI) classes (WS_M_nearest g_this_tape g_this_above g_this_below g_this_digit g_this_limbs g_this_exact g_this_round g_this_out g_this_body h_this v_size v_kind v_number v_exponent v_aboveSize v_belowSize v_state v_digits v_behind v_power v_powerLess v_less v_plainDigits v_sixteen v_limbCount v_length v_point v_roundLength v_roundPoint v_written v_bodySize) H → va_D A (WS_M_nearest g_this_tape g_this_above g_this_below g_this_digit g_this_limbs g_this_exact g_this_round g_this_out g_this_body h_this v_size v_kind v_number v_exponent v_aboveSize v_belowSize v_state v_digits v_behind v_power v_powerLess v_less v_plainDigits v_sixteen v_limbCount v_length v_point v_roundLength v_roundPoint v_written v_bodySize) → va_S A s.heap H locs → lv_has ls 15 [(0, .ref h_this), (4, .int y4), (7, .int y7), (8, .int y8), (9, .long y9)] → f_M_nearest_147 v_kind v_number v_exponent y4 y7 y8 y9 = some res → W p l e ({ frames := 1, cells := 0, slots := 0, locals := 24 }) s m args below meth c H locs 0 0 (MQ below (va_Qi (fun (r : Int32) (u : Int32 × Int64 × Int32) => some (r, u) = some res) (gB (dC, dI) [] A (fun (u : Int32 × Int64 × Int32) => (WS_M_nearest g_this_tape g_this_above g_this_below g_this_digit g_this_limbs g_this_exact g_this_round g_this_out g_this_body h_this v_size u.1 u.2.1 u.2.2 v_aboveSize v_belowSize v_state v_digits v_behind v_power v_powerLess v_less v_plainDigits v_sixteen v_limbCount v_length v_point v_roundLength v_roundPoint v_written v_bodySize))) A) args s 0 0 A) (F0 m 147 ls []) := by
  intro v_kind v_number v_exponent y4 y7 y8 y9 H locs ls hP hD hS hl h
  obtain ⟨hx, hb, hr, hml, hown, ht, hlk⟩ := id cx
  refine lv_lload hx hb d_M_nearest_147 (lv_at hl 4 rfl) ?_
  refine lv_ldc2 (v := 9007199254740992) hx hb hown (ht _ q_493) d_M_nearest_149 ?_
  refine W.lcmp hx hb d_M_nearest_152 ?_
  refine lv_if_ne (tgt := 164) hx hb d_M_nearest_153 (by decide) (fun c13 => ?_) (fun c13 => ?_)
  · have c13 := fun h9 => c13 ((lg_cmp_eq _ _).mpr h9)
    have h := if_f c13 h
    exact s_M_nearest_164 cx hK hA hX v_kind v_number v_exponent y4 y7 y8 y9 H locs ls hP hD hS (lv_sub hl [0, 1, 2, 3, 4] rfl) h
  · have c13 := (lg_cmp_eq _ _).mp c13
    have h := if_t c13 h
    refine lv_ldc2 (v := 4503599627370496) hx hb hown (ht _ q_492) d_M_nearest_156 ?_
    refine lv_lstore (lv' := [(9, .long (4503599627370496 : Int64)), (0, .ref h_this), (4, .int y4), (7, .int y7), (8, .int y8)]) hx hb d_M_nearest_159 hl (by decide) rfl (fun ls hl => ?_)
    obtain ⟨x14, e_x14⟩ : ∃ y : Int32, y = y8 + (1 : Int32) := ⟨_, rfl⟩
    refine lv_iinc (v := x14) (lv' := [(8, .int x14), (9, .long (4503599627370496 : Int64)), (0, .ref h_this), (4, .int y4), (7, .int y7)]) hx hb d_M_nearest_161 hl (k := 4) rfl (by rw [e_x14]; rfl) (by decide) rfl (fun ls hl => ?_)
    have h := bd_g e_x14 h
    exact s_M_nearest_164 cx hK hA hX v_kind v_number v_exponent y4 y7 x14 (4503599627370496 : Int64) H locs ls hP hD hS (lv_sub hl [2, 3, 4, 0, 1] rfl) h
set_option maxHeartbeats 4000000 in
set_option maxRecDepth 100000 in
theorem s_M_nearest_144 {p : Program} {l : Launch} {e : Env} {s : State} {m : MethodId} {args : Array Value} {below : List Frame} {meth : Method} {c : Code} {dC : Nat → ClassId} {dI : Nat → Nat → Nat} {A : Nat → Prop} {X : SXT} {g_this_tape : Nat} {g_this_above : Nat} {g_this_below : Nat} {g_this_digit : Nat} {g_this_limbs : Nat} {g_this_exact : Nat} {g_this_round : Nat} {g_this_out : Nat} {g_this_body : Nat} {h_this : Nat} {v_size : Int32} {v_aboveSize : Int32} {v_belowSize : Int32} {v_state : Int32} {v_digits : Int32} {v_behind : Int32} {v_power : Int32} {v_powerLess : Int32} {v_less : Int32} {v_plainDigits : Int32} {v_sixteen : Int32} {v_limbCount : Int32} {v_length : Int32} {v_point : Int32} {v_roundLength : Int32} {v_roundPoint : Int32} {v_written : Int32} {v_bodySize : Int32} {res : Int32 × Int32 × Int64 × Int32}  (cx : cxx p s m args meth c b_M_nearest 15 (some .int) R_M) (hK : va_K (dC, dI) classes [] s) (hA : ∀ q, s.heap.size ≤ q → A q) (hX : SX X A s s.heap)  : ∀ (v_kind : Int32) (v_number : Int64) (v_exponent : Int32) (y4 : Int32) (y7 : Int32) (y8 : Int32) (z0 : Int64) (z1 : Int64) (H : Heap) (locs : List Loc) (ls : Array Slot), va_P (dC, dI) classes (WS_M_nearest g_this_tape g_this_above g_this_below g_this_digit g_this_limbs g_this_exact g_this_round g_this_out g_this_body h_this v_size v_kind v_number v_exponent v_aboveSize v_belowSize v_state v_digits v_behind v_power v_powerLess v_less v_plainDigits v_sixteen v_limbCount v_length v_point v_roundLength v_roundPoint v_written v_bodySize) H → va_D A (WS_M_nearest g_this_tape g_this_above g_this_below g_this_digit g_this_limbs g_this_exact g_this_round g_this_out g_this_body h_this v_size v_kind v_number v_exponent v_aboveSize v_belowSize v_state v_digits v_behind v_power v_powerLess v_less v_plainDigits v_sixteen v_limbCount v_length v_point v_roundLength v_roundPoint v_written v_bodySize) → va_S A s.heap H locs → lv_has ls 15 [(0, .ref h_this), (4, .int y4), (7, .int y7), (8, .int y8)] → f_M_nearest_144 v_kind v_number v_exponent y4 y7 y8 z0 z1 = some res → W p l e ({ frames := 1, cells := 0, slots := 0, locals := 24 }) s m args below meth c H locs 0 0 (MQ below (va_Qi (fun (r : Int32) (u : Int32 × Int64 × Int32) => some (r, u) = some res) (gB (dC, dI) [] A (fun (u : Int32 × Int64 × Int32) => (WS_M_nearest g_this_tape g_this_above g_this_below g_this_digit g_this_limbs g_this_exact g_this_round g_this_out g_this_body h_this v_size u.1 u.2.1 u.2.2 v_aboveSize v_belowSize v_state v_digits v_behind v_power v_powerLess v_less v_plainDigits v_sixteen v_limbCount v_length v_point v_roundLength v_roundPoint v_written v_bodySize))) A) args s 0 0 A) (F0 m 144 ls [.long z1, .long z0]) := by
  intro v_kind v_number v_exponent y4 y7 y8 z0 z1 H locs ls hP hD hS hl h
  obtain ⟨hx, hb, hr, hml, hown, ht, hlk⟩ := id cx
  refine lv_ladd hx hb d_M_nearest_144 ?_
  refine lv_topl (fun x15 e_x15 => ?_)
  have h := bd_g e_x15 h
  refine lv_lstore (lv' := [(9, .long x15), (0, .ref h_this), (4, .int y4), (7, .int y7), (8, .int y8)]) hx hb d_M_nearest_145 hl (by decide) rfl (fun ls hl => ?_)
  exact s_M_nearest_147 cx hK hA hX v_kind v_number v_exponent y4 y7 y8 x15 H locs ls hP hD hS (lv_sub hl [1, 2, 3, 4, 0] rfl) h
set_option maxHeartbeats 4000000 in
set_option maxRecDepth 100000 in
theorem s_M_nearest_143 {p : Program} {l : Launch} {e : Env} {s : State} {m : MethodId} {args : Array Value} {below : List Frame} {meth : Method} {c : Code} {dC : Nat → ClassId} {dI : Nat → Nat → Nat} {A : Nat → Prop} {X : SXT} {g_this_tape : Nat} {g_this_above : Nat} {g_this_below : Nat} {g_this_digit : Nat} {g_this_limbs : Nat} {g_this_exact : Nat} {g_this_round : Nat} {g_this_out : Nat} {g_this_body : Nat} {h_this : Nat} {v_size : Int32} {v_aboveSize : Int32} {v_belowSize : Int32} {v_state : Int32} {v_digits : Int32} {v_behind : Int32} {v_power : Int32} {v_powerLess : Int32} {v_less : Int32} {v_plainDigits : Int32} {v_sixteen : Int32} {v_limbCount : Int32} {v_length : Int32} {v_point : Int32} {v_roundLength : Int32} {v_roundPoint : Int32} {v_written : Int32} {v_bodySize : Int32} {res : Int32 × Int32 × Int64 × Int32}  (cx : cxx p s m args meth c b_M_nearest 15 (some .int) R_M) (hK : va_K (dC, dI) classes [] s) (hA : ∀ q, s.heap.size ≤ q → A q) (hX : SX X A s s.heap)  : ∀ (v_kind : Int32) (v_number : Int64) (v_exponent : Int32) (y4 : Int32) (y7 : Int32) (y8 : Int32) (z0 : Int64) (H : Heap) (locs : List Loc) (ls : Array Slot), va_P (dC, dI) classes (WS_M_nearest g_this_tape g_this_above g_this_below g_this_digit g_this_limbs g_this_exact g_this_round g_this_out g_this_body h_this v_size v_kind v_number v_exponent v_aboveSize v_belowSize v_state v_digits v_behind v_power v_powerLess v_less v_plainDigits v_sixteen v_limbCount v_length v_point v_roundLength v_roundPoint v_written v_bodySize) H → va_D A (WS_M_nearest g_this_tape g_this_above g_this_below g_this_digit g_this_limbs g_this_exact g_this_round g_this_out g_this_body h_this v_size v_kind v_number v_exponent v_aboveSize v_belowSize v_state v_digits v_behind v_power v_powerLess v_less v_plainDigits v_sixteen v_limbCount v_length v_point v_roundLength v_roundPoint v_written v_bodySize) → va_S A s.heap H locs → lv_has ls 15 [(0, .ref h_this), (4, .int y4), (7, .int y7), (8, .int y8)] → f_M_nearest_143 v_kind v_number v_exponent y4 y7 y8 z0 = some res → W p l e ({ frames := 1, cells := 0, slots := 0, locals := 24 }) s m args below meth c H locs 0 0 (MQ below (va_Qi (fun (r : Int32) (u : Int32 × Int64 × Int32) => some (r, u) = some res) (gB (dC, dI) [] A (fun (u : Int32 × Int64 × Int32) => (WS_M_nearest g_this_tape g_this_above g_this_below g_this_digit g_this_limbs g_this_exact g_this_round g_this_out g_this_body h_this v_size u.1 u.2.1 u.2.2 v_aboveSize v_belowSize v_state v_digits v_behind v_power v_powerLess v_less v_plainDigits v_sixteen v_limbCount v_length v_point v_roundLength v_roundPoint v_written v_bodySize))) A) args s 0 0 A) (F0 m 143 ls [.long z0]) := by
  intro v_kind v_number v_exponent y4 y7 y8 z0 H locs ls hP hD hS hl h
  obtain ⟨hx, hb, hr, hml, hown, ht, hlk⟩ := id cx
  refine lv_lconst (v := 0) hx hb d_M_nearest_143 (by decide) ?_
  exact s_M_nearest_144 cx hK hA hX v_kind v_number v_exponent y4 y7 y8 z0 (0 : Int64) H locs ls hP hD hS (lv_sub hl [0, 1, 2, 3] rfl) h
set_option maxHeartbeats 4000000 in
set_option maxRecDepth 100000 in
theorem s_M_nearest_139 {p : Program} {l : Launch} {e : Env} {s : State} {m : MethodId} {args : Array Value} {below : List Frame} {meth : Method} {c : Code} {dC : Nat → ClassId} {dI : Nat → Nat → Nat} {A : Nat → Prop} {X : SXT} {g_this_tape : Nat} {g_this_above : Nat} {g_this_below : Nat} {g_this_digit : Nat} {g_this_limbs : Nat} {g_this_exact : Nat} {g_this_round : Nat} {g_this_out : Nat} {g_this_body : Nat} {h_this : Nat} {v_size : Int32} {v_aboveSize : Int32} {v_belowSize : Int32} {v_state : Int32} {v_digits : Int32} {v_behind : Int32} {v_power : Int32} {v_powerLess : Int32} {v_less : Int32} {v_plainDigits : Int32} {v_sixteen : Int32} {v_limbCount : Int32} {v_length : Int32} {v_point : Int32} {v_roundLength : Int32} {v_roundPoint : Int32} {v_written : Int32} {v_bodySize : Int32} {res : Int32 × Int32 × Int64 × Int32}  (cx : cxx p s m args meth c b_M_nearest 15 (some .int) R_M) (hK : va_K (dC, dI) classes [] s) (hA : ∀ q, s.heap.size ≤ q → A q) (hX : SX X A s s.heap)  : ∀ (v_kind : Int32) (v_number : Int64) (v_exponent : Int32) (y4 : Int32) (y7 : Int32) (y8 : Int32) (z0 : Int64) (H : Heap) (locs : List Loc) (ls : Array Slot), va_P (dC, dI) classes (WS_M_nearest g_this_tape g_this_above g_this_below g_this_digit g_this_limbs g_this_exact g_this_round g_this_out g_this_body h_this v_size v_kind v_number v_exponent v_aboveSize v_belowSize v_state v_digits v_behind v_power v_powerLess v_less v_plainDigits v_sixteen v_limbCount v_length v_point v_roundLength v_roundPoint v_written v_bodySize) H → va_D A (WS_M_nearest g_this_tape g_this_above g_this_below g_this_digit g_this_limbs g_this_exact g_this_round g_this_out g_this_body h_this v_size v_kind v_number v_exponent v_aboveSize v_belowSize v_state v_digits v_behind v_power v_powerLess v_less v_plainDigits v_sixteen v_limbCount v_length v_point v_roundLength v_roundPoint v_written v_bodySize) → va_S A s.heap H locs → lv_has ls 15 [(0, .ref h_this), (4, .int y4), (7, .int y7), (8, .int y8)] → f_M_nearest_139 v_kind v_number v_exponent y4 y7 y8 z0 = some res → W p l e ({ frames := 1, cells := 0, slots := 0, locals := 24 }) s m args below meth c H locs 0 0 (MQ below (va_Qi (fun (r : Int32) (u : Int32 × Int64 × Int32) => some (r, u) = some res) (gB (dC, dI) [] A (fun (u : Int32 × Int64 × Int32) => (WS_M_nearest g_this_tape g_this_above g_this_below g_this_digit g_this_limbs g_this_exact g_this_round g_this_out g_this_body h_this v_size u.1 u.2.1 u.2.2 v_aboveSize v_belowSize v_state v_digits v_behind v_power v_powerLess v_less v_plainDigits v_sixteen v_limbCount v_length v_point v_roundLength v_roundPoint v_written v_bodySize))) A) args s 0 0 A) (F0 m 139 ls [.long z0]) := by
  intro v_kind v_number v_exponent y4 y7 y8 z0 H locs ls hP hD hS hl h
  obtain ⟨hx, hb, hr, hml, hown, ht, hlk⟩ := id cx
  refine lv_lconst (v := 1) hx hb d_M_nearest_139 (by decide) ?_
  refine lv_goto (tgt := 144) hx hb d_M_nearest_140 (by decide) ?_
  exact s_M_nearest_144 cx hK hA hX v_kind v_number v_exponent y4 y7 y8 z0 (1 : Int64) H locs ls hP hD hS (lv_sub hl [0, 1, 2, 3] rfl) h
set_option maxHeartbeats 4000000 in
set_option maxRecDepth 100000 in
theorem s_M_nearest_83 {p : Program} {l : Launch} {e : Env} {s : State} {m : MethodId} {args : Array Value} {below : List Frame} {meth : Method} {c : Code} {dC : Nat → ClassId} {dI : Nat → Nat → Nat} {A : Nat → Prop} {X : SXT} {g_this_tape : Nat} {g_this_above : Nat} {g_this_below : Nat} {g_this_digit : Nat} {g_this_limbs : Nat} {g_this_exact : Nat} {g_this_round : Nat} {g_this_out : Nat} {g_this_body : Nat} {h_this : Nat} {v_size : Int32} {v_aboveSize : Int32} {v_belowSize : Int32} {v_state : Int32} {v_digits : Int32} {v_behind : Int32} {v_power : Int32} {v_powerLess : Int32} {v_less : Int32} {v_plainDigits : Int32} {v_sixteen : Int32} {v_limbCount : Int32} {v_length : Int32} {v_point : Int32} {v_roundLength : Int32} {v_roundPoint : Int32} {v_written : Int32} {v_bodySize : Int32} {res : Int32 × Int32 × Int64 × Int32}  (cx : cxx p s m args meth c b_M_nearest 15 (some .int) R_M) (hK : va_K (dC, dI) classes [] s) (hA : ∀ q, s.heap.size ≤ q → A q) (hX : SX X A s s.heap)  : ∀ (v_kind : Int32) (v_number : Int64) (v_exponent : Int32) (y4 : Int32) (y5 : Int64) (y7 : Int32) (y8 : Int32) (z0 : Int64) (H : Heap) (locs : List Loc) (ls : Array Slot), va_P (dC, dI) classes (WS_M_nearest g_this_tape g_this_above g_this_below g_this_digit g_this_limbs g_this_exact g_this_round g_this_out g_this_body h_this v_size v_kind v_number v_exponent v_aboveSize v_belowSize v_state v_digits v_behind v_power v_powerLess v_less v_plainDigits v_sixteen v_limbCount v_length v_point v_roundLength v_roundPoint v_written v_bodySize) H → va_D A (WS_M_nearest g_this_tape g_this_above g_this_below g_this_digit g_this_limbs g_this_exact g_this_round g_this_out g_this_body h_this v_size v_kind v_number v_exponent v_aboveSize v_belowSize v_state v_digits v_behind v_power v_powerLess v_less v_plainDigits v_sixteen v_limbCount v_length v_point v_roundLength v_roundPoint v_written v_bodySize) → va_S A s.heap H locs → lv_has ls 15 [(0, .ref h_this), (4, .int y4), (5, .long y5), (7, .int y7), (8, .int y8)] → f_M_nearest_83 v_kind v_number v_exponent y4 y5 y7 y8 z0 = some res → W p l e ({ frames := 1, cells := 0, slots := 0, locals := 24 }) s m args below meth c H locs 0 0 (MQ below (va_Qi (fun (r : Int32) (u : Int32 × Int64 × Int32) => some (r, u) = some res) (gB (dC, dI) [] A (fun (u : Int32 × Int64 × Int32) => (WS_M_nearest g_this_tape g_this_above g_this_below g_this_digit g_this_limbs g_this_exact g_this_round g_this_out g_this_body h_this v_size u.1 u.2.1 u.2.2 v_aboveSize v_belowSize v_state v_digits v_behind v_power v_powerLess v_less v_plainDigits v_sixteen v_limbCount v_length v_point v_roundLength v_roundPoint v_written v_bodySize))) A) args s 0 0 A) (F0 m 83 ls [.long z0]) := by
  intro v_kind v_number v_exponent y4 y5 y7 y8 z0 H locs ls hP hD hS hl h
  obtain ⟨hx, hb, hr, hml, hown, ht, hlk⟩ := id cx
  refine lv_lstore (lv' := [(9, .long z0), (0, .ref h_this), (4, .int y4), (5, .long y5), (7, .int y7), (8, .int y8)]) hx hb d_M_nearest_83 hl (by decide) rfl (fun ls hl => ?_)
  refine lv_iload hx hb d_M_nearest_85 (lv_at hl 5 rfl) ?_
  refine lv_bipush (v := 62) hx hb d_M_nearest_87 (by decide) ?_
  refine lv_icmp_gt (tgt := 147) hx hb d_M_nearest_89 (by decide) (fun c16 => ?_) (fun c16 => ?_)
  · have h := if_t c16 h
    exact s_M_nearest_147 cx hK hA hX v_kind v_number v_exponent y4 y7 y8 z0 H locs ls hP hD hS (lv_sub hl [1, 2, 4, 5, 0] rfl) h
  · have h := if_f c16 h
    refine lv_lload hx hb d_M_nearest_92 (lv_at hl 3 rfl) ?_
    refine lv_lload hx hb d_M_nearest_94 (lv_at hl 0 rfl) ?_
    refine lv_iload hx hb d_M_nearest_96 (lv_at hl 5 rfl) ?_
    refine lv_lshl (v := lsl z0 y8) hx hb d_M_nearest_98 rfl ?_
    refine lv_lsub hx hb d_M_nearest_99 ?_
    refine lv_topl (fun x17 e_x17 => ?_)
    have h := bd_g e_x17 h
    refine lv_lstore (lv' := [(11, .long x17), (9, .long z0), (0, .ref h_this), (4, .int y4), (5, .long y5), (7, .int y7), (8, .int y8)]) hx hb d_M_nearest_100 hl (by decide) rfl (fun ls hl => ?_)
    refine lv_lconst (v := 1) hx hb d_M_nearest_102 (by decide) ?_
    refine lv_iload hx hb d_M_nearest_103 (lv_at hl 6 rfl) ?_
    refine lv_iconst (v := 1) hx hb d_M_nearest_105 (by decide) ?_
    refine lv_isub hx hb d_M_nearest_106 ?_
    refine lv_lshl (v := lsl (1 : Int64) (y8 - (1 : Int32))) hx hb d_M_nearest_107 rfl ?_
    refine lv_topl (fun x18 e_x18 => ?_)
    have h := bd_g e_x18 h
    refine lv_lstore (lv' := [(13, .long x18), (11, .long x17), (9, .long z0), (0, .ref h_this), (4, .int y4), (5, .long y5), (7, .int y7), (8, .int y8)]) hx hb d_M_nearest_108 hl (by decide) rfl (fun ls hl => ?_)
    refine lv_lload hx hb d_M_nearest_110 (lv_at hl 2 rfl) ?_
    refine lv_lload hx hb d_M_nearest_112 (lv_at hl 1 rfl) ?_
    refine lv_lload hx hb d_M_nearest_114 (lv_at hl 0 rfl) ?_
    refine W.lcmp hx hb d_M_nearest_116 ?_
    refine lv_if_gt (tgt := 139) hx hb d_M_nearest_117 (by decide) (fun c19 => ?_) (fun c19 => ?_)
    · have c19 := (lg_cmp_gt _ _).mp c19
      have h := if_t c19 h
      exact s_M_nearest_139 cx hK hA hX v_kind v_number v_exponent y4 y7 y8 z0 H locs ls hP hD hS (lv_sub hl [3, 4, 6, 7] rfl) h
    · have c19 := fun h9 => c19 ((lg_cmp_gt _ _).mpr h9)
      have h := if_f c19 h
      refine lv_lload hx hb d_M_nearest_120 (lv_at hl 1 rfl) ?_
      refine lv_lload hx hb d_M_nearest_122 (lv_at hl 0 rfl) ?_
      refine W.lcmp hx hb d_M_nearest_124 ?_
      refine lv_if_ne (tgt := 143) hx hb d_M_nearest_125 (by decide) (fun c20 => ?_) (fun c20 => ?_)
      · have c20 := fun h9 => c20 ((lg_cmp_eq _ _).mpr h9)
        have h := if_f c20 h
        exact s_M_nearest_143 cx hK hA hX v_kind v_number v_exponent y4 y7 y8 z0 H locs ls hP hD hS (lv_sub hl [3, 4, 6, 7] rfl) h
      · have c20 := (lg_cmp_eq _ _).mp c20
        have h := if_t c20 h
        refine lv_lload hx hb d_M_nearest_128 (lv_at hl 2 rfl) ?_
        refine lv_ldc2 (v := 2) hx hb hown (ht _ q_494) d_M_nearest_130 ?_
        refine lv_lrem hx hb d_M_nearest_133 (by decide) ?_
        refine W.eq (g2 := F0 m 134 ls (.long (lrm z0 (2 : Int64)) :: .long z0 :: [])) rfl ?_
        refine lv_lconst (v := 1) hx hb d_M_nearest_134 (by decide) ?_
        refine W.lcmp hx hb d_M_nearest_135 ?_
        refine lv_if_ne (tgt := 143) hx hb d_M_nearest_136 (by decide) (fun c21 => ?_) (fun c21 => ?_)
        · have c21 := fun h9 => c21 ((lg_cmp_eq _ _).mpr h9)
          have h := if_f c21 h
          exact s_M_nearest_143 cx hK hA hX v_kind v_number v_exponent y4 y7 y8 z0 H locs ls hP hD hS (lv_sub hl [3, 4, 6, 7] rfl) h
        · have c21 := (lg_cmp_eq _ _).mp c21
          have h := if_t c21 h
          exact s_M_nearest_139 cx hK hA hX v_kind v_number v_exponent y4 y7 y8 z0 H locs ls hP hD hS (lv_sub hl [3, 4, 6, 7] rfl) h
set_option maxHeartbeats 4000000 in
set_option maxRecDepth 100000 in
theorem s_M_nearest_65 {p : Program} {l : Launch} {e : Env} {s : State} {m : MethodId} {args : Array Value} {below : List Frame} {meth : Method} {c : Code} {dC : Nat → ClassId} {dI : Nat → Nat → Nat} {A : Nat → Prop} {X : SXT} {g_this_tape : Nat} {g_this_above : Nat} {g_this_below : Nat} {g_this_digit : Nat} {g_this_limbs : Nat} {g_this_exact : Nat} {g_this_round : Nat} {g_this_out : Nat} {g_this_body : Nat} {h_this : Nat} {v_size : Int32} {v_aboveSize : Int32} {v_belowSize : Int32} {v_state : Int32} {v_digits : Int32} {v_behind : Int32} {v_power : Int32} {v_powerLess : Int32} {v_less : Int32} {v_plainDigits : Int32} {v_sixteen : Int32} {v_limbCount : Int32} {v_length : Int32} {v_point : Int32} {v_roundLength : Int32} {v_roundPoint : Int32} {v_written : Int32} {v_bodySize : Int32} {res : Int32 × Int32 × Int64 × Int32}  (cx : cxx p s m args meth c b_M_nearest 15 (some .int) R_M) (hK : va_K (dC, dI) classes [] s) (hA : ∀ q, s.heap.size ≤ q → A q) (hX : SX X A s s.heap)  : ∀ (v_kind : Int32) (v_number : Int64) (v_exponent : Int32) (y4 : Int32) (y5 : Int64) (y7 : Int32) (z0 : Int32) (H : Heap) (locs : List Loc) (ls : Array Slot), va_P (dC, dI) classes (WS_M_nearest g_this_tape g_this_above g_this_below g_this_digit g_this_limbs g_this_exact g_this_round g_this_out g_this_body h_this v_size v_kind v_number v_exponent v_aboveSize v_belowSize v_state v_digits v_behind v_power v_powerLess v_less v_plainDigits v_sixteen v_limbCount v_length v_point v_roundLength v_roundPoint v_written v_bodySize) H → va_D A (WS_M_nearest g_this_tape g_this_above g_this_below g_this_digit g_this_limbs g_this_exact g_this_round g_this_out g_this_body h_this v_size v_kind v_number v_exponent v_aboveSize v_belowSize v_state v_digits v_behind v_power v_powerLess v_less v_plainDigits v_sixteen v_limbCount v_length v_point v_roundLength v_roundPoint v_written v_bodySize) → va_S A s.heap H locs → lv_has ls 15 [(0, .ref h_this), (4, .int y4), (5, .long y5), (7, .int y7)] → f_M_nearest_65 v_kind v_number v_exponent y4 y5 y7 z0 = some res → W p l e ({ frames := 1, cells := 0, slots := 0, locals := 24 }) s m args below meth c H locs 0 0 (MQ below (va_Qi (fun (r : Int32) (u : Int32 × Int64 × Int32) => some (r, u) = some res) (gB (dC, dI) [] A (fun (u : Int32 × Int64 × Int32) => (WS_M_nearest g_this_tape g_this_above g_this_below g_this_digit g_this_limbs g_this_exact g_this_round g_this_out g_this_body h_this v_size u.1 u.2.1 u.2.2 v_aboveSize v_belowSize v_state v_digits v_behind v_power v_powerLess v_less v_plainDigits v_sixteen v_limbCount v_length v_point v_roundLength v_roundPoint v_written v_bodySize))) A) args s 0 0 A) (F0 m 65 ls [.int z0]) := by
  intro v_kind v_number v_exponent y4 y5 y7 z0 H locs ls hP hD hS hl h
  obtain ⟨hx, hb, hr, hml, hown, ht, hlk⟩ := id cx
  refine lv_istore (lv' := [(8, .int z0), (0, .ref h_this), (4, .int y4), (5, .long y5), (7, .int y7)]) hx hb d_M_nearest_65 hl (by decide) rfl (fun ls hl => ?_)
  refine lv_iload hx hb d_M_nearest_67 (lv_at hl 0 rfl) ?_
  refine lv_bipush (v := 62) hx hb d_M_nearest_69 (by decide) ?_
  refine lv_icmp_le (tgt := 78) hx hb d_M_nearest_71 (by decide) (fun c22 => ?_) (fun c22 => ?_)
  · have h := if_t c22 h
    refine lv_lload hx hb d_M_nearest_78 (lv_at hl 3 rfl) ?_
    refine lv_iload hx hb d_M_nearest_80 (lv_at hl 0 rfl) ?_
    refine lv_lshr (v := lsr y5 z0) hx hb d_M_nearest_82 rfl ?_
    exact s_M_nearest_83 cx hK hA hX v_kind v_number v_exponent y4 y5 y7 z0 (lsr y5 z0) H locs ls hP hD hS (lv_sub hl [1, 2, 3, 4, 0] rfl) h
  · have h := if_f c22 h
    refine lv_lconst (v := 0) hx hb d_M_nearest_74 (by decide) ?_
    refine lv_goto (tgt := 83) hx hb d_M_nearest_75 (by decide) ?_
    exact s_M_nearest_83 cx hK hA hX v_kind v_number v_exponent y4 y5 y7 z0 (0 : Int64) H locs ls hP hD hS (lv_sub hl [1, 2, 3, 4, 0] rfl) h
set_option maxHeartbeats 4000000 in
set_option maxRecDepth 100000 in
theorem s_M_nearest_43 {p : Program} {l : Launch} {e : Env} {s : State} {m : MethodId} {args : Array Value} {below : List Frame} {meth : Method} {c : Code} {dC : Nat → ClassId} {dI : Nat → Nat → Nat} {A : Nat → Prop} {X : SXT} {g_this_tape : Nat} {g_this_above : Nat} {g_this_below : Nat} {g_this_digit : Nat} {g_this_limbs : Nat} {g_this_exact : Nat} {g_this_round : Nat} {g_this_out : Nat} {g_this_body : Nat} {h_this : Nat} {v_size : Int32} {v_aboveSize : Int32} {v_belowSize : Int32} {v_state : Int32} {v_digits : Int32} {v_behind : Int32} {v_power : Int32} {v_powerLess : Int32} {v_less : Int32} {v_plainDigits : Int32} {v_sixteen : Int32} {v_limbCount : Int32} {v_length : Int32} {v_point : Int32} {v_roundLength : Int32} {v_roundPoint : Int32} {v_written : Int32} {v_bodySize : Int32} {res : Int32 × Int32 × Int64 × Int32}  (cx : cxx p s m args meth c b_M_nearest 15 (some .int) R_M) (hK : va_K (dC, dI) classes [] s) (hA : ∀ q, s.heap.size ≤ q → A q) (hX : SX X A s s.heap)  : ∀ (v_kind : Int32) (v_number : Int64) (v_exponent : Int32) (y4 : Int32) (y5 : Int64) (y7 : Int32) (H : Heap) (locs : List Loc) (ls : Array Slot), va_P (dC, dI) classes (WS_M_nearest g_this_tape g_this_above g_this_below g_this_digit g_this_limbs g_this_exact g_this_round g_this_out g_this_body h_this v_size v_kind v_number v_exponent v_aboveSize v_belowSize v_state v_digits v_behind v_power v_powerLess v_less v_plainDigits v_sixteen v_limbCount v_length v_point v_roundLength v_roundPoint v_written v_bodySize) H → va_D A (WS_M_nearest g_this_tape g_this_above g_this_below g_this_digit g_this_limbs g_this_exact g_this_round g_this_out g_this_body h_this v_size v_kind v_number v_exponent v_aboveSize v_belowSize v_state v_digits v_behind v_power v_powerLess v_less v_plainDigits v_sixteen v_limbCount v_length v_point v_roundLength v_roundPoint v_written v_bodySize) → va_S A s.heap H locs → lv_has ls 15 [(0, .ref h_this), (4, .int y4), (5, .long y5), (7, .int y7)] → f_M_nearest_43 v_kind v_number v_exponent y4 y5 y7 = some res → W p l e ({ frames := 1, cells := 0, slots := 0, locals := 24 }) s m args below meth c H locs 0 0 (MQ below (va_Qi (fun (r : Int32) (u : Int32 × Int64 × Int32) => some (r, u) = some res) (gB (dC, dI) [] A (fun (u : Int32 × Int64 × Int32) => (WS_M_nearest g_this_tape g_this_above g_this_below g_this_digit g_this_limbs g_this_exact g_this_round g_this_out g_this_body h_this v_size u.1 u.2.1 u.2.2 v_aboveSize v_belowSize v_state v_digits v_behind v_power v_powerLess v_less v_plainDigits v_sixteen v_limbCount v_length v_point v_roundLength v_roundPoint v_written v_bodySize))) A) args s 0 0 A) (F0 m 43 ls []) := by
  intro v_kind v_number v_exponent y4 y5 y7 H locs ls hP hD hS hl h
  obtain ⟨hx, hb, hr, hml, hown, ht, hlk⟩ := id cx
  refine lv_iload hx hb d_M_nearest_43 (lv_at hl 3 rfl) ?_
  refine lv_bipush (v := 9) hx hb d_M_nearest_45 (by decide) ?_
  refine lv_iadd hx hb d_M_nearest_47 ?_
  refine lv_sipush (v := -1074) hx hb d_M_nearest_48 (by decide) ?_
  refine lv_icmp_lt (tgt := 59) hx hb d_M_nearest_51 (by decide) (fun c23 => ?_) (fun c23 => ?_)
  · have h := if_t c23 h
    refine lv_sipush (v := -1074) hx hb d_M_nearest_59 (by decide) ?_
    refine lv_iload hx hb d_M_nearest_62 (lv_at hl 3 rfl) ?_
    refine lv_isub hx hb d_M_nearest_64 ?_
    exact s_M_nearest_65 cx hK hA hX v_kind v_number v_exponent y4 y5 y7 ((-1074 : Int32) - y7) H locs ls hP hD hS (lv_sub hl [0, 1, 2, 3] rfl) h
  · have h := if_f c23 h
    refine lv_bipush (v := 9) hx hb d_M_nearest_54 (by decide) ?_
    refine lv_goto (tgt := 65) hx hb d_M_nearest_56 (by decide) ?_
    exact s_M_nearest_65 cx hK hA hX v_kind v_number v_exponent y4 y5 y7 (9 : Int32) H locs ls hP hD hS (lv_sub hl [0, 1, 2, 3] rfl) h
set_option maxHeartbeats 4000000 in
set_option maxRecDepth 100000 in
theorem s_M_nearest_20b {p : Program} {l : Launch} {e : Env} {s : State} {m : MethodId} {args : Array Value} {below : List Frame} {meth : Method} {c : Code} {dC : Nat → ClassId} {dI : Nat → Nat → Nat} {A : Nat → Prop} {X : SXT} {g_this_tape : Nat} {g_this_above : Nat} {g_this_below : Nat} {g_this_digit : Nat} {g_this_limbs : Nat} {g_this_exact : Nat} {g_this_round : Nat} {g_this_out : Nat} {g_this_body : Nat} {h_this : Nat} {v_size : Int32} {v_aboveSize : Int32} {v_belowSize : Int32} {v_state : Int32} {v_digits : Int32} {v_behind : Int32} {v_power : Int32} {v_powerLess : Int32} {v_less : Int32} {v_plainDigits : Int32} {v_sixteen : Int32} {v_limbCount : Int32} {v_length : Int32} {v_point : Int32} {v_roundLength : Int32} {v_roundPoint : Int32} {v_written : Int32} {v_bodySize : Int32} {res : Int32 × Int32 × Int64 × Int32} {k20 : Int32 → Int64 → Int32 → Int32 → Int64 → Int32 → Option (Int32 × Int32 × Int64 × Int32)} (cx : cxx p s m args meth c b_M_nearest 15 (some .int) R_M) (hK : va_K (dC, dI) classes [] s) (hA : ∀ q, s.heap.size ≤ q → A q) (hX : SX X A s s.heap) (hk20 : ∀ (v_kind : Int32) (v_number : Int64) (v_exponent : Int32) (y4 : Int32) (y5 : Int64) (y7 : Int32) (H : Heap) (locs : List Loc) (ls : Array Slot), va_P (dC, dI) classes (WS_M_nearest g_this_tape g_this_above g_this_below g_this_digit g_this_limbs g_this_exact g_this_round g_this_out g_this_body h_this v_size v_kind v_number v_exponent v_aboveSize v_belowSize v_state v_digits v_behind v_power v_powerLess v_less v_plainDigits v_sixteen v_limbCount v_length v_point v_roundLength v_roundPoint v_written v_bodySize) H → va_D A (WS_M_nearest g_this_tape g_this_above g_this_below g_this_digit g_this_limbs g_this_exact g_this_round g_this_out g_this_body h_this v_size v_kind v_number v_exponent v_aboveSize v_belowSize v_state v_digits v_behind v_power v_powerLess v_less v_plainDigits v_sixteen v_limbCount v_length v_point v_roundLength v_roundPoint v_written v_bodySize) → va_S A s.heap H locs → lv_has ls 15 [(0, .ref h_this), (4, .int y4), (5, .long y5), (7, .int y7)] → k20 v_kind v_number v_exponent y4 y5 y7 = some res → W p l e ({ frames := 1, cells := 0, slots := 0, locals := 24 }) s m args below meth c H locs 0 0 (MQ below (va_Qi (fun (r : Int32) (u : Int32 × Int64 × Int32) => some (r, u) = some res) (gB (dC, dI) [] A (fun (u : Int32 × Int64 × Int32) => (WS_M_nearest g_this_tape g_this_above g_this_below g_this_digit g_this_limbs g_this_exact g_this_round g_this_out g_this_body h_this v_size u.1 u.2.1 u.2.2 v_aboveSize v_belowSize v_state v_digits v_behind v_power v_powerLess v_less v_plainDigits v_sixteen v_limbCount v_length v_point v_roundLength v_roundPoint v_written v_bodySize))) A) args s 0 0 A) (F0 m 20 ls [])) : ∀ (v_kind : Int32) (v_number : Int64) (v_exponent : Int32) (y4 : Int32) (y5 : Int64) (y7 : Int32) (H : Heap) (locs : List Loc) (ls : Array Slot), va_P (dC, dI) classes (WS_M_nearest g_this_tape g_this_above g_this_below g_this_digit g_this_limbs g_this_exact g_this_round g_this_out g_this_body h_this v_size v_kind v_number v_exponent v_aboveSize v_belowSize v_state v_digits v_behind v_power v_powerLess v_less v_plainDigits v_sixteen v_limbCount v_length v_point v_roundLength v_roundPoint v_written v_bodySize) H → va_D A (WS_M_nearest g_this_tape g_this_above g_this_below g_this_digit g_this_limbs g_this_exact g_this_round g_this_out g_this_body h_this v_size v_kind v_number v_exponent v_aboveSize v_belowSize v_state v_digits v_behind v_power v_powerLess v_less v_plainDigits v_sixteen v_limbCount v_length v_point v_roundLength v_roundPoint v_written v_bodySize) → va_S A s.heap H locs → lv_has ls 15 [(0, .ref h_this), (4, .int y4), (5, .long y5), (7, .int y7)] → f_M_nearest_20b k20 v_kind v_number v_exponent y4 y5 y7 = some res → W p l e ({ frames := 1, cells := 0, slots := 0, locals := 24 }) s m args below meth c H locs 0 0 (MQ below (va_Qi (fun (r : Int32) (u : Int32 × Int64 × Int32) => some (r, u) = some res) (gB (dC, dI) [] A (fun (u : Int32 × Int64 × Int32) => (WS_M_nearest g_this_tape g_this_above g_this_below g_this_digit g_this_limbs g_this_exact g_this_round g_this_out g_this_body h_this v_size u.1 u.2.1 u.2.2 v_aboveSize v_belowSize v_state v_digits v_behind v_power v_powerLess v_less v_plainDigits v_sixteen v_limbCount v_length v_point v_roundLength v_roundPoint v_written v_bodySize))) A) args s 0 0 A) (F0 m 20 ls []) := by
  intro v_kind v_number v_exponent y4 y5 y7 H locs ls hP hD hS hl h
  obtain ⟨hx, hb, hr, hml, hown, ht, hlk⟩ := id cx
  refine lv_lload hx hb d_M_nearest_20 (lv_at hl 2 rfl) ?_
  refine lv_ldc2 (v := 2305843009213693952) hx hb hown (ht _ q_495) d_M_nearest_22 ?_
  refine W.lcmp hx hb d_M_nearest_25 ?_
  refine lv_if_ge (tgt := 43) hx hb d_M_nearest_26 (by decide) (fun c24 => ?_) (fun c24 => ?_)
  · have c24 := (lg_cmp_ge _ _).mp c24
    have h := if_t c24 h
    exact s_M_nearest_43 cx hK hA hX v_kind v_number v_exponent y4 y5 y7 H locs ls hP hD hS (lv_sub hl [0, 1, 2, 3] rfl) h
  · have c24 := fun h9 => c24 ((lg_cmp_ge _ _).mpr h9)
    have h := if_f c24 h
    refine lv_ldc2 (v := 2) hx hb hown (ht _ q_494) d_M_nearest_29 ?_
    refine lv_lload hx hb d_M_nearest_32 (lv_at hl 2 rfl) ?_
    refine lv_lmul hx hb d_M_nearest_34 ?_
    refine lv_topl (fun x25 e_x25 => ?_)
    have h := bd_g e_x25 h
    refine lv_lstore (lv' := [(5, .long x25), (0, .ref h_this), (4, .int y4), (7, .int y7)]) hx hb d_M_nearest_35 hl (by decide) rfl (fun ls hl => ?_)
    obtain ⟨x26, e_x26⟩ : ∃ y : Int32, y = y7 + (-1 : Int32) := ⟨_, rfl⟩
    refine lv_iinc (v := x26) (lv' := [(7, .int x26), (5, .long x25), (0, .ref h_this), (4, .int y4)]) hx hb d_M_nearest_37 hl (k := 3) rfl (by rw [e_x26]; rfl) (by decide) rfl (fun ls hl => ?_)
    have h := bd_g e_x26 h
    refine lv_goto (tgt := 20) hx hb d_M_nearest_40 (by decide) ?_
    exact hk20 v_kind v_number v_exponent y4 x25 x26 H locs ls hP hD hS (lv_sub hl [2, 3, 1, 0] rfl) h
set_option maxHeartbeats 4000000 in
set_option maxRecDepth 100000 in
theorem s_M_nearest_20 {p : Program} {l : Launch} {e : Env} {s : State} {m : MethodId} {args : Array Value} {below : List Frame} {meth : Method} {c : Code} {dC : Nat → ClassId} {dI : Nat → Nat → Nat} {A : Nat → Prop} {X : SXT} {g_this_tape : Nat} {g_this_above : Nat} {g_this_below : Nat} {g_this_digit : Nat} {g_this_limbs : Nat} {g_this_exact : Nat} {g_this_round : Nat} {g_this_out : Nat} {g_this_body : Nat} {h_this : Nat} {v_size : Int32} {v_aboveSize : Int32} {v_belowSize : Int32} {v_state : Int32} {v_digits : Int32} {v_behind : Int32} {v_power : Int32} {v_powerLess : Int32} {v_less : Int32} {v_plainDigits : Int32} {v_sixteen : Int32} {v_limbCount : Int32} {v_length : Int32} {v_point : Int32} {v_roundLength : Int32} {v_roundPoint : Int32} {v_written : Int32} {v_bodySize : Int32} {res : Int32 × Int32 × Int64 × Int32}  (cx : cxx p s m args meth c b_M_nearest 15 (some .int) R_M) (hK : va_K (dC, dI) classes [] s) (hA : ∀ q, s.heap.size ≤ q → A q) (hX : SX X A s s.heap)  : ∀ n : Nat, ∀ (v_kind : Int32) (v_number : Int64) (v_exponent : Int32) (y4 : Int32) (y5 : Int64) (y7 : Int32) (H : Heap) (locs : List Loc) (ls : Array Slot), va_P (dC, dI) classes (WS_M_nearest g_this_tape g_this_above g_this_below g_this_digit g_this_limbs g_this_exact g_this_round g_this_out g_this_body h_this v_size v_kind v_number v_exponent v_aboveSize v_belowSize v_state v_digits v_behind v_power v_powerLess v_less v_plainDigits v_sixteen v_limbCount v_length v_point v_roundLength v_roundPoint v_written v_bodySize) H → va_D A (WS_M_nearest g_this_tape g_this_above g_this_below g_this_digit g_this_limbs g_this_exact g_this_round g_this_out g_this_body h_this v_size v_kind v_number v_exponent v_aboveSize v_belowSize v_state v_digits v_behind v_power v_powerLess v_less v_plainDigits v_sixteen v_limbCount v_length v_point v_roundLength v_roundPoint v_written v_bodySize) → va_S A s.heap H locs → lv_has ls 15 [(0, .ref h_this), (4, .int y4), (5, .long y5), (7, .int y7)] → f_M_nearest_20 n v_kind v_number v_exponent y4 y5 y7 = some res → W p l e ({ frames := 1, cells := 0, slots := 0, locals := 24 }) s m args below meth c H locs 0 0 (MQ below (va_Qi (fun (r : Int32) (u : Int32 × Int64 × Int32) => some (r, u) = some res) (gB (dC, dI) [] A (fun (u : Int32 × Int64 × Int32) => (WS_M_nearest g_this_tape g_this_above g_this_below g_this_digit g_this_limbs g_this_exact g_this_round g_this_out g_this_body h_this v_size u.1 u.2.1 u.2.2 v_aboveSize v_belowSize v_state v_digits v_behind v_power v_powerLess v_less v_plainDigits v_sixteen v_limbCount v_length v_point v_roundLength v_roundPoint v_written v_bodySize))) A) args s 0 0 A) (F0 m 20 ls []) := by
  intro n
  induction n with
  | zero =>
    intro v_kind v_number v_exponent y4 y5 y7 H locs ls hP hD hS hl h
    have h9 : (none : Option (Int32 × Int32 × Int64 × Int32)) = some res := h
    cases h9
  | succ n ih =>
    intro v_kind v_number v_exponent y4 y5 y7 H locs ls hP hD hS hl h
    exact s_M_nearest_20b cx hK hA hX ih v_kind v_number v_exponent y4 y5 y7 H locs ls hP hD hS hl h
set_option maxHeartbeats 4000000 in
set_option maxRecDepth 100000 in
theorem s_M_nearest_e {p : Program} {l : Launch} {e : Env} {s : State} {m : MethodId} {args : Array Value} {below : List Frame} {meth : Method} {c : Code} {dC : Nat → ClassId} {dI : Nat → Nat → Nat} {A : Nat → Prop} {X : SXT} {g_this_tape : Nat} {g_this_above : Nat} {g_this_below : Nat} {g_this_digit : Nat} {g_this_limbs : Nat} {g_this_exact : Nat} {g_this_round : Nat} {g_this_out : Nat} {g_this_body : Nat} {h_this : Nat} {v_size : Int32} {v_aboveSize : Int32} {v_belowSize : Int32} {v_state : Int32} {v_digits : Int32} {v_behind : Int32} {v_power : Int32} {v_powerLess : Int32} {v_less : Int32} {v_plainDigits : Int32} {v_sixteen : Int32} {v_limbCount : Int32} {v_length : Int32} {v_point : Int32} {v_roundLength : Int32} {v_roundPoint : Int32} {v_written : Int32} {v_bodySize : Int32} {res : Int32 × Int32 × Int64 × Int32} (cx : cxx p s m args meth c b_M_nearest 15 (some .int) R_M) (hK : va_K (dC, dI) classes [] s) (hA : ∀ q, s.heap.size ≤ q → A q) (hX : SX X A s s.heap) : ∀ (v_kind : Int32) (v_number : Int64) (v_exponent : Int32) (p1 : Int64) (p3 : Int32) (p4 : Int32) (H : Heap) (locs : List Loc) (ls : Array Slot), va_P (dC, dI) classes (WS_M_nearest g_this_tape g_this_above g_this_below g_this_digit g_this_limbs g_this_exact g_this_round g_this_out g_this_body h_this v_size v_kind v_number v_exponent v_aboveSize v_belowSize v_state v_digits v_behind v_power v_powerLess v_less v_plainDigits v_sixteen v_limbCount v_length v_point v_roundLength v_roundPoint v_written v_bodySize) H → va_D A (WS_M_nearest g_this_tape g_this_above g_this_below g_this_digit g_this_limbs g_this_exact g_this_round g_this_out g_this_body h_this v_size v_kind v_number v_exponent v_aboveSize v_belowSize v_state v_digits v_behind v_power v_powerLess v_less v_plainDigits v_sixteen v_limbCount v_length v_point v_roundLength v_roundPoint v_written v_bodySize) → va_S A s.heap H locs → lv_has ls 15 [(0, .ref h_this), (1, .long p1), (3, .int p3), (4, .int p4)] → f_M_nearest v_kind v_number v_exponent p1 p3 p4 = some res → W p l e ({ frames := 1, cells := 0, slots := 0, locals := 24 }) s m args below meth c H locs 0 0 (MQ below (va_Qi (fun (r : Int32) (u : Int32 × Int64 × Int32) => some (r, u) = some res) (gB (dC, dI) [] A (fun (u : Int32 × Int64 × Int32) => (WS_M_nearest g_this_tape g_this_above g_this_below g_this_digit g_this_limbs g_this_exact g_this_round g_this_out g_this_body h_this v_size u.1 u.2.1 u.2.2 v_aboveSize v_belowSize v_state v_digits v_behind v_power v_powerLess v_less v_plainDigits v_sixteen v_limbCount v_length v_point v_roundLength v_roundPoint v_written v_bodySize))) A) args s 0 0 A) (F0 m 0 ls []) := by
  intro v_kind v_number v_exponent p1 p3 p4 H locs ls hP hD hS hl h
  obtain ⟨hx, hb, hr, hml, hown, ht, hlk⟩ := id cx
  refine lv_lload_n hx hb d_M_nearest_0 rfl (lv_at hl 1 rfl) ?_
  refine lv_lconst (v := 0) hx hb d_M_nearest_1 (by decide) ?_
  refine W.lcmp hx hb d_M_nearest_2 ?_
  refine lv_if_ne (tgt := 14) hx hb d_M_nearest_3 (by decide) (fun c27 => ?_) (fun c27 => ?_)
  · have c27 := fun h9 => c27 ((lg_cmp_eq _ _).mpr h9)
    have h := if_f c27 h
    refine lv_lload_n hx hb d_M_nearest_14 rfl (lv_at hl 1 rfl) ?_
    refine lv_lstore (lv' := [(5, .long p1), (0, .ref h_this), (1, .long p1), (3, .int p3), (4, .int p4)]) hx hb d_M_nearest_15 hl (by decide) rfl (fun ls hl => ?_)
    refine lv_iload_n hx hb d_M_nearest_17 rfl (lv_at hl 3 rfl) ?_
    refine lv_istore (lv' := [(7, .int p3), (5, .long p1), (0, .ref h_this), (1, .long p1), (3, .int p3), (4, .int p4)]) hx hb d_M_nearest_18 hl (by decide) rfl (fun ls hl => ?_)
    exact s_M_nearest_20 cx hK hA hX fu v_kind v_number v_exponent p4 p1 p3 H locs ls hP hD hS (lv_sub hl [2, 5, 1, 0] rfl) h
  · have c27 := (lg_cmp_eq _ _).mp c27
    have h := if_t c27 h
    refine lv_aload_n hx hb d_M_nearest_6 rfl (lv_at hl 0 rfl) ?_
    refine lv_iconst (v := 2) hx hb d_M_nearest_7 (by decide) ?_
    refine lv_lconst (v := 0) hx hb d_M_nearest_8 (by decide) ?_
    refine lv_iconst (v := 0) hx hb d_M_nearest_9 (by decide) ?_
    obtain ⟨r28, v29, v30, v31, hf, h⟩ := bi4_x h
    refine clVi (D := (dC, dI)) (n := 3) (As := [.int (2 : Int32), .long (0 : Int64), .int (0 : Int32)]) ⟨hx, hb, hml, hown, ht⟩ (c_M_set l dC dI X g_this_tape g_this_above g_this_below g_this_digit g_this_limbs g_this_exact g_this_round g_this_out g_this_body h_this H.size v_size v_kind v_number v_exponent v_aboveSize v_belowSize v_state v_digits v_behind v_power v_powerLess v_less v_plainDigits v_sixteen v_limbCount v_length v_point v_roundLength v_roundPoint v_written v_bodySize (2 : Int32) (0 : Int64) (0 : Int32) (r28, v29, v30, v31) hf) (gV q_487 q_488 q_489 q_490 q_491) (by decide +kernel) ⟨rfl, rfl, Nat.le_of_ble_eq_true rfl, Nat.le_of_ble_eq_true rfl⟩ hK hP hD hS hA hX [0] [] [] rfl (wr := []) rfl (by decide) (by decide) (by decide) rfl (va_recv hK hP (ci := 7) (q0 := 0) rfl rfl) rfl hl.1 rfl (lv_room (Nat.le_of_ble_eq_true rfl)) d_M_nearest_10 ⟨Nat.zero_le _, Nat.zero_le _⟩ (fun r9 u9 H locs h9 hP hD hS => ?_)
    cases h9
    have hP : va_P (dC, dI) classes (WS_M_nearest g_this_tape g_this_above g_this_below g_this_digit g_this_limbs g_this_exact g_this_round g_this_out g_this_body h_this v_size v29 v30 v31 v_aboveSize v_belowSize v_state v_digits v_behind v_power v_powerLess v_less v_plainDigits v_sixteen v_limbCount v_length v_point v_roundLength v_roundPoint v_written v_bodySize) H := hP.sub [0] rfl
    have hD : va_D A (WS_M_nearest g_this_tape g_this_above g_this_below g_this_digit g_this_limbs g_this_exact g_this_round g_this_out g_this_body h_this v_size v29 v30 v31 v_aboveSize v_belowSize v_state v_digits v_behind v_power v_powerLess v_less v_plainDigits v_sixteen v_limbCount v_length v_point v_roundLength v_roundPoint v_written v_bodySize) := hD.sub [0] (by decide) rfl
    exact W.iret (v := r28) hx hb hr (fun t ht9 hW => ⟨⟨r28, (v29, v30, v31), rfl, h, by rw [ht9]; exact hP, va_K.moved hW.alike hK, hD⟩, hS.F ht9⟩) hS.2.2 d_M_nearest_13 hlk
set_option maxHeartbeats 4000000 in
set_option maxRecDepth 100000 in
theorem c_M_nearest (l : Launch) (dC : Nat → ClassId) (dI : Nat → Nat → Nat) (X : SXT) (g_this_tape : Nat) (g_this_above : Nat) (g_this_below : Nat) (g_this_digit : Nat) (g_this_limbs : Nat) (g_this_exact : Nat) (g_this_round : Nat) (g_this_out : Nat) (g_this_body : Nat) (h_this : Nat) (sz : Nat) (v_size : Int32) (v_kind : Int32) (v_number : Int64) (v_exponent : Int32) (v_aboveSize : Int32) (v_belowSize : Int32) (v_state : Int32) (v_digits : Int32) (v_behind : Int32) (v_power : Int32) (v_powerLess : Int32) (v_less : Int32) (v_plainDigits : Int32) (v_sixteen : Int32) (v_limbCount : Int32) (v_length : Int32) (v_point : Int32) (v_roundLength : Int32) (v_roundPoint : Int32) (v_written : Int32) (v_bodySize : Int32) (p1 : Int64) (p3 : Int32) (p4 : Int32) (res : Int32 × Int32 × Int64 × Int32) (hf : f_M_nearest v_kind v_number v_exponent p1 p3 p4 = some res) : Met l y_M_nearest (.code y_M_nearest b_M_nearest 15 (some .int) :: w0) ({ frames := 1, cells := 0, slots := 0, locals := 24 }) (va_Pc [.ref h_this, .long p1, .int p3, .int p4] (gP (dC, dI) (WS_M_nearest g_this_tape g_this_above g_this_below g_this_digit g_this_limbs g_this_exact g_this_round g_this_out g_this_body h_this v_size v_kind v_number v_exponent v_aboveSize v_belowSize v_state v_digits v_behind v_power v_powerLess v_less v_plainDigits v_sixteen v_limbCount v_length v_point v_roundLength v_roundPoint v_written v_bodySize) [] sz X)) (va_Qi (fun (r : Int32) (u : Int32 × Int64 × Int32) => some (r, u) = some res) (gB (dC, dI) [] (va_A (WS_M_nearest g_this_tape g_this_above g_this_below g_this_digit g_this_limbs g_this_exact g_this_round g_this_out g_this_body h_this v_size v_kind v_number v_exponent v_aboveSize v_belowSize v_state v_digits v_behind v_power v_powerLess v_less v_plainDigits v_sixteen v_limbCount v_length v_point v_roundLength v_roundPoint v_written v_bodySize) sz) (fun (u : Int32 × Int64 × Int32) => (WS_M_nearest g_this_tape g_this_above g_this_below g_this_digit g_this_limbs g_this_exact g_this_round g_this_out g_this_body h_this v_size u.1 u.2.1 u.2.2 v_aboveSize v_belowSize v_state v_digits v_behind v_power v_powerLess v_less v_plainDigits v_sixteen v_limbCount v_length v_point v_roundLength v_roundPoint v_written v_bodySize))) (va_A (WS_M_nearest g_this_tape g_this_above g_this_below g_this_digit g_this_limbs g_this_exact g_this_round g_this_out g_this_body h_this v_size v_kind v_number v_exponent v_aboveSize v_belowSize v_state v_digits v_behind v_power v_powerLess v_less v_plainDigits v_sixteen v_limbCount v_length v_point v_roundLength v_roundPoint v_written v_bodySize) sz)) 0 0 (va_A (WS_M_nearest g_this_tape g_this_above g_this_below g_this_digit g_this_limbs g_this_exact g_this_round g_this_out g_this_body h_this v_size v_kind v_number v_exponent v_aboveSize v_belowSize v_state v_digits v_behind v_power v_powerLess v_less v_plainDigits v_sixteen v_limbCount v_length v_point v_roundLength v_roundPoint v_written v_bodySize) sz) := by
  refine Met.ofW (cc := b_M_nearest) (maxL := 15) (ret := (some .int)) (by decide) rfl ?_
  intro p e s m args below meth c s₁ B hml hv
  obtain ⟨rfl, hsz, hP, hK, hD0, hX⟩ := hv
  subst hsz
  have cx : cxx p s m ([.ref h_this, .long p1, .int p3, .int p4] : List Value).toArray meth c b_M_nearest 15 (some .int) R_M := ⟨B.exec, B.bytes, B.returns, hml, findClass_of_methodNamed B.named, fun w9 hw => atoms_spec (ws := .code y_M_nearest b_M_nearest 15 (some .int) :: w0) B.pre w9 (List.mem_cons_of_mem _ hw), B.notSynchronized⟩
  have hD := hD0.self (sz := s.heap.size)
  generalize hAe : va_A (WS_M_nearest g_this_tape g_this_above g_this_below g_this_digit g_this_limbs g_this_exact g_this_round g_this_out g_this_body h_this v_size v_kind v_number v_exponent v_aboveSize v_belowSize v_state v_digits v_behind v_power v_powerLess v_less v_plainDigits v_sixteen v_limbCount v_length v_point v_roundLength v_roundPoint v_written v_bodySize) s.heap.size = A at hD hX ⊢
  have hA : ∀ q : Nat, s.heap.size ≤ q → A q := fun q h => by rw [← hAe]; exact Or.inr h
  have hS : va_S A s.heap s.heap [] := va_S.rf
  have hl := lv_entry ([.ref h_this, .long p1, .int p3, .int p4]) (n := 15) (Nat.le_of_ble_eq_true rfl)
  rw [lg_entry_eq]
  generalize (lg_sl ([.ref h_this, .long p1, .int p3, .int p4]) ++ List.replicate (15 - (lg_sl ([.ref h_this, .long p1, .int p3, .int p4])).length) Slot.unset).toArray = ls at hl ⊢
  have hl : lv_has ls 15 [(0, .ref h_this), (1, .long p1), (3, .int p3), (4, .int p4)] := hl
  exact s_M_nearest_e cx hK hA hX v_kind v_number v_exponent p1 p3 p4 s.heap [] ls hP hD hS hl hf
abbrev WS_M_nearestWhole (g_this_tape : Nat) (g_this_above : Nat) (g_this_below : Nat) (g_this_digit : Nat) (g_this_limbs : Nat) (g_this_exact : Nat) (g_this_round : Nat) (g_this_out : Nat) (g_this_body : Nat) (h_this : Nat)  (v_size : Int32) (v_kind : Int32) (v_number : Int64) (v_exponent : Int32) (v_aboveSize : Int32) (v_belowSize : Int32) (v_state : Int32) (v_digits : Int32) (v_behind : Int32) (v_power : Int32) (v_powerLess : Int32) (v_less : Int32) (v_plainDigits : Int32) (v_sixteen : Int32) (v_limbCount : Int32) (v_length : Int32) (v_point : Int32) (v_roundLength : Int32) (v_roundPoint : Int32) (v_written : Int32) (v_bodySize : Int32) : va_W := [(h_this, .inr (7, [.ref g_this_tape, .int v_size, .int v_kind, .long v_number, .int v_exponent, .ref g_this_above, .int v_aboveSize, .ref g_this_below, .int v_belowSize, .int v_state, .int v_digits, .ref g_this_digit, .int v_behind, .int v_power, .int v_powerLess, .int v_less, .int v_plainDigits, .int v_sixteen, .ref g_this_limbs, .int v_limbCount, .ref g_this_exact, .int v_length, .int v_point, .ref g_this_round, .int v_roundLength, .int v_roundPoint, .ref g_this_out, .int v_written, .ref g_this_body, .int v_bodySize]))]
def f_M_nearestWhole_87 (v_kind : Int32) (v_number : Int64) (v_exponent : Int32) (z1 : Int64) (z2 : Int32) (z3 : Int32) : Option (Int32 × Int32 × Int64 × Int32) :=
  bi4 (f_M_nearest v_kind v_number v_exponent z1 z2 z3) fun r1 v2 v3 v4 =>
  some (r1, v2, v3, v4)
def f_M_nearestWhole_57 (v_kind : Int32) (v_number : Int64) (v_exponent : Int32) (z1 : Int64) (z2 : Int32) (z3 : Int32) : Option (Int32 × Int32 × Int64 × Int32) :=
  bi4 (f_M_nearest v_kind v_number v_exponent z1 z2 z3) fun r5 v6 v7 v8 =>
  some (r5, v6, v7, v8)
def f_M_nearestWhole_31 (v_kind : Int32) (v_number : Int64) (v_exponent : Int32) (y1 : Int64) (y3 : Int32) (z0 : Int64) : Option (Int32 × Int32 × Int64 × Int32) :=
  if (4611686018427387904 : Int64) ≤ z0 then
    if (0 : Int64) ≤ y1 then
      f_M_nearestWhole_87 v_kind v_number v_exponent ((lsr z0 (1 : Int32)) ||| (z0 &&& (1 : Int64))) (y3 + (1 : Int32)) (0 : Int32)
    else
      f_M_nearestWhole_87 v_kind v_number v_exponent ((lsr z0 (1 : Int32)) ||| (z0 &&& (1 : Int64))) (y3 + (1 : Int32)) (1 : Int32)
  else
    if (0 : Int64) ≤ y1 then
      f_M_nearestWhole_57 v_kind v_number v_exponent z0 y3 (0 : Int32)
    else
      f_M_nearestWhole_57 v_kind v_number v_exponent z0 y3 (1 : Int32)
def f_M_nearestWhole (v_kind : Int32) (v_number : Int64) (v_exponent : Int32) (p1 : Int64) (p3 : Int32) : Option (Int32 × Int32 × Int64 × Int32) :=
  if p1 = (-9223372036854775808 : Int64) then
    bi4 (f_M_nearest v_kind v_number v_exponent (1 : Int64) ((63 : Int32) + p3) (1 : Int32)) fun r14 v15 v16 v17 =>
    some (r14, v15, v16, v17)
  else
    if (0 : Int64) ≤ p1 then
      f_M_nearestWhole_31 v_kind v_number v_exponent p1 p3 p1
    else
      f_M_nearestWhole_31 v_kind v_number v_exponent p1 p3 (-p1)
set_option maxHeartbeats 4000000 in
set_option maxRecDepth 100000 in
theorem s_M_nearestWhole_87 {p : Program} {l : Launch} {e : Env} {s : State} {m : MethodId} {args : Array Value} {below : List Frame} {meth : Method} {c : Code} {dC : Nat → ClassId} {dI : Nat → Nat → Nat} {A : Nat → Prop} {X : SXT} {g_this_tape : Nat} {g_this_above : Nat} {g_this_below : Nat} {g_this_digit : Nat} {g_this_limbs : Nat} {g_this_exact : Nat} {g_this_round : Nat} {g_this_out : Nat} {g_this_body : Nat} {h_this : Nat} {v_size : Int32} {v_aboveSize : Int32} {v_belowSize : Int32} {v_state : Int32} {v_digits : Int32} {v_behind : Int32} {v_power : Int32} {v_powerLess : Int32} {v_less : Int32} {v_plainDigits : Int32} {v_sixteen : Int32} {v_limbCount : Int32} {v_length : Int32} {v_point : Int32} {v_roundLength : Int32} {v_roundPoint : Int32} {v_written : Int32} {v_bodySize : Int32} {res : Int32 × Int32 × Int64 × Int32}  (cx : cxx p s m args meth c b_M_nearestWhole 6 (some .int) R_M) (hK : va_K (dC, dI) classes [] s) (hA : ∀ q, s.heap.size ≤ q → A q) (hX : SX X A s s.heap)  : ∀ (v_kind : Int32) (v_number : Int64) (v_exponent : Int32) (z1 : Int64) (z2 : Int32) (z3 : Int32) (H : Heap) (locs : List Loc) (ls : Array Slot), va_P (dC, dI) classes (WS_M_nearestWhole g_this_tape g_this_above g_this_below g_this_digit g_this_limbs g_this_exact g_this_round g_this_out g_this_body h_this v_size v_kind v_number v_exponent v_aboveSize v_belowSize v_state v_digits v_behind v_power v_powerLess v_less v_plainDigits v_sixteen v_limbCount v_length v_point v_roundLength v_roundPoint v_written v_bodySize) H → va_D A (WS_M_nearestWhole g_this_tape g_this_above g_this_below g_this_digit g_this_limbs g_this_exact g_this_round g_this_out g_this_body h_this v_size v_kind v_number v_exponent v_aboveSize v_belowSize v_state v_digits v_behind v_power v_powerLess v_less v_plainDigits v_sixteen v_limbCount v_length v_point v_roundLength v_roundPoint v_written v_bodySize) → va_S A s.heap H locs → lv_has ls 6 [(0, .ref h_this)] → f_M_nearestWhole_87 v_kind v_number v_exponent z1 z2 z3 = some res → W p l e ({ frames := 2, cells := 0, slots := 0, locals := 58 }) s m args below meth c H locs 0 0 (MQ below (va_Qi (fun (r : Int32) (u : Int32 × Int64 × Int32) => some (r, u) = some res) (gB (dC, dI) [] A (fun (u : Int32 × Int64 × Int32) => (WS_M_nearestWhole g_this_tape g_this_above g_this_below g_this_digit g_this_limbs g_this_exact g_this_round g_this_out g_this_body h_this v_size u.1 u.2.1 u.2.2 v_aboveSize v_belowSize v_state v_digits v_behind v_power v_powerLess v_less v_plainDigits v_sixteen v_limbCount v_length v_point v_roundLength v_roundPoint v_written v_bodySize))) A) args s 0 0 A) (F0 m 87 ls [.int z3, .int z2, .long z1, .ref h_this]) := by
  intro v_kind v_number v_exponent z1 z2 z3 H locs ls hP hD hS hl h
  obtain ⟨hx, hb, hr, hml, hown, ht, hlk⟩ := id cx
  obtain ⟨r1, v2, v3, v4, hf, h⟩ := bi4_x h
  refine clVi (D := (dC, dI)) (n := 3) (As := [.long z1, .int z2, .int z3]) ⟨hx, hb, hml, hown, ht⟩ (c_M_nearest l dC dI X g_this_tape g_this_above g_this_below g_this_digit g_this_limbs g_this_exact g_this_round g_this_out g_this_body h_this H.size v_size v_kind v_number v_exponent v_aboveSize v_belowSize v_state v_digits v_behind v_power v_powerLess v_less v_plainDigits v_sixteen v_limbCount v_length v_point v_roundLength v_roundPoint v_written v_bodySize z1 z2 z3 (r1, v2, v3, v4) hf) (gV q_496 q_497 q_498 q_490 q_499) (by decide +kernel) ⟨rfl, rfl, Nat.le_of_ble_eq_true rfl, Nat.le_of_ble_eq_true rfl⟩ hK hP hD hS hA hX [0] [] [] rfl (wr := []) rfl (by decide) (by decide) (by decide) rfl (va_recv hK hP (ci := 7) (q0 := 0) rfl rfl) rfl hl.1 rfl (lv_room (Nat.le_of_ble_eq_true rfl)) d_M_nearestWhole_87 ⟨Nat.zero_le _, Nat.zero_le _⟩ (fun r9 u9 H locs h9 hP hD hS => ?_)
  cases h9
  have hP : va_P (dC, dI) classes (WS_M_nearestWhole g_this_tape g_this_above g_this_below g_this_digit g_this_limbs g_this_exact g_this_round g_this_out g_this_body h_this v_size v2 v3 v4 v_aboveSize v_belowSize v_state v_digits v_behind v_power v_powerLess v_less v_plainDigits v_sixteen v_limbCount v_length v_point v_roundLength v_roundPoint v_written v_bodySize) H := hP.sub [0] rfl
  have hD : va_D A (WS_M_nearestWhole g_this_tape g_this_above g_this_below g_this_digit g_this_limbs g_this_exact g_this_round g_this_out g_this_body h_this v_size v2 v3 v4 v_aboveSize v_belowSize v_state v_digits v_behind v_power v_powerLess v_less v_plainDigits v_sixteen v_limbCount v_length v_point v_roundLength v_roundPoint v_written v_bodySize) := hD.sub [0] (by decide) rfl
  exact W.iret (v := r1) hx hb hr (fun t ht9 hW => ⟨⟨r1, (v2, v3, v4), rfl, h, by rw [ht9]; exact hP, va_K.moved hW.alike hK, hD⟩, hS.F ht9⟩) hS.2.2 d_M_nearestWhole_90 hlk
set_option maxHeartbeats 4000000 in
set_option maxRecDepth 100000 in
theorem s_M_nearestWhole_57 {p : Program} {l : Launch} {e : Env} {s : State} {m : MethodId} {args : Array Value} {below : List Frame} {meth : Method} {c : Code} {dC : Nat → ClassId} {dI : Nat → Nat → Nat} {A : Nat → Prop} {X : SXT} {g_this_tape : Nat} {g_this_above : Nat} {g_this_below : Nat} {g_this_digit : Nat} {g_this_limbs : Nat} {g_this_exact : Nat} {g_this_round : Nat} {g_this_out : Nat} {g_this_body : Nat} {h_this : Nat} {v_size : Int32} {v_aboveSize : Int32} {v_belowSize : Int32} {v_state : Int32} {v_digits : Int32} {v_behind : Int32} {v_power : Int32} {v_powerLess : Int32} {v_less : Int32} {v_plainDigits : Int32} {v_sixteen : Int32} {v_limbCount : Int32} {v_length : Int32} {v_point : Int32} {v_roundLength : Int32} {v_roundPoint : Int32} {v_written : Int32} {v_bodySize : Int32} {res : Int32 × Int32 × Int64 × Int32}  (cx : cxx p s m args meth c b_M_nearestWhole 6 (some .int) R_M) (hK : va_K (dC, dI) classes [] s) (hA : ∀ q, s.heap.size ≤ q → A q) (hX : SX X A s s.heap)  : ∀ (v_kind : Int32) (v_number : Int64) (v_exponent : Int32) (z1 : Int64) (z2 : Int32) (z3 : Int32) (H : Heap) (locs : List Loc) (ls : Array Slot), va_P (dC, dI) classes (WS_M_nearestWhole g_this_tape g_this_above g_this_below g_this_digit g_this_limbs g_this_exact g_this_round g_this_out g_this_body h_this v_size v_kind v_number v_exponent v_aboveSize v_belowSize v_state v_digits v_behind v_power v_powerLess v_less v_plainDigits v_sixteen v_limbCount v_length v_point v_roundLength v_roundPoint v_written v_bodySize) H → va_D A (WS_M_nearestWhole g_this_tape g_this_above g_this_below g_this_digit g_this_limbs g_this_exact g_this_round g_this_out g_this_body h_this v_size v_kind v_number v_exponent v_aboveSize v_belowSize v_state v_digits v_behind v_power v_powerLess v_less v_plainDigits v_sixteen v_limbCount v_length v_point v_roundLength v_roundPoint v_written v_bodySize) → va_S A s.heap H locs → lv_has ls 6 [(0, .ref h_this)] → f_M_nearestWhole_57 v_kind v_number v_exponent z1 z2 z3 = some res → W p l e ({ frames := 2, cells := 0, slots := 0, locals := 58 }) s m args below meth c H locs 0 0 (MQ below (va_Qi (fun (r : Int32) (u : Int32 × Int64 × Int32) => some (r, u) = some res) (gB (dC, dI) [] A (fun (u : Int32 × Int64 × Int32) => (WS_M_nearestWhole g_this_tape g_this_above g_this_below g_this_digit g_this_limbs g_this_exact g_this_round g_this_out g_this_body h_this v_size u.1 u.2.1 u.2.2 v_aboveSize v_belowSize v_state v_digits v_behind v_power v_powerLess v_less v_plainDigits v_sixteen v_limbCount v_length v_point v_roundLength v_roundPoint v_written v_bodySize))) A) args s 0 0 A) (F0 m 57 ls [.int z3, .int z2, .long z1, .ref h_this]) := by
  intro v_kind v_number v_exponent z1 z2 z3 H locs ls hP hD hS hl h
  obtain ⟨hx, hb, hr, hml, hown, ht, hlk⟩ := id cx
  obtain ⟨r5, v6, v7, v8, hf, h⟩ := bi4_x h
  refine clVi (D := (dC, dI)) (n := 3) (As := [.long z1, .int z2, .int z3]) ⟨hx, hb, hml, hown, ht⟩ (c_M_nearest l dC dI X g_this_tape g_this_above g_this_below g_this_digit g_this_limbs g_this_exact g_this_round g_this_out g_this_body h_this H.size v_size v_kind v_number v_exponent v_aboveSize v_belowSize v_state v_digits v_behind v_power v_powerLess v_less v_plainDigits v_sixteen v_limbCount v_length v_point v_roundLength v_roundPoint v_written v_bodySize z1 z2 z3 (r5, v6, v7, v8) hf) (gV q_496 q_497 q_498 q_490 q_499) (by decide +kernel) ⟨rfl, rfl, Nat.le_of_ble_eq_true rfl, Nat.le_of_ble_eq_true rfl⟩ hK hP hD hS hA hX [0] [] [] rfl (wr := []) rfl (by decide) (by decide) (by decide) rfl (va_recv hK hP (ci := 7) (q0 := 0) rfl rfl) rfl hl.1 rfl (lv_room (Nat.le_of_ble_eq_true rfl)) d_M_nearestWhole_57 ⟨Nat.zero_le _, Nat.zero_le _⟩ (fun r9 u9 H locs h9 hP hD hS => ?_)
  cases h9
  have hP : va_P (dC, dI) classes (WS_M_nearestWhole g_this_tape g_this_above g_this_below g_this_digit g_this_limbs g_this_exact g_this_round g_this_out g_this_body h_this v_size v6 v7 v8 v_aboveSize v_belowSize v_state v_digits v_behind v_power v_powerLess v_less v_plainDigits v_sixteen v_limbCount v_length v_point v_roundLength v_roundPoint v_written v_bodySize) H := hP.sub [0] rfl
  have hD : va_D A (WS_M_nearestWhole g_this_tape g_this_above g_this_below g_this_digit g_this_limbs g_this_exact g_this_round g_this_out g_this_body h_this v_size v6 v7 v8 v_aboveSize v_belowSize v_state v_digits v_behind v_power v_powerLess v_less v_plainDigits v_sixteen v_limbCount v_length v_point v_roundLength v_roundPoint v_written v_bodySize) := hD.sub [0] (by decide) rfl
  refine lv_goto (tgt := 90) hx hb d_M_nearestWhole_60 (by decide) ?_
  exact W.iret (v := r5) hx hb hr (fun t ht9 hW => ⟨⟨r5, (v6, v7, v8), rfl, h, by rw [ht9]; exact hP, va_K.moved hW.alike hK, hD⟩, hS.F ht9⟩) hS.2.2 d_M_nearestWhole_90 hlk
set_option maxHeartbeats 4000000 in
set_option maxRecDepth 100000 in
theorem s_M_nearestWhole_31 {p : Program} {l : Launch} {e : Env} {s : State} {m : MethodId} {args : Array Value} {below : List Frame} {meth : Method} {c : Code} {dC : Nat → ClassId} {dI : Nat → Nat → Nat} {A : Nat → Prop} {X : SXT} {g_this_tape : Nat} {g_this_above : Nat} {g_this_below : Nat} {g_this_digit : Nat} {g_this_limbs : Nat} {g_this_exact : Nat} {g_this_round : Nat} {g_this_out : Nat} {g_this_body : Nat} {h_this : Nat} {v_size : Int32} {v_aboveSize : Int32} {v_belowSize : Int32} {v_state : Int32} {v_digits : Int32} {v_behind : Int32} {v_power : Int32} {v_powerLess : Int32} {v_less : Int32} {v_plainDigits : Int32} {v_sixteen : Int32} {v_limbCount : Int32} {v_length : Int32} {v_point : Int32} {v_roundLength : Int32} {v_roundPoint : Int32} {v_written : Int32} {v_bodySize : Int32} {res : Int32 × Int32 × Int64 × Int32}  (cx : cxx p s m args meth c b_M_nearestWhole 6 (some .int) R_M) (hK : va_K (dC, dI) classes [] s) (hA : ∀ q, s.heap.size ≤ q → A q) (hX : SX X A s s.heap)  : ∀ (v_kind : Int32) (v_number : Int64) (v_exponent : Int32) (y1 : Int64) (y3 : Int32) (z0 : Int64) (H : Heap) (locs : List Loc) (ls : Array Slot), va_P (dC, dI) classes (WS_M_nearestWhole g_this_tape g_this_above g_this_below g_this_digit g_this_limbs g_this_exact g_this_round g_this_out g_this_body h_this v_size v_kind v_number v_exponent v_aboveSize v_belowSize v_state v_digits v_behind v_power v_powerLess v_less v_plainDigits v_sixteen v_limbCount v_length v_point v_roundLength v_roundPoint v_written v_bodySize) H → va_D A (WS_M_nearestWhole g_this_tape g_this_above g_this_below g_this_digit g_this_limbs g_this_exact g_this_round g_this_out g_this_body h_this v_size v_kind v_number v_exponent v_aboveSize v_belowSize v_state v_digits v_behind v_power v_powerLess v_less v_plainDigits v_sixteen v_limbCount v_length v_point v_roundLength v_roundPoint v_written v_bodySize) → va_S A s.heap H locs → lv_has ls 6 [(0, .ref h_this), (1, .long y1), (3, .int y3)] → f_M_nearestWhole_31 v_kind v_number v_exponent y1 y3 z0 = some res → W p l e ({ frames := 2, cells := 0, slots := 0, locals := 58 }) s m args below meth c H locs 0 0 (MQ below (va_Qi (fun (r : Int32) (u : Int32 × Int64 × Int32) => some (r, u) = some res) (gB (dC, dI) [] A (fun (u : Int32 × Int64 × Int32) => (WS_M_nearestWhole g_this_tape g_this_above g_this_below g_this_digit g_this_limbs g_this_exact g_this_round g_this_out g_this_body h_this v_size u.1 u.2.1 u.2.2 v_aboveSize v_belowSize v_state v_digits v_behind v_power v_powerLess v_less v_plainDigits v_sixteen v_limbCount v_length v_point v_roundLength v_roundPoint v_written v_bodySize))) A) args s 0 0 A) (F0 m 31 ls [.long z0]) := by
  intro v_kind v_number v_exponent y1 y3 z0 H locs ls hP hD hS hl h
  obtain ⟨hx, hb, hr, hml, hown, ht, hlk⟩ := id cx
  refine lv_lstore (lv' := [(4, .long z0), (0, .ref h_this), (1, .long y1), (3, .int y3)]) hx hb d_M_nearestWhole_31 hl (by decide) rfl (fun ls hl => ?_)
  refine lv_lload hx hb d_M_nearestWhole_33 (lv_at hl 0 rfl) ?_
  refine lv_ldc2 (v := 4611686018427387904) hx hb hown (ht _ q_500) d_M_nearestWhole_35 ?_
  refine W.lcmp hx hb d_M_nearestWhole_38 ?_
  refine lv_if_ge (tgt := 63) hx hb d_M_nearestWhole_39 (by decide) (fun c9 => ?_) (fun c9 => ?_)
  · have c9 := (lg_cmp_ge _ _).mp c9
    have h := if_t c9 h
    refine lv_aload_n hx hb d_M_nearestWhole_63 rfl (lv_at hl 1 rfl) ?_
    refine lv_lload hx hb d_M_nearestWhole_64 (lv_at hl 0 rfl) ?_
    refine lv_iconst (v := 1) hx hb d_M_nearestWhole_66 (by decide) ?_
    refine lv_lshr (v := lsr z0 (1 : Int32)) hx hb d_M_nearestWhole_67 rfl ?_
    refine lv_lload hx hb d_M_nearestWhole_68 (lv_at hl 0 rfl) ?_
    refine lv_lconst (v := 1) hx hb d_M_nearestWhole_70 (by decide) ?_
    refine lv_land hx hb d_M_nearestWhole_71 ?_
    refine lv_lor hx hb d_M_nearestWhole_72 ?_
    refine lv_iload_n hx hb d_M_nearestWhole_73 rfl (lv_at hl 3 rfl) ?_
    refine lv_iconst (v := 1) hx hb d_M_nearestWhole_74 (by decide) ?_
    refine lv_iadd hx hb d_M_nearestWhole_75 ?_
    refine lv_lload_n hx hb d_M_nearestWhole_76 rfl (lv_at hl 2 rfl) ?_
    refine lv_lconst (v := 0) hx hb d_M_nearestWhole_77 (by decide) ?_
    refine W.lcmp hx hb d_M_nearestWhole_78 ?_
    refine lv_if_ge (tgt := 86) hx hb d_M_nearestWhole_79 (by decide) (fun c10 => ?_) (fun c10 => ?_)
    · have c10 := (lg_cmp_ge _ _).mp c10
      have h := if_t c10 h
      refine lv_iconst (v := 0) hx hb d_M_nearestWhole_86 (by decide) ?_
      exact s_M_nearestWhole_87 cx hK hA hX v_kind v_number v_exponent ((lsr z0 (1 : Int32)) ||| (z0 &&& (1 : Int64))) (y3 + (1 : Int32)) (0 : Int32) H locs ls hP hD hS (lv_sub hl [1] rfl) h
    · have c10 := fun h9 => c10 ((lg_cmp_ge _ _).mpr h9)
      have h := if_f c10 h
      refine lv_iconst (v := 1) hx hb d_M_nearestWhole_82 (by decide) ?_
      refine lv_goto (tgt := 87) hx hb d_M_nearestWhole_83 (by decide) ?_
      exact s_M_nearestWhole_87 cx hK hA hX v_kind v_number v_exponent ((lsr z0 (1 : Int32)) ||| (z0 &&& (1 : Int64))) (y3 + (1 : Int32)) (1 : Int32) H locs ls hP hD hS (lv_sub hl [1] rfl) h
  · have c9 := fun h9 => c9 ((lg_cmp_ge _ _).mpr h9)
    have h := if_f c9 h
    refine lv_aload_n hx hb d_M_nearestWhole_42 rfl (lv_at hl 1 rfl) ?_
    refine lv_lload hx hb d_M_nearestWhole_43 (lv_at hl 0 rfl) ?_
    refine lv_iload_n hx hb d_M_nearestWhole_45 rfl (lv_at hl 3 rfl) ?_
    refine lv_lload_n hx hb d_M_nearestWhole_46 rfl (lv_at hl 2 rfl) ?_
    refine lv_lconst (v := 0) hx hb d_M_nearestWhole_47 (by decide) ?_
    refine W.lcmp hx hb d_M_nearestWhole_48 ?_
    refine lv_if_ge (tgt := 56) hx hb d_M_nearestWhole_49 (by decide) (fun c11 => ?_) (fun c11 => ?_)
    · have c11 := (lg_cmp_ge _ _).mp c11
      have h := if_t c11 h
      refine lv_iconst (v := 0) hx hb d_M_nearestWhole_56 (by decide) ?_
      exact s_M_nearestWhole_57 cx hK hA hX v_kind v_number v_exponent z0 y3 (0 : Int32) H locs ls hP hD hS (lv_sub hl [1] rfl) h
    · have c11 := fun h9 => c11 ((lg_cmp_ge _ _).mpr h9)
      have h := if_f c11 h
      refine lv_iconst (v := 1) hx hb d_M_nearestWhole_52 (by decide) ?_
      refine lv_goto (tgt := 57) hx hb d_M_nearestWhole_53 (by decide) ?_
      exact s_M_nearestWhole_57 cx hK hA hX v_kind v_number v_exponent z0 y3 (1 : Int32) H locs ls hP hD hS (lv_sub hl [1] rfl) h
set_option maxHeartbeats 4000000 in
set_option maxRecDepth 100000 in
theorem s_M_nearestWhole_e {p : Program} {l : Launch} {e : Env} {s : State} {m : MethodId} {args : Array Value} {below : List Frame} {meth : Method} {c : Code} {dC : Nat → ClassId} {dI : Nat → Nat → Nat} {A : Nat → Prop} {X : SXT} {g_this_tape : Nat} {g_this_above : Nat} {g_this_below : Nat} {g_this_digit : Nat} {g_this_limbs : Nat} {g_this_exact : Nat} {g_this_round : Nat} {g_this_out : Nat} {g_this_body : Nat} {h_this : Nat} {v_size : Int32} {v_aboveSize : Int32} {v_belowSize : Int32} {v_state : Int32} {v_digits : Int32} {v_behind : Int32} {v_power : Int32} {v_powerLess : Int32} {v_less : Int32} {v_plainDigits : Int32} {v_sixteen : Int32} {v_limbCount : Int32} {v_length : Int32} {v_point : Int32} {v_roundLength : Int32} {v_roundPoint : Int32} {v_written : Int32} {v_bodySize : Int32} {res : Int32 × Int32 × Int64 × Int32} (cx : cxx p s m args meth c b_M_nearestWhole 6 (some .int) R_M) (hK : va_K (dC, dI) classes [] s) (hA : ∀ q, s.heap.size ≤ q → A q) (hX : SX X A s s.heap) : ∀ (v_kind : Int32) (v_number : Int64) (v_exponent : Int32) (p1 : Int64) (p3 : Int32) (H : Heap) (locs : List Loc) (ls : Array Slot), va_P (dC, dI) classes (WS_M_nearestWhole g_this_tape g_this_above g_this_below g_this_digit g_this_limbs g_this_exact g_this_round g_this_out g_this_body h_this v_size v_kind v_number v_exponent v_aboveSize v_belowSize v_state v_digits v_behind v_power v_powerLess v_less v_plainDigits v_sixteen v_limbCount v_length v_point v_roundLength v_roundPoint v_written v_bodySize) H → va_D A (WS_M_nearestWhole g_this_tape g_this_above g_this_below g_this_digit g_this_limbs g_this_exact g_this_round g_this_out g_this_body h_this v_size v_kind v_number v_exponent v_aboveSize v_belowSize v_state v_digits v_behind v_power v_powerLess v_less v_plainDigits v_sixteen v_limbCount v_length v_point v_roundLength v_roundPoint v_written v_bodySize) → va_S A s.heap H locs → lv_has ls 6 [(0, .ref h_this), (1, .long p1), (3, .int p3)] → f_M_nearestWhole v_kind v_number v_exponent p1 p3 = some res → W p l e ({ frames := 2, cells := 0, slots := 0, locals := 58 }) s m args below meth c H locs 0 0 (MQ below (va_Qi (fun (r : Int32) (u : Int32 × Int64 × Int32) => some (r, u) = some res) (gB (dC, dI) [] A (fun (u : Int32 × Int64 × Int32) => (WS_M_nearestWhole g_this_tape g_this_above g_this_below g_this_digit g_this_limbs g_this_exact g_this_round g_this_out g_this_body h_this v_size u.1 u.2.1 u.2.2 v_aboveSize v_belowSize v_state v_digits v_behind v_power v_powerLess v_less v_plainDigits v_sixteen v_limbCount v_length v_point v_roundLength v_roundPoint v_written v_bodySize))) A) args s 0 0 A) (F0 m 0 ls []) := by
  intro v_kind v_number v_exponent p1 p3 H locs ls hP hD hS hl h
  obtain ⟨hx, hb, hr, hml, hown, ht, hlk⟩ := id cx
  refine lv_lload_n hx hb d_M_nearestWhole_0 rfl (lv_at hl 1 rfl) ?_
  refine lv_ldc2 (v := -9223372036854775808) hx hb hown (ht _ q_501) d_M_nearestWhole_1 ?_
  refine W.lcmp hx hb d_M_nearestWhole_4 ?_
  refine lv_if_ne (tgt := 19) hx hb d_M_nearestWhole_5 (by decide) (fun c12 => ?_) (fun c12 => ?_)
  · have c12 := fun h9 => c12 ((lg_cmp_eq _ _).mpr h9)
    have h := if_f c12 h
    refine lv_lload_n hx hb d_M_nearestWhole_19 rfl (lv_at hl 1 rfl) ?_
    refine lv_lconst (v := 0) hx hb d_M_nearestWhole_20 (by decide) ?_
    refine W.lcmp hx hb d_M_nearestWhole_21 ?_
    refine lv_if_ge (tgt := 30) hx hb d_M_nearestWhole_22 (by decide) (fun c13 => ?_) (fun c13 => ?_)
    · have c13 := (lg_cmp_ge _ _).mp c13
      have h := if_t c13 h
      refine lv_lload_n hx hb d_M_nearestWhole_30 rfl (lv_at hl 1 rfl) ?_
      exact s_M_nearestWhole_31 cx hK hA hX v_kind v_number v_exponent p1 p3 p1 H locs ls hP hD hS (lv_sub hl [0, 1, 2] rfl) h
    · have c13 := fun h9 => c13 ((lg_cmp_ge _ _).mpr h9)
      have h := if_f c13 h
      refine lv_lload_n hx hb d_M_nearestWhole_25 rfl (lv_at hl 1 rfl) ?_
      refine lv_lneg hx hb d_M_nearestWhole_26 ?_
      refine lv_goto (tgt := 31) hx hb d_M_nearestWhole_27 (by decide) ?_
      exact s_M_nearestWhole_31 cx hK hA hX v_kind v_number v_exponent p1 p3 (-p1) H locs ls hP hD hS (lv_sub hl [0, 1, 2] rfl) h
  · have c12 := (lg_cmp_eq _ _).mp c12
    have h := if_t c12 h
    refine lv_aload_n hx hb d_M_nearestWhole_8 rfl (lv_at hl 0 rfl) ?_
    refine lv_lconst (v := 1) hx hb d_M_nearestWhole_9 (by decide) ?_
    refine lv_bipush (v := 63) hx hb d_M_nearestWhole_10 (by decide) ?_
    refine lv_iload_n hx hb d_M_nearestWhole_12 rfl (lv_at hl 2 rfl) ?_
    refine lv_iadd hx hb d_M_nearestWhole_13 ?_
    refine lv_iconst (v := 1) hx hb d_M_nearestWhole_14 (by decide) ?_
    obtain ⟨r14, v15, v16, v17, hf, h⟩ := bi4_x h
    refine clVi (D := (dC, dI)) (n := 3) (As := [.long (1 : Int64), .int ((63 : Int32) + p3), .int (1 : Int32)]) ⟨hx, hb, hml, hown, ht⟩ (c_M_nearest l dC dI X g_this_tape g_this_above g_this_below g_this_digit g_this_limbs g_this_exact g_this_round g_this_out g_this_body h_this H.size v_size v_kind v_number v_exponent v_aboveSize v_belowSize v_state v_digits v_behind v_power v_powerLess v_less v_plainDigits v_sixteen v_limbCount v_length v_point v_roundLength v_roundPoint v_written v_bodySize (1 : Int64) ((63 : Int32) + p3) (1 : Int32) (r14, v15, v16, v17) hf) (gV q_496 q_497 q_498 q_490 q_499) (by decide +kernel) ⟨rfl, rfl, Nat.le_of_ble_eq_true rfl, Nat.le_of_ble_eq_true rfl⟩ hK hP hD hS hA hX [0] [] [] rfl (wr := []) rfl (by decide) (by decide) (by decide) rfl (va_recv hK hP (ci := 7) (q0 := 0) rfl rfl) rfl hl.1 rfl (lv_room (Nat.le_of_ble_eq_true rfl)) d_M_nearestWhole_15 ⟨Nat.zero_le _, Nat.zero_le _⟩ (fun r9 u9 H locs h9 hP hD hS => ?_)
    cases h9
    have hP : va_P (dC, dI) classes (WS_M_nearestWhole g_this_tape g_this_above g_this_below g_this_digit g_this_limbs g_this_exact g_this_round g_this_out g_this_body h_this v_size v15 v16 v17 v_aboveSize v_belowSize v_state v_digits v_behind v_power v_powerLess v_less v_plainDigits v_sixteen v_limbCount v_length v_point v_roundLength v_roundPoint v_written v_bodySize) H := hP.sub [0] rfl
    have hD : va_D A (WS_M_nearestWhole g_this_tape g_this_above g_this_below g_this_digit g_this_limbs g_this_exact g_this_round g_this_out g_this_body h_this v_size v15 v16 v17 v_aboveSize v_belowSize v_state v_digits v_behind v_power v_powerLess v_less v_plainDigits v_sixteen v_limbCount v_length v_point v_roundLength v_roundPoint v_written v_bodySize) := hD.sub [0] (by decide) rfl
    exact W.iret (v := r14) hx hb hr (fun t ht9 hW => ⟨⟨r14, (v15, v16, v17), rfl, h, by rw [ht9]; exact hP, va_K.moved hW.alike hK, hD⟩, hS.F ht9⟩) hS.2.2 d_M_nearestWhole_18 hlk
set_option maxHeartbeats 4000000 in
set_option maxRecDepth 100000 in
theorem c_M_nearestWhole (l : Launch) (dC : Nat → ClassId) (dI : Nat → Nat → Nat) (X : SXT) (g_this_tape : Nat) (g_this_above : Nat) (g_this_below : Nat) (g_this_digit : Nat) (g_this_limbs : Nat) (g_this_exact : Nat) (g_this_round : Nat) (g_this_out : Nat) (g_this_body : Nat) (h_this : Nat) (sz : Nat) (v_size : Int32) (v_kind : Int32) (v_number : Int64) (v_exponent : Int32) (v_aboveSize : Int32) (v_belowSize : Int32) (v_state : Int32) (v_digits : Int32) (v_behind : Int32) (v_power : Int32) (v_powerLess : Int32) (v_less : Int32) (v_plainDigits : Int32) (v_sixteen : Int32) (v_limbCount : Int32) (v_length : Int32) (v_point : Int32) (v_roundLength : Int32) (v_roundPoint : Int32) (v_written : Int32) (v_bodySize : Int32) (p1 : Int64) (p3 : Int32) (res : Int32 × Int32 × Int64 × Int32) (hf : f_M_nearestWhole v_kind v_number v_exponent p1 p3 = some res) : Met l y_M_nearestWhole (.code y_M_nearestWhole b_M_nearestWhole 6 (some .int) :: w0) ({ frames := 2, cells := 0, slots := 0, locals := 58 }) (va_Pc [.ref h_this, .long p1, .int p3] (gP (dC, dI) (WS_M_nearestWhole g_this_tape g_this_above g_this_below g_this_digit g_this_limbs g_this_exact g_this_round g_this_out g_this_body h_this v_size v_kind v_number v_exponent v_aboveSize v_belowSize v_state v_digits v_behind v_power v_powerLess v_less v_plainDigits v_sixteen v_limbCount v_length v_point v_roundLength v_roundPoint v_written v_bodySize) [] sz X)) (va_Qi (fun (r : Int32) (u : Int32 × Int64 × Int32) => some (r, u) = some res) (gB (dC, dI) [] (va_A (WS_M_nearestWhole g_this_tape g_this_above g_this_below g_this_digit g_this_limbs g_this_exact g_this_round g_this_out g_this_body h_this v_size v_kind v_number v_exponent v_aboveSize v_belowSize v_state v_digits v_behind v_power v_powerLess v_less v_plainDigits v_sixteen v_limbCount v_length v_point v_roundLength v_roundPoint v_written v_bodySize) sz) (fun (u : Int32 × Int64 × Int32) => (WS_M_nearestWhole g_this_tape g_this_above g_this_below g_this_digit g_this_limbs g_this_exact g_this_round g_this_out g_this_body h_this v_size u.1 u.2.1 u.2.2 v_aboveSize v_belowSize v_state v_digits v_behind v_power v_powerLess v_less v_plainDigits v_sixteen v_limbCount v_length v_point v_roundLength v_roundPoint v_written v_bodySize))) (va_A (WS_M_nearestWhole g_this_tape g_this_above g_this_below g_this_digit g_this_limbs g_this_exact g_this_round g_this_out g_this_body h_this v_size v_kind v_number v_exponent v_aboveSize v_belowSize v_state v_digits v_behind v_power v_powerLess v_less v_plainDigits v_sixteen v_limbCount v_length v_point v_roundLength v_roundPoint v_written v_bodySize) sz)) 0 0 (va_A (WS_M_nearestWhole g_this_tape g_this_above g_this_below g_this_digit g_this_limbs g_this_exact g_this_round g_this_out g_this_body h_this v_size v_kind v_number v_exponent v_aboveSize v_belowSize v_state v_digits v_behind v_power v_powerLess v_less v_plainDigits v_sixteen v_limbCount v_length v_point v_roundLength v_roundPoint v_written v_bodySize) sz) := by
  refine Met.ofW (cc := b_M_nearestWhole) (maxL := 6) (ret := (some .int)) (by decide) rfl ?_
  intro p e s m args below meth c s₁ B hml hv
  obtain ⟨rfl, hsz, hP, hK, hD0, hX⟩ := hv
  subst hsz
  have cx : cxx p s m ([.ref h_this, .long p1, .int p3] : List Value).toArray meth c b_M_nearestWhole 6 (some .int) R_M := ⟨B.exec, B.bytes, B.returns, hml, findClass_of_methodNamed B.named, fun w9 hw => atoms_spec (ws := .code y_M_nearestWhole b_M_nearestWhole 6 (some .int) :: w0) B.pre w9 (List.mem_cons_of_mem _ hw), B.notSynchronized⟩
  have hD := hD0.self (sz := s.heap.size)
  generalize hAe : va_A (WS_M_nearestWhole g_this_tape g_this_above g_this_below g_this_digit g_this_limbs g_this_exact g_this_round g_this_out g_this_body h_this v_size v_kind v_number v_exponent v_aboveSize v_belowSize v_state v_digits v_behind v_power v_powerLess v_less v_plainDigits v_sixteen v_limbCount v_length v_point v_roundLength v_roundPoint v_written v_bodySize) s.heap.size = A at hD hX ⊢
  have hA : ∀ q : Nat, s.heap.size ≤ q → A q := fun q h => by rw [← hAe]; exact Or.inr h
  have hS : va_S A s.heap s.heap [] := va_S.rf
  have hl := lv_entry ([.ref h_this, .long p1, .int p3]) (n := 6) (Nat.le_of_ble_eq_true rfl)
  rw [lg_entry_eq]
  generalize (lg_sl ([.ref h_this, .long p1, .int p3]) ++ List.replicate (6 - (lg_sl ([.ref h_this, .long p1, .int p3])).length) Slot.unset).toArray = ls at hl ⊢
  have hl : lv_has ls 6 [(0, .ref h_this), (1, .long p1), (3, .int p3)] := hl
  exact s_M_nearestWhole_e cx hK hA hX v_kind v_number v_exponent p1 p3 s.heap [] ls hP hD hS hl hf
abbrev WS_M_whole (g_this_tape : Nat) (g_this_above : Nat) (g_this_below : Nat) (g_this_digit : Nat) (g_this_limbs : Nat) (g_this_exact : Nat) (g_this_round : Nat) (g_this_out : Nat) (g_this_body : Nat) (h_this : Nat)  (v_size : Int32) (v_kind : Int32) (v_number : Int64) (v_exponent : Int32) (v_aboveSize : Int32) (v_belowSize : Int32) (v_state : Int32) (v_digits : Int32) (v_behind : Int32) (v_power : Int32) (v_powerLess : Int32) (v_less : Int32) (v_plainDigits : Int32) (v_sixteen : Int32) (v_limbCount : Int32) (v_length : Int32) (v_point : Int32) (v_roundLength : Int32) (v_roundPoint : Int32) (v_written : Int32) (v_bodySize : Int32) : va_W := [(h_this, .inr (7, [.ref g_this_tape, .int v_size, .int v_kind, .long v_number, .int v_exponent, .ref g_this_above, .int v_aboveSize, .ref g_this_below, .int v_belowSize, .int v_state, .int v_digits, .ref g_this_digit, .int v_behind, .int v_power, .int v_powerLess, .int v_less, .int v_plainDigits, .int v_sixteen, .ref g_this_limbs, .int v_limbCount, .ref g_this_exact, .int v_length, .int v_point, .ref g_this_round, .int v_roundLength, .int v_roundPoint, .ref g_this_out, .int v_written, .ref g_this_body, .int v_bodySize]))]
def f_M_whole (v_kind : Int32) (v_number : Int64) (v_exponent : Int32) (p1 : Int64) : Option (Int32 × Int64 × Int32) :=
  bi4 (f_M_set v_kind v_number v_exponent (1 : Int32) p1 (0 : Int32)) fun r1 v2 v3 v4 =>
  some (v2, v3, v4)
set_option maxHeartbeats 4000000 in
set_option maxRecDepth 100000 in
theorem s_M_whole_e {p : Program} {l : Launch} {e : Env} {s : State} {m : MethodId} {args : Array Value} {below : List Frame} {meth : Method} {c : Code} {dC : Nat → ClassId} {dI : Nat → Nat → Nat} {A : Nat → Prop} {X : SXT} {g_this_tape : Nat} {g_this_above : Nat} {g_this_below : Nat} {g_this_digit : Nat} {g_this_limbs : Nat} {g_this_exact : Nat} {g_this_round : Nat} {g_this_out : Nat} {g_this_body : Nat} {h_this : Nat} {v_size : Int32} {v_aboveSize : Int32} {v_belowSize : Int32} {v_state : Int32} {v_digits : Int32} {v_behind : Int32} {v_power : Int32} {v_powerLess : Int32} {v_less : Int32} {v_plainDigits : Int32} {v_sixteen : Int32} {v_limbCount : Int32} {v_length : Int32} {v_point : Int32} {v_roundLength : Int32} {v_roundPoint : Int32} {v_written : Int32} {v_bodySize : Int32} {res : Int32 × Int64 × Int32} (cx : cxx p s m args meth c b_M_whole 3 none R_M) (hK : va_K (dC, dI) classes [] s) (hA : ∀ q, s.heap.size ≤ q → A q) (hX : SX X A s s.heap) : ∀ (v_kind : Int32) (v_number : Int64) (v_exponent : Int32) (p1 : Int64) (H : Heap) (locs : List Loc) (ls : Array Slot), va_P (dC, dI) classes (WS_M_whole g_this_tape g_this_above g_this_below g_this_digit g_this_limbs g_this_exact g_this_round g_this_out g_this_body h_this v_size v_kind v_number v_exponent v_aboveSize v_belowSize v_state v_digits v_behind v_power v_powerLess v_less v_plainDigits v_sixteen v_limbCount v_length v_point v_roundLength v_roundPoint v_written v_bodySize) H → va_D A (WS_M_whole g_this_tape g_this_above g_this_below g_this_digit g_this_limbs g_this_exact g_this_round g_this_out g_this_body h_this v_size v_kind v_number v_exponent v_aboveSize v_belowSize v_state v_digits v_behind v_power v_powerLess v_less v_plainDigits v_sixteen v_limbCount v_length v_point v_roundLength v_roundPoint v_written v_bodySize) → va_S A s.heap H locs → lv_has ls 3 [(0, .ref h_this), (1, .long p1)] → f_M_whole v_kind v_number v_exponent p1 = some res → W p l e ({ frames := 1, cells := 0, slots := 0, locals := 24 }) s m args below meth c H locs 0 0 (MQ below (va_Qv (fun (u : Int32 × Int64 × Int32) => some u = some res) (gB (dC, dI) [] A (fun (u : Int32 × Int64 × Int32) => (WS_M_whole g_this_tape g_this_above g_this_below g_this_digit g_this_limbs g_this_exact g_this_round g_this_out g_this_body h_this v_size u.1 u.2.1 u.2.2 v_aboveSize v_belowSize v_state v_digits v_behind v_power v_powerLess v_less v_plainDigits v_sixteen v_limbCount v_length v_point v_roundLength v_roundPoint v_written v_bodySize))) A) args s 0 0 A) (F0 m 0 ls []) := by
  intro v_kind v_number v_exponent p1 H locs ls hP hD hS hl h
  obtain ⟨hx, hb, hr, hml, hown, ht, hlk⟩ := id cx
  refine lv_aload_n hx hb d_M_whole_0 rfl (lv_at hl 0 rfl) ?_
  refine lv_iconst (v := 1) hx hb d_M_whole_1 (by decide) ?_
  refine lv_lload_n hx hb d_M_whole_2 rfl (lv_at hl 1 rfl) ?_
  refine lv_iconst (v := 0) hx hb d_M_whole_3 (by decide) ?_
  obtain ⟨r1, v2, v3, v4, hf, h⟩ := bi4_x h
  refine clVi (D := (dC, dI)) (n := 3) (As := [.int (1 : Int32), .long p1, .int (0 : Int32)]) ⟨hx, hb, hml, hown, ht⟩ (c_M_set l dC dI X g_this_tape g_this_above g_this_below g_this_digit g_this_limbs g_this_exact g_this_round g_this_out g_this_body h_this H.size v_size v_kind v_number v_exponent v_aboveSize v_belowSize v_state v_digits v_behind v_power v_powerLess v_less v_plainDigits v_sixteen v_limbCount v_length v_point v_roundLength v_roundPoint v_written v_bodySize (1 : Int32) p1 (0 : Int32) (r1, v2, v3, v4) hf) (gV q_487 q_488 q_489 q_490 q_491) (by decide +kernel) ⟨rfl, rfl, Nat.le_of_ble_eq_true rfl, Nat.le_of_ble_eq_true rfl⟩ hK hP hD hS hA hX [0] [] [] rfl (wr := []) rfl (by decide) (by decide) (by decide) rfl (va_recv hK hP (ci := 7) (q0 := 0) rfl rfl) rfl hl.1 rfl (lv_room (Nat.le_of_ble_eq_true rfl)) d_M_whole_4 ⟨Nat.zero_le _, Nat.zero_le _⟩ (fun r9 u9 H locs h9 hP hD hS => ?_)
  cases h9
  have hP : va_P (dC, dI) classes (WS_M_whole g_this_tape g_this_above g_this_below g_this_digit g_this_limbs g_this_exact g_this_round g_this_out g_this_body h_this v_size v2 v3 v4 v_aboveSize v_belowSize v_state v_digits v_behind v_power v_powerLess v_less v_plainDigits v_sixteen v_limbCount v_length v_point v_roundLength v_roundPoint v_written v_bodySize) H := hP.sub [0] rfl
  have hD : va_D A (WS_M_whole g_this_tape g_this_above g_this_below g_this_digit g_this_limbs g_this_exact g_this_round g_this_out g_this_body h_this v_size v2 v3 v4 v_aboveSize v_belowSize v_state v_digits v_behind v_power v_powerLess v_less v_plainDigits v_sixteen v_limbCount v_length v_point v_roundLength v_roundPoint v_written v_bodySize) := hD.sub [0] (by decide) rfl
  refine lv_pop hx hb d_M_whole_7 rfl ?_
  exact W.vret hx hb hr (fun t ht9 hW => ⟨⟨(v2, v3, v4), rfl, h, by rw [ht9]; exact hP, va_K.moved hW.alike hK, hD⟩, hS.F ht9⟩) hS.2.2 d_M_whole_8 hlk
set_option maxHeartbeats 4000000 in
set_option maxRecDepth 100000 in
theorem c_M_whole (l : Launch) (dC : Nat → ClassId) (dI : Nat → Nat → Nat) (X : SXT) (g_this_tape : Nat) (g_this_above : Nat) (g_this_below : Nat) (g_this_digit : Nat) (g_this_limbs : Nat) (g_this_exact : Nat) (g_this_round : Nat) (g_this_out : Nat) (g_this_body : Nat) (h_this : Nat) (sz : Nat) (v_size : Int32) (v_kind : Int32) (v_number : Int64) (v_exponent : Int32) (v_aboveSize : Int32) (v_belowSize : Int32) (v_state : Int32) (v_digits : Int32) (v_behind : Int32) (v_power : Int32) (v_powerLess : Int32) (v_less : Int32) (v_plainDigits : Int32) (v_sixteen : Int32) (v_limbCount : Int32) (v_length : Int32) (v_point : Int32) (v_roundLength : Int32) (v_roundPoint : Int32) (v_written : Int32) (v_bodySize : Int32) (p1 : Int64) (res : Int32 × Int64 × Int32) (hf : f_M_whole v_kind v_number v_exponent p1 = some res) : Met l y_M_whole (.code y_M_whole b_M_whole 3 none :: w0) ({ frames := 1, cells := 0, slots := 0, locals := 24 }) (va_Pc [.ref h_this, .long p1] (gP (dC, dI) (WS_M_whole g_this_tape g_this_above g_this_below g_this_digit g_this_limbs g_this_exact g_this_round g_this_out g_this_body h_this v_size v_kind v_number v_exponent v_aboveSize v_belowSize v_state v_digits v_behind v_power v_powerLess v_less v_plainDigits v_sixteen v_limbCount v_length v_point v_roundLength v_roundPoint v_written v_bodySize) [] sz X)) (va_Qv (fun (u : Int32 × Int64 × Int32) => some u = some res) (gB (dC, dI) [] (va_A (WS_M_whole g_this_tape g_this_above g_this_below g_this_digit g_this_limbs g_this_exact g_this_round g_this_out g_this_body h_this v_size v_kind v_number v_exponent v_aboveSize v_belowSize v_state v_digits v_behind v_power v_powerLess v_less v_plainDigits v_sixteen v_limbCount v_length v_point v_roundLength v_roundPoint v_written v_bodySize) sz) (fun (u : Int32 × Int64 × Int32) => (WS_M_whole g_this_tape g_this_above g_this_below g_this_digit g_this_limbs g_this_exact g_this_round g_this_out g_this_body h_this v_size u.1 u.2.1 u.2.2 v_aboveSize v_belowSize v_state v_digits v_behind v_power v_powerLess v_less v_plainDigits v_sixteen v_limbCount v_length v_point v_roundLength v_roundPoint v_written v_bodySize))) (va_A (WS_M_whole g_this_tape g_this_above g_this_below g_this_digit g_this_limbs g_this_exact g_this_round g_this_out g_this_body h_this v_size v_kind v_number v_exponent v_aboveSize v_belowSize v_state v_digits v_behind v_power v_powerLess v_less v_plainDigits v_sixteen v_limbCount v_length v_point v_roundLength v_roundPoint v_written v_bodySize) sz)) 0 0 (va_A (WS_M_whole g_this_tape g_this_above g_this_below g_this_digit g_this_limbs g_this_exact g_this_round g_this_out g_this_body h_this v_size v_kind v_number v_exponent v_aboveSize v_belowSize v_state v_digits v_behind v_power v_powerLess v_less v_plainDigits v_sixteen v_limbCount v_length v_point v_roundLength v_roundPoint v_written v_bodySize) sz) := by
  refine Met.ofW (cc := b_M_whole) (maxL := 3) (ret := none) (by decide) rfl ?_
  intro p e s m args below meth c s₁ B hml hv
  obtain ⟨rfl, hsz, hP, hK, hD0, hX⟩ := hv
  subst hsz
  have cx : cxx p s m ([.ref h_this, .long p1] : List Value).toArray meth c b_M_whole 3 none R_M := ⟨B.exec, B.bytes, B.returns, hml, findClass_of_methodNamed B.named, fun w9 hw => atoms_spec (ws := .code y_M_whole b_M_whole 3 none :: w0) B.pre w9 (List.mem_cons_of_mem _ hw), B.notSynchronized⟩
  have hD := hD0.self (sz := s.heap.size)
  generalize hAe : va_A (WS_M_whole g_this_tape g_this_above g_this_below g_this_digit g_this_limbs g_this_exact g_this_round g_this_out g_this_body h_this v_size v_kind v_number v_exponent v_aboveSize v_belowSize v_state v_digits v_behind v_power v_powerLess v_less v_plainDigits v_sixteen v_limbCount v_length v_point v_roundLength v_roundPoint v_written v_bodySize) s.heap.size = A at hD hX ⊢
  have hA : ∀ q : Nat, s.heap.size ≤ q → A q := fun q h => by rw [← hAe]; exact Or.inr h
  have hS : va_S A s.heap s.heap [] := va_S.rf
  have hl := lv_entry ([.ref h_this, .long p1]) (n := 3) (Nat.le_of_ble_eq_true rfl)
  rw [lg_entry_eq]
  generalize (lg_sl ([.ref h_this, .long p1]) ++ List.replicate (3 - (lg_sl ([.ref h_this, .long p1])).length) Slot.unset).toArray = ls at hl ⊢
  have hl : lv_has ls 3 [(0, .ref h_this), (1, .long p1)] := hl
  exact s_M_whole_e cx hK hA hX v_kind v_number v_exponent p1 s.heap [] ls hP hD hS hl hf
abbrev WS_M_real (g_this_tape : Nat) (g_this_above : Nat) (g_this_below : Nat) (g_this_digit : Nat) (g_this_limbs : Nat) (g_this_exact : Nat) (g_this_round : Nat) (g_this_out : Nat) (g_this_body : Nat) (h_this : Nat)  (v_size : Int32) (v_kind : Int32) (v_number : Int64) (v_exponent : Int32) (v_aboveSize : Int32) (v_belowSize : Int32) (v_state : Int32) (v_digits : Int32) (v_behind : Int32) (v_power : Int32) (v_powerLess : Int32) (v_less : Int32) (v_plainDigits : Int32) (v_sixteen : Int32) (v_limbCount : Int32) (v_length : Int32) (v_point : Int32) (v_roundLength : Int32) (v_roundPoint : Int32) (v_written : Int32) (v_bodySize : Int32) : va_W := [(h_this, .inr (7, [.ref g_this_tape, .int v_size, .int v_kind, .long v_number, .int v_exponent, .ref g_this_above, .int v_aboveSize, .ref g_this_below, .int v_belowSize, .int v_state, .int v_digits, .ref g_this_digit, .int v_behind, .int v_power, .int v_powerLess, .int v_less, .int v_plainDigits, .int v_sixteen, .ref g_this_limbs, .int v_limbCount, .ref g_this_exact, .int v_length, .int v_point, .ref g_this_round, .int v_roundLength, .int v_roundPoint, .ref g_this_out, .int v_written, .ref g_this_body, .int v_bodySize]))]
def f_M_real (v_kind : Int32) (v_number : Int64) (v_exponent : Int32) (p1 : Int64) (p3 : Int32) : Option (Int32 × Int32 × Int64 × Int32) :=
  if p1 < (-9007199254740992 : Int64) then
    some ((-1 : Int32), v_kind, v_number, v_exponent)
  else
    if (9007199254740992 : Int64) < p1 then
      some ((-1 : Int32), v_kind, v_number, v_exponent)
    else
      if p3 < (-1200 : Int32) then
        some ((-1 : Int32), v_kind, v_number, v_exponent)
      else
        if p3 ≤ (1200 : Int32) then
          bi4 (f_M_nearestWhole v_kind v_number v_exponent p1 p3) fun r5 v6 v7 v8 =>
          some (r5, v6, v7, v8)
        else
          some ((-1 : Int32), v_kind, v_number, v_exponent)
set_option maxHeartbeats 4000000 in
set_option maxRecDepth 100000 in
theorem s_M_real_e {p : Program} {l : Launch} {e : Env} {s : State} {m : MethodId} {args : Array Value} {below : List Frame} {meth : Method} {c : Code} {dC : Nat → ClassId} {dI : Nat → Nat → Nat} {A : Nat → Prop} {X : SXT} {g_this_tape : Nat} {g_this_above : Nat} {g_this_below : Nat} {g_this_digit : Nat} {g_this_limbs : Nat} {g_this_exact : Nat} {g_this_round : Nat} {g_this_out : Nat} {g_this_body : Nat} {h_this : Nat} {v_size : Int32} {v_aboveSize : Int32} {v_belowSize : Int32} {v_state : Int32} {v_digits : Int32} {v_behind : Int32} {v_power : Int32} {v_powerLess : Int32} {v_less : Int32} {v_plainDigits : Int32} {v_sixteen : Int32} {v_limbCount : Int32} {v_length : Int32} {v_point : Int32} {v_roundLength : Int32} {v_roundPoint : Int32} {v_written : Int32} {v_bodySize : Int32} {res : Int32 × Int32 × Int64 × Int32} (cx : cxx p s m args meth c b_M_real 4 (some .int) R_M) (hK : va_K (dC, dI) classes [] s) (hA : ∀ q, s.heap.size ≤ q → A q) (hX : SX X A s s.heap) : ∀ (v_kind : Int32) (v_number : Int64) (v_exponent : Int32) (p1 : Int64) (p3 : Int32) (H : Heap) (locs : List Loc) (ls : Array Slot), va_P (dC, dI) classes (WS_M_real g_this_tape g_this_above g_this_below g_this_digit g_this_limbs g_this_exact g_this_round g_this_out g_this_body h_this v_size v_kind v_number v_exponent v_aboveSize v_belowSize v_state v_digits v_behind v_power v_powerLess v_less v_plainDigits v_sixteen v_limbCount v_length v_point v_roundLength v_roundPoint v_written v_bodySize) H → va_D A (WS_M_real g_this_tape g_this_above g_this_below g_this_digit g_this_limbs g_this_exact g_this_round g_this_out g_this_body h_this v_size v_kind v_number v_exponent v_aboveSize v_belowSize v_state v_digits v_behind v_power v_powerLess v_less v_plainDigits v_sixteen v_limbCount v_length v_point v_roundLength v_roundPoint v_written v_bodySize) → va_S A s.heap H locs → lv_has ls 4 [(0, .ref h_this), (1, .long p1), (3, .int p3)] → f_M_real v_kind v_number v_exponent p1 p3 = some res → W p l e ({ frames := 3, cells := 0, slots := 0, locals := 83 }) s m args below meth c H locs 0 0 (MQ below (va_Qi (fun (r : Int32) (u : Int32 × Int64 × Int32) => some (r, u) = some res) (gB (dC, dI) [] A (fun (u : Int32 × Int64 × Int32) => (WS_M_real g_this_tape g_this_above g_this_below g_this_digit g_this_limbs g_this_exact g_this_round g_this_out g_this_body h_this v_size u.1 u.2.1 u.2.2 v_aboveSize v_belowSize v_state v_digits v_behind v_power v_powerLess v_less v_plainDigits v_sixteen v_limbCount v_length v_point v_roundLength v_roundPoint v_written v_bodySize))) A) args s 0 0 A) (F0 m 0 ls []) := by
  intro v_kind v_number v_exponent p1 p3 H locs ls hP hD hS hl h
  obtain ⟨hx, hb, hr, hml, hown, ht, hlk⟩ := id cx
  refine lv_lload_n hx hb d_M_real_0 rfl (lv_at hl 1 rfl) ?_
  refine lv_ldc2 (v := -9007199254740992) hx hb hown (ht _ q_502) d_M_real_1 ?_
  refine W.lcmp hx hb d_M_real_4 ?_
  refine lv_if_lt (tgt := 30) hx hb d_M_real_5 (by decide) (fun c1 => ?_) (fun c1 => ?_)
  · have c1 := (lg_cmp_lt _ _).mp c1
    have h := if_t c1 h
    refine lv_iconst (v := -1) hx hb d_M_real_30 (by decide) ?_
    exact W.iret (v := (-1 : Int32)) hx hb hr (fun t ht9 hW => ⟨⟨(-1 : Int32), (v_kind, v_number, v_exponent), rfl, h, by rw [ht9]; exact hP, va_K.moved hW.alike hK, hD⟩, hS.F ht9⟩) hS.2.2 d_M_real_31 hlk
  · have c1 := fun h9 => c1 ((lg_cmp_lt _ _).mpr h9)
    have h := if_f c1 h
    refine lv_lload_n hx hb d_M_real_8 rfl (lv_at hl 1 rfl) ?_
    refine lv_ldc2 (v := 9007199254740992) hx hb hown (ht _ q_493) d_M_real_9 ?_
    refine W.lcmp hx hb d_M_real_12 ?_
    refine lv_if_gt (tgt := 30) hx hb d_M_real_13 (by decide) (fun c2 => ?_) (fun c2 => ?_)
    · have c2 := (lg_cmp_gt _ _).mp c2
      have h := if_t c2 h
      refine lv_iconst (v := -1) hx hb d_M_real_30 (by decide) ?_
      exact W.iret (v := (-1 : Int32)) hx hb hr (fun t ht9 hW => ⟨⟨(-1 : Int32), (v_kind, v_number, v_exponent), rfl, h, by rw [ht9]; exact hP, va_K.moved hW.alike hK, hD⟩, hS.F ht9⟩) hS.2.2 d_M_real_31 hlk
    · have c2 := fun h9 => c2 ((lg_cmp_gt _ _).mpr h9)
      have h := if_f c2 h
      refine lv_iload_n hx hb d_M_real_16 rfl (lv_at hl 2 rfl) ?_
      refine lv_sipush (v := -1200) hx hb d_M_real_17 (by decide) ?_
      refine lv_icmp_lt (tgt := 30) hx hb d_M_real_20 (by decide) (fun c3 => ?_) (fun c3 => ?_)
      · have h := if_t c3 h
        refine lv_iconst (v := -1) hx hb d_M_real_30 (by decide) ?_
        exact W.iret (v := (-1 : Int32)) hx hb hr (fun t ht9 hW => ⟨⟨(-1 : Int32), (v_kind, v_number, v_exponent), rfl, h, by rw [ht9]; exact hP, va_K.moved hW.alike hK, hD⟩, hS.F ht9⟩) hS.2.2 d_M_real_31 hlk
      · have h := if_f c3 h
        refine lv_iload_n hx hb d_M_real_23 rfl (lv_at hl 2 rfl) ?_
        refine lv_sipush (v := 1200) hx hb d_M_real_24 (by decide) ?_
        refine lv_icmp_le (tgt := 32) hx hb d_M_real_27 (by decide) (fun c4 => ?_) (fun c4 => ?_)
        · have h := if_t c4 h
          refine lv_aload_n hx hb d_M_real_32 rfl (lv_at hl 0 rfl) ?_
          refine lv_lload_n hx hb d_M_real_33 rfl (lv_at hl 1 rfl) ?_
          refine lv_iload_n hx hb d_M_real_34 rfl (lv_at hl 2 rfl) ?_
          obtain ⟨r5, v6, v7, v8, hf, h⟩ := bi4_x h
          refine clVi (D := (dC, dI)) (n := 2) (As := [.long p1, .int p3]) ⟨hx, hb, hml, hown, ht⟩ (c_M_nearestWhole l dC dI X g_this_tape g_this_above g_this_below g_this_digit g_this_limbs g_this_exact g_this_round g_this_out g_this_body h_this H.size v_size v_kind v_number v_exponent v_aboveSize v_belowSize v_state v_digits v_behind v_power v_powerLess v_less v_plainDigits v_sixteen v_limbCount v_length v_point v_roundLength v_roundPoint v_written v_bodySize p1 p3 (r5, v6, v7, v8) hf) (gV q_503 q_504 q_505 q_490 q_506) (by decide +kernel) ⟨rfl, rfl, Nat.le_of_ble_eq_true rfl, Nat.le_of_ble_eq_true rfl⟩ hK hP hD hS hA hX [0] [] [] rfl (wr := []) rfl (by decide) (by decide) (by decide) rfl (va_recv hK hP (ci := 7) (q0 := 0) rfl rfl) rfl hl.1 rfl (lv_room (Nat.le_of_ble_eq_true rfl)) d_M_real_35 ⟨Nat.zero_le _, Nat.zero_le _⟩ (fun r9 u9 H locs h9 hP hD hS => ?_)
          cases h9
          have hP : va_P (dC, dI) classes (WS_M_real g_this_tape g_this_above g_this_below g_this_digit g_this_limbs g_this_exact g_this_round g_this_out g_this_body h_this v_size v6 v7 v8 v_aboveSize v_belowSize v_state v_digits v_behind v_power v_powerLess v_less v_plainDigits v_sixteen v_limbCount v_length v_point v_roundLength v_roundPoint v_written v_bodySize) H := hP.sub [0] rfl
          have hD : va_D A (WS_M_real g_this_tape g_this_above g_this_below g_this_digit g_this_limbs g_this_exact g_this_round g_this_out g_this_body h_this v_size v6 v7 v8 v_aboveSize v_belowSize v_state v_digits v_behind v_power v_powerLess v_less v_plainDigits v_sixteen v_limbCount v_length v_point v_roundLength v_roundPoint v_written v_bodySize) := hD.sub [0] (by decide) rfl
          exact W.iret (v := r5) hx hb hr (fun t ht9 hW => ⟨⟨r5, (v6, v7, v8), rfl, h, by rw [ht9]; exact hP, va_K.moved hW.alike hK, hD⟩, hS.F ht9⟩) hS.2.2 d_M_real_38 hlk
        · have h := if_f c4 h
          refine lv_iconst (v := -1) hx hb d_M_real_30 (by decide) ?_
          exact W.iret (v := (-1 : Int32)) hx hb hr (fun t ht9 hW => ⟨⟨(-1 : Int32), (v_kind, v_number, v_exponent), rfl, h, by rw [ht9]; exact hP, va_K.moved hW.alike hK, hD⟩, hS.F ht9⟩) hS.2.2 d_M_real_31 hlk
set_option maxHeartbeats 4000000 in
set_option maxRecDepth 100000 in
theorem c_M_real (l : Launch) (dC : Nat → ClassId) (dI : Nat → Nat → Nat) (X : SXT) (g_this_tape : Nat) (g_this_above : Nat) (g_this_below : Nat) (g_this_digit : Nat) (g_this_limbs : Nat) (g_this_exact : Nat) (g_this_round : Nat) (g_this_out : Nat) (g_this_body : Nat) (h_this : Nat) (sz : Nat) (v_size : Int32) (v_kind : Int32) (v_number : Int64) (v_exponent : Int32) (v_aboveSize : Int32) (v_belowSize : Int32) (v_state : Int32) (v_digits : Int32) (v_behind : Int32) (v_power : Int32) (v_powerLess : Int32) (v_less : Int32) (v_plainDigits : Int32) (v_sixteen : Int32) (v_limbCount : Int32) (v_length : Int32) (v_point : Int32) (v_roundLength : Int32) (v_roundPoint : Int32) (v_written : Int32) (v_bodySize : Int32) (p1 : Int64) (p3 : Int32) (res : Int32 × Int32 × Int64 × Int32) (hf : f_M_real v_kind v_number v_exponent p1 p3 = some res) : Met l y_M_real (.code y_M_real b_M_real 4 (some .int) :: w0) ({ frames := 3, cells := 0, slots := 0, locals := 83 }) (va_Pc [.ref h_this, .long p1, .int p3] (gP (dC, dI) (WS_M_real g_this_tape g_this_above g_this_below g_this_digit g_this_limbs g_this_exact g_this_round g_this_out g_this_body h_this v_size v_kind v_number v_exponent v_aboveSize v_belowSize v_state v_digits v_behind v_power v_powerLess v_less v_plainDigits v_sixteen v_limbCount v_length v_point v_roundLength v_roundPoint v_written v_bodySize) [] sz X)) (va_Qi (fun (r : Int32) (u : Int32 × Int64 × Int32) => some (r, u) = some res) (gB (dC, dI) [] (va_A (WS_M_real g_this_tape g_this_above g_this_below g_this_digit g_this_limbs g_this_exact g_this_round g_this_out g_this_body h_this v_size v_kind v_number v_exponent v_aboveSize v_belowSize v_state v_digits v_behind v_power v_powerLess v_less v_plainDigits v_sixteen v_limbCount v_length v_point v_roundLength v_roundPoint v_written v_bodySize) sz) (fun (u : Int32 × Int64 × Int32) => (WS_M_real g_this_tape g_this_above g_this_below g_this_digit g_this_limbs g_this_exact g_this_round g_this_out g_this_body h_this v_size u.1 u.2.1 u.2.2 v_aboveSize v_belowSize v_state v_digits v_behind v_power v_powerLess v_less v_plainDigits v_sixteen v_limbCount v_length v_point v_roundLength v_roundPoint v_written v_bodySize))) (va_A (WS_M_real g_this_tape g_this_above g_this_below g_this_digit g_this_limbs g_this_exact g_this_round g_this_out g_this_body h_this v_size v_kind v_number v_exponent v_aboveSize v_belowSize v_state v_digits v_behind v_power v_powerLess v_less v_plainDigits v_sixteen v_limbCount v_length v_point v_roundLength v_roundPoint v_written v_bodySize) sz)) 0 0 (va_A (WS_M_real g_this_tape g_this_above g_this_below g_this_digit g_this_limbs g_this_exact g_this_round g_this_out g_this_body h_this v_size v_kind v_number v_exponent v_aboveSize v_belowSize v_state v_digits v_behind v_power v_powerLess v_less v_plainDigits v_sixteen v_limbCount v_length v_point v_roundLength v_roundPoint v_written v_bodySize) sz) := by
  refine Met.ofW (cc := b_M_real) (maxL := 4) (ret := (some .int)) (by decide) rfl ?_
  intro p e s m args below meth c s₁ B hml hv
  obtain ⟨rfl, hsz, hP, hK, hD0, hX⟩ := hv
  subst hsz
  have cx : cxx p s m ([.ref h_this, .long p1, .int p3] : List Value).toArray meth c b_M_real 4 (some .int) R_M := ⟨B.exec, B.bytes, B.returns, hml, findClass_of_methodNamed B.named, fun w9 hw => atoms_spec (ws := .code y_M_real b_M_real 4 (some .int) :: w0) B.pre w9 (List.mem_cons_of_mem _ hw), B.notSynchronized⟩
  have hD := hD0.self (sz := s.heap.size)
  generalize hAe : va_A (WS_M_real g_this_tape g_this_above g_this_below g_this_digit g_this_limbs g_this_exact g_this_round g_this_out g_this_body h_this v_size v_kind v_number v_exponent v_aboveSize v_belowSize v_state v_digits v_behind v_power v_powerLess v_less v_plainDigits v_sixteen v_limbCount v_length v_point v_roundLength v_roundPoint v_written v_bodySize) s.heap.size = A at hD hX ⊢
  have hA : ∀ q : Nat, s.heap.size ≤ q → A q := fun q h => by rw [← hAe]; exact Or.inr h
  have hS : va_S A s.heap s.heap [] := va_S.rf
  have hl := lv_entry ([.ref h_this, .long p1, .int p3]) (n := 4) (Nat.le_of_ble_eq_true rfl)
  rw [lg_entry_eq]
  generalize (lg_sl ([.ref h_this, .long p1, .int p3]) ++ List.replicate (4 - (lg_sl ([.ref h_this, .long p1, .int p3])).length) Slot.unset).toArray = ls at hl ⊢
  have hl : lv_has ls 4 [(0, .ref h_this), (1, .long p1), (3, .int p3)] := hl
  exact s_M_real_e cx hK hA hX v_kind v_number v_exponent p1 p3 s.heap [] ls hP hD hS hl hf
abbrev WS_M_special (g_this_tape : Nat) (g_this_above : Nat) (g_this_below : Nat) (g_this_digit : Nat) (g_this_limbs : Nat) (g_this_exact : Nat) (g_this_round : Nat) (g_this_out : Nat) (g_this_body : Nat) (h_this : Nat)  (v_size : Int32) (v_kind : Int32) (v_number : Int64) (v_exponent : Int32) (v_aboveSize : Int32) (v_belowSize : Int32) (v_state : Int32) (v_digits : Int32) (v_behind : Int32) (v_power : Int32) (v_powerLess : Int32) (v_less : Int32) (v_plainDigits : Int32) (v_sixteen : Int32) (v_limbCount : Int32) (v_length : Int32) (v_point : Int32) (v_roundLength : Int32) (v_roundPoint : Int32) (v_written : Int32) (v_bodySize : Int32) : va_W := [(h_this, .inr (7, [.ref g_this_tape, .int v_size, .int v_kind, .long v_number, .int v_exponent, .ref g_this_above, .int v_aboveSize, .ref g_this_below, .int v_belowSize, .int v_state, .int v_digits, .ref g_this_digit, .int v_behind, .int v_power, .int v_powerLess, .int v_less, .int v_plainDigits, .int v_sixteen, .ref g_this_limbs, .int v_limbCount, .ref g_this_exact, .int v_length, .int v_point, .ref g_this_round, .int v_roundLength, .int v_roundPoint, .ref g_this_out, .int v_written, .ref g_this_body, .int v_bodySize]))]
def f_M_special (v_kind : Int32) (v_number : Int64) (v_exponent : Int32) (p1 : Int32) : Option (Int32 × Int32 × Int64 × Int32) :=
  if p1 < (3 : Int32) then
    some ((0 : Int32), v_kind, v_number, v_exponent)
  else
    if p1 ≤ (5 : Int32) then
      bi4 (f_M_set v_kind v_number v_exponent p1 (0 : Int64) (0 : Int32)) fun r3 v4 v5 v6 =>
      some ((1 : Int32), v4, v5, v6)
    else
      some ((0 : Int32), v_kind, v_number, v_exponent)
set_option maxHeartbeats 4000000 in
set_option maxRecDepth 100000 in
theorem s_M_special_e {p : Program} {l : Launch} {e : Env} {s : State} {m : MethodId} {args : Array Value} {below : List Frame} {meth : Method} {c : Code} {dC : Nat → ClassId} {dI : Nat → Nat → Nat} {A : Nat → Prop} {X : SXT} {g_this_tape : Nat} {g_this_above : Nat} {g_this_below : Nat} {g_this_digit : Nat} {g_this_limbs : Nat} {g_this_exact : Nat} {g_this_round : Nat} {g_this_out : Nat} {g_this_body : Nat} {h_this : Nat} {v_size : Int32} {v_aboveSize : Int32} {v_belowSize : Int32} {v_state : Int32} {v_digits : Int32} {v_behind : Int32} {v_power : Int32} {v_powerLess : Int32} {v_less : Int32} {v_plainDigits : Int32} {v_sixteen : Int32} {v_limbCount : Int32} {v_length : Int32} {v_point : Int32} {v_roundLength : Int32} {v_roundPoint : Int32} {v_written : Int32} {v_bodySize : Int32} {res : Int32 × Int32 × Int64 × Int32} (cx : cxx p s m args meth c b_M_special 2 (some .boolean) R_M) (hK : va_K (dC, dI) classes [] s) (hA : ∀ q, s.heap.size ≤ q → A q) (hX : SX X A s s.heap) : ∀ (v_kind : Int32) (v_number : Int64) (v_exponent : Int32) (p1 : Int32) (H : Heap) (locs : List Loc) (ls : Array Slot), va_P (dC, dI) classes (WS_M_special g_this_tape g_this_above g_this_below g_this_digit g_this_limbs g_this_exact g_this_round g_this_out g_this_body h_this v_size v_kind v_number v_exponent v_aboveSize v_belowSize v_state v_digits v_behind v_power v_powerLess v_less v_plainDigits v_sixteen v_limbCount v_length v_point v_roundLength v_roundPoint v_written v_bodySize) H → va_D A (WS_M_special g_this_tape g_this_above g_this_below g_this_digit g_this_limbs g_this_exact g_this_round g_this_out g_this_body h_this v_size v_kind v_number v_exponent v_aboveSize v_belowSize v_state v_digits v_behind v_power v_powerLess v_less v_plainDigits v_sixteen v_limbCount v_length v_point v_roundLength v_roundPoint v_written v_bodySize) → va_S A s.heap H locs → lv_has ls 2 [(0, .ref h_this), (1, .int p1)] → f_M_special v_kind v_number v_exponent p1 = some res → W p l e ({ frames := 1, cells := 0, slots := 0, locals := 24 }) s m args below meth c H locs 0 0 (MQ below (va_Qi (fun (r : Int32) (u : Int32 × Int64 × Int32) => some (r, u) = some res) (gB (dC, dI) [] A (fun (u : Int32 × Int64 × Int32) => (WS_M_special g_this_tape g_this_above g_this_below g_this_digit g_this_limbs g_this_exact g_this_round g_this_out g_this_body h_this v_size u.1 u.2.1 u.2.2 v_aboveSize v_belowSize v_state v_digits v_behind v_power v_powerLess v_less v_plainDigits v_sixteen v_limbCount v_length v_point v_roundLength v_roundPoint v_written v_bodySize))) A) args s 0 0 A) (F0 m 0 ls []) := by
  intro v_kind v_number v_exponent p1 H locs ls hP hD hS hl h
  obtain ⟨hx, hb, hr, hml, hown, ht, hlk⟩ := id cx
  refine lv_iload_n hx hb d_M_special_0 rfl (lv_at hl 1 rfl) ?_
  refine lv_iconst (v := 3) hx hb d_M_special_1 (by decide) ?_
  refine lv_icmp_lt (tgt := 10) hx hb d_M_special_2 (by decide) (fun c1 => ?_) (fun c1 => ?_)
  · have h := if_t c1 h
    refine lv_iconst (v := 0) hx hb d_M_special_10 (by decide) ?_
    exact W.zret (v := (0 : Int32)) hx hb hr rfl (fun t ht9 hW => ⟨⟨(0 : Int32), (v_kind, v_number, v_exponent), rfl, h, by rw [ht9]; exact hP, va_K.moved hW.alike hK, hD⟩, hS.F ht9⟩) hS.2.2 d_M_special_11 hlk
  · have h := if_f c1 h
    refine lv_iload_n hx hb d_M_special_5 rfl (lv_at hl 1 rfl) ?_
    refine lv_iconst (v := 5) hx hb d_M_special_6 (by decide) ?_
    refine lv_icmp_le (tgt := 12) hx hb d_M_special_7 (by decide) (fun c2 => ?_) (fun c2 => ?_)
    · have h := if_t c2 h
      refine lv_aload_n hx hb d_M_special_12 rfl (lv_at hl 0 rfl) ?_
      refine lv_iload_n hx hb d_M_special_13 rfl (lv_at hl 1 rfl) ?_
      refine lv_lconst (v := 0) hx hb d_M_special_14 (by decide) ?_
      refine lv_iconst (v := 0) hx hb d_M_special_15 (by decide) ?_
      obtain ⟨r3, v4, v5, v6, hf, h⟩ := bi4_x h
      refine clVi (D := (dC, dI)) (n := 3) (As := [.int p1, .long (0 : Int64), .int (0 : Int32)]) ⟨hx, hb, hml, hown, ht⟩ (c_M_set l dC dI X g_this_tape g_this_above g_this_below g_this_digit g_this_limbs g_this_exact g_this_round g_this_out g_this_body h_this H.size v_size v_kind v_number v_exponent v_aboveSize v_belowSize v_state v_digits v_behind v_power v_powerLess v_less v_plainDigits v_sixteen v_limbCount v_length v_point v_roundLength v_roundPoint v_written v_bodySize p1 (0 : Int64) (0 : Int32) (r3, v4, v5, v6) hf) (gV q_487 q_488 q_489 q_490 q_491) (by decide +kernel) ⟨rfl, rfl, Nat.le_of_ble_eq_true rfl, Nat.le_of_ble_eq_true rfl⟩ hK hP hD hS hA hX [0] [] [] rfl (wr := []) rfl (by decide) (by decide) (by decide) rfl (va_recv hK hP (ci := 7) (q0 := 0) rfl rfl) rfl hl.1 rfl (lv_room (Nat.le_of_ble_eq_true rfl)) d_M_special_16 ⟨Nat.zero_le _, Nat.zero_le _⟩ (fun r9 u9 H locs h9 hP hD hS => ?_)
      cases h9
      have hP : va_P (dC, dI) classes (WS_M_special g_this_tape g_this_above g_this_below g_this_digit g_this_limbs g_this_exact g_this_round g_this_out g_this_body h_this v_size v4 v5 v6 v_aboveSize v_belowSize v_state v_digits v_behind v_power v_powerLess v_less v_plainDigits v_sixteen v_limbCount v_length v_point v_roundLength v_roundPoint v_written v_bodySize) H := hP.sub [0] rfl
      have hD : va_D A (WS_M_special g_this_tape g_this_above g_this_below g_this_digit g_this_limbs g_this_exact g_this_round g_this_out g_this_body h_this v_size v4 v5 v6 v_aboveSize v_belowSize v_state v_digits v_behind v_power v_powerLess v_less v_plainDigits v_sixteen v_limbCount v_length v_point v_roundLength v_roundPoint v_written v_bodySize) := hD.sub [0] (by decide) rfl
      refine lv_pop hx hb d_M_special_19 rfl ?_
      refine lv_iconst (v := 1) hx hb d_M_special_20 (by decide) ?_
      exact W.zret (v := (1 : Int32)) hx hb hr rfl (fun t ht9 hW => ⟨⟨(1 : Int32), (v4, v5, v6), rfl, h, by rw [ht9]; exact hP, va_K.moved hW.alike hK, hD⟩, hS.F ht9⟩) hS.2.2 d_M_special_21 hlk
    · have h := if_f c2 h
      refine lv_iconst (v := 0) hx hb d_M_special_10 (by decide) ?_
      exact W.zret (v := (0 : Int32)) hx hb hr rfl (fun t ht9 hW => ⟨⟨(0 : Int32), (v_kind, v_number, v_exponent), rfl, h, by rw [ht9]; exact hP, va_K.moved hW.alike hK, hD⟩, hS.F ht9⟩) hS.2.2 d_M_special_11 hlk
set_option maxHeartbeats 4000000 in
set_option maxRecDepth 100000 in
theorem c_M_special (l : Launch) (dC : Nat → ClassId) (dI : Nat → Nat → Nat) (X : SXT) (g_this_tape : Nat) (g_this_above : Nat) (g_this_below : Nat) (g_this_digit : Nat) (g_this_limbs : Nat) (g_this_exact : Nat) (g_this_round : Nat) (g_this_out : Nat) (g_this_body : Nat) (h_this : Nat) (sz : Nat) (v_size : Int32) (v_kind : Int32) (v_number : Int64) (v_exponent : Int32) (v_aboveSize : Int32) (v_belowSize : Int32) (v_state : Int32) (v_digits : Int32) (v_behind : Int32) (v_power : Int32) (v_powerLess : Int32) (v_less : Int32) (v_plainDigits : Int32) (v_sixteen : Int32) (v_limbCount : Int32) (v_length : Int32) (v_point : Int32) (v_roundLength : Int32) (v_roundPoint : Int32) (v_written : Int32) (v_bodySize : Int32) (p1 : Int32) (res : Int32 × Int32 × Int64 × Int32) (hf : f_M_special v_kind v_number v_exponent p1 = some res) : Met l y_M_special (.code y_M_special b_M_special 2 (some .boolean) :: w0) ({ frames := 1, cells := 0, slots := 0, locals := 24 }) (va_Pc [.ref h_this, .int p1] (gP (dC, dI) (WS_M_special g_this_tape g_this_above g_this_below g_this_digit g_this_limbs g_this_exact g_this_round g_this_out g_this_body h_this v_size v_kind v_number v_exponent v_aboveSize v_belowSize v_state v_digits v_behind v_power v_powerLess v_less v_plainDigits v_sixteen v_limbCount v_length v_point v_roundLength v_roundPoint v_written v_bodySize) [] sz X)) (va_Qi (fun (r : Int32) (u : Int32 × Int64 × Int32) => some (r, u) = some res) (gB (dC, dI) [] (va_A (WS_M_special g_this_tape g_this_above g_this_below g_this_digit g_this_limbs g_this_exact g_this_round g_this_out g_this_body h_this v_size v_kind v_number v_exponent v_aboveSize v_belowSize v_state v_digits v_behind v_power v_powerLess v_less v_plainDigits v_sixteen v_limbCount v_length v_point v_roundLength v_roundPoint v_written v_bodySize) sz) (fun (u : Int32 × Int64 × Int32) => (WS_M_special g_this_tape g_this_above g_this_below g_this_digit g_this_limbs g_this_exact g_this_round g_this_out g_this_body h_this v_size u.1 u.2.1 u.2.2 v_aboveSize v_belowSize v_state v_digits v_behind v_power v_powerLess v_less v_plainDigits v_sixteen v_limbCount v_length v_point v_roundLength v_roundPoint v_written v_bodySize))) (va_A (WS_M_special g_this_tape g_this_above g_this_below g_this_digit g_this_limbs g_this_exact g_this_round g_this_out g_this_body h_this v_size v_kind v_number v_exponent v_aboveSize v_belowSize v_state v_digits v_behind v_power v_powerLess v_less v_plainDigits v_sixteen v_limbCount v_length v_point v_roundLength v_roundPoint v_written v_bodySize) sz)) 0 0 (va_A (WS_M_special g_this_tape g_this_above g_this_below g_this_digit g_this_limbs g_this_exact g_this_round g_this_out g_this_body h_this v_size v_kind v_number v_exponent v_aboveSize v_belowSize v_state v_digits v_behind v_power v_powerLess v_less v_plainDigits v_sixteen v_limbCount v_length v_point v_roundLength v_roundPoint v_written v_bodySize) sz) := by
  refine Met.ofW (cc := b_M_special) (maxL := 2) (ret := (some .boolean)) (by decide) rfl ?_
  intro p e s m args below meth c s₁ B hml hv
  obtain ⟨rfl, hsz, hP, hK, hD0, hX⟩ := hv
  subst hsz
  have cx : cxx p s m ([.ref h_this, .int p1] : List Value).toArray meth c b_M_special 2 (some .boolean) R_M := ⟨B.exec, B.bytes, B.returns, hml, findClass_of_methodNamed B.named, fun w9 hw => atoms_spec (ws := .code y_M_special b_M_special 2 (some .boolean) :: w0) B.pre w9 (List.mem_cons_of_mem _ hw), B.notSynchronized⟩
  have hD := hD0.self (sz := s.heap.size)
  generalize hAe : va_A (WS_M_special g_this_tape g_this_above g_this_below g_this_digit g_this_limbs g_this_exact g_this_round g_this_out g_this_body h_this v_size v_kind v_number v_exponent v_aboveSize v_belowSize v_state v_digits v_behind v_power v_powerLess v_less v_plainDigits v_sixteen v_limbCount v_length v_point v_roundLength v_roundPoint v_written v_bodySize) s.heap.size = A at hD hX ⊢
  have hA : ∀ q : Nat, s.heap.size ≤ q → A q := fun q h => by rw [← hAe]; exact Or.inr h
  have hS : va_S A s.heap s.heap [] := va_S.rf
  have hl := lv_entry ([.ref h_this, .int p1]) (n := 2) (Nat.le_of_ble_eq_true rfl)
  rw [lg_entry_eq]
  generalize (lg_sl ([.ref h_this, .int p1]) ++ List.replicate (2 - (lg_sl ([.ref h_this, .int p1])).length) Slot.unset).toArray = ls at hl ⊢
  have hl : lv_has ls 2 [(0, .ref h_this), (1, .int p1)] := hl
  exact s_M_special_e cx hK hA hX v_kind v_number v_exponent p1 s.heap [] ls hP hD hS hl hf
abbrev WS_M_kind (g_this_tape : Nat) (g_this_above : Nat) (g_this_below : Nat) (g_this_digit : Nat) (g_this_limbs : Nat) (g_this_exact : Nat) (g_this_round : Nat) (g_this_out : Nat) (g_this_body : Nat) (h_this : Nat)  (v_size : Int32) (v_kind : Int32) (v_number : Int64) (v_exponent : Int32) (v_aboveSize : Int32) (v_belowSize : Int32) (v_state : Int32) (v_digits : Int32) (v_behind : Int32) (v_power : Int32) (v_powerLess : Int32) (v_less : Int32) (v_plainDigits : Int32) (v_sixteen : Int32) (v_limbCount : Int32) (v_length : Int32) (v_point : Int32) (v_roundLength : Int32) (v_roundPoint : Int32) (v_written : Int32) (v_bodySize : Int32) : va_W := [(h_this, .inr (7, [.ref g_this_tape, .int v_size, .int v_kind, .long v_number, .int v_exponent, .ref g_this_above, .int v_aboveSize, .ref g_this_below, .int v_belowSize, .int v_state, .int v_digits, .ref g_this_digit, .int v_behind, .int v_power, .int v_powerLess, .int v_less, .int v_plainDigits, .int v_sixteen, .ref g_this_limbs, .int v_limbCount, .ref g_this_exact, .int v_length, .int v_point, .ref g_this_round, .int v_roundLength, .int v_roundPoint, .ref g_this_out, .int v_written, .ref g_this_body, .int v_bodySize]))]
def f_M_kind (v_kind : Int32) : Option (Int32) :=
  some v_kind
set_option maxHeartbeats 4000000 in
set_option maxRecDepth 100000 in
theorem s_M_kind_e {p : Program} {l : Launch} {e : Env} {s : State} {m : MethodId} {args : Array Value} {below : List Frame} {meth : Method} {c : Code} {dC : Nat → ClassId} {dI : Nat → Nat → Nat} {A : Nat → Prop} {X : SXT} {g_this_tape : Nat} {g_this_above : Nat} {g_this_below : Nat} {g_this_digit : Nat} {g_this_limbs : Nat} {g_this_exact : Nat} {g_this_round : Nat} {g_this_out : Nat} {g_this_body : Nat} {h_this : Nat} {v_size : Int32} {v_number : Int64} {v_exponent : Int32} {v_aboveSize : Int32} {v_belowSize : Int32} {v_state : Int32} {v_digits : Int32} {v_behind : Int32} {v_power : Int32} {v_powerLess : Int32} {v_less : Int32} {v_plainDigits : Int32} {v_sixteen : Int32} {v_limbCount : Int32} {v_length : Int32} {v_point : Int32} {v_roundLength : Int32} {v_roundPoint : Int32} {v_written : Int32} {v_bodySize : Int32} {res : Int32} (cx : cxx p s m args meth c b_M_kind 1 (some .int) R_M) (hK : va_K (dC, dI) classes [] s) (hA : ∀ q, s.heap.size ≤ q → A q) (hX : SX X A s s.heap) : ∀ (v_kind : Int32) (H : Heap) (locs : List Loc) (ls : Array Slot), va_P (dC, dI) classes (WS_M_kind g_this_tape g_this_above g_this_below g_this_digit g_this_limbs g_this_exact g_this_round g_this_out g_this_body h_this v_size v_kind v_number v_exponent v_aboveSize v_belowSize v_state v_digits v_behind v_power v_powerLess v_less v_plainDigits v_sixteen v_limbCount v_length v_point v_roundLength v_roundPoint v_written v_bodySize) H → va_D A (WS_M_kind g_this_tape g_this_above g_this_below g_this_digit g_this_limbs g_this_exact g_this_round g_this_out g_this_body h_this v_size v_kind v_number v_exponent v_aboveSize v_belowSize v_state v_digits v_behind v_power v_powerLess v_less v_plainDigits v_sixteen v_limbCount v_length v_point v_roundLength v_roundPoint v_written v_bodySize) → va_S A s.heap H locs → lv_has ls 1 [(0, .ref h_this)] → f_M_kind v_kind = some res → W p l e ({ frames := 0, cells := 0, slots := 0, locals := 0 }) s m args below meth c H locs 0 0 (MQ below (va_Qi (fun (r : Int32) (_ : Unit) => some r = some res) (gB (dC, dI) [] A (fun (u : Unit) => (WS_M_kind g_this_tape g_this_above g_this_below g_this_digit g_this_limbs g_this_exact g_this_round g_this_out g_this_body h_this v_size v_kind v_number v_exponent v_aboveSize v_belowSize v_state v_digits v_behind v_power v_powerLess v_less v_plainDigits v_sixteen v_limbCount v_length v_point v_roundLength v_roundPoint v_written v_bodySize))) A) args s 0 0 A) (F0 m 0 ls []) := by
  intro v_kind H locs ls hP hD hS hl h
  obtain ⟨hx, hb, hr, hml, hown, ht, hlk⟩ := id cx
  refine lv_aload_n hx hb d_M_kind_0 rfl (lv_at hl 0 rfl) ?_
  refine va_get (D := (dC, dI)) (ci := 7) (v := .int v_kind) (C := R_M) (T := F_M) (N := 30) hx hb ht i_M hown hK hP 0 rfl rfl 2 (by decide) (ht _ q_486) (fun _ h9 => h9) rfl d_M_kind_1 ?_
  exact W.iret (v := v_kind) hx hb hr (fun t ht9 hW => ⟨⟨v_kind, (), rfl, h, by rw [ht9]; exact hP, va_K.moved hW.alike hK, hD⟩, hS.F ht9⟩) hS.2.2 d_M_kind_4 hlk
set_option maxHeartbeats 4000000 in
set_option maxRecDepth 100000 in
theorem c_M_kind (l : Launch) (dC : Nat → ClassId) (dI : Nat → Nat → Nat) (X : SXT) (g_this_tape : Nat) (g_this_above : Nat) (g_this_below : Nat) (g_this_digit : Nat) (g_this_limbs : Nat) (g_this_exact : Nat) (g_this_round : Nat) (g_this_out : Nat) (g_this_body : Nat) (h_this : Nat) (sz : Nat) (v_size : Int32) (v_kind : Int32) (v_number : Int64) (v_exponent : Int32) (v_aboveSize : Int32) (v_belowSize : Int32) (v_state : Int32) (v_digits : Int32) (v_behind : Int32) (v_power : Int32) (v_powerLess : Int32) (v_less : Int32) (v_plainDigits : Int32) (v_sixteen : Int32) (v_limbCount : Int32) (v_length : Int32) (v_point : Int32) (v_roundLength : Int32) (v_roundPoint : Int32) (v_written : Int32) (v_bodySize : Int32) (res : Int32) (hf : f_M_kind v_kind = some res) : Met l y_M_kind (.code y_M_kind b_M_kind 1 (some .int) :: w0) ({ frames := 0, cells := 0, slots := 0, locals := 0 }) (va_Pc [.ref h_this] (gP (dC, dI) (WS_M_kind g_this_tape g_this_above g_this_below g_this_digit g_this_limbs g_this_exact g_this_round g_this_out g_this_body h_this v_size v_kind v_number v_exponent v_aboveSize v_belowSize v_state v_digits v_behind v_power v_powerLess v_less v_plainDigits v_sixteen v_limbCount v_length v_point v_roundLength v_roundPoint v_written v_bodySize) [] sz X)) (va_Qi (fun (r : Int32) (_ : Unit) => some r = some res) (gB (dC, dI) [] (va_A (WS_M_kind g_this_tape g_this_above g_this_below g_this_digit g_this_limbs g_this_exact g_this_round g_this_out g_this_body h_this v_size v_kind v_number v_exponent v_aboveSize v_belowSize v_state v_digits v_behind v_power v_powerLess v_less v_plainDigits v_sixteen v_limbCount v_length v_point v_roundLength v_roundPoint v_written v_bodySize) sz) (fun (u : Unit) => (WS_M_kind g_this_tape g_this_above g_this_below g_this_digit g_this_limbs g_this_exact g_this_round g_this_out g_this_body h_this v_size v_kind v_number v_exponent v_aboveSize v_belowSize v_state v_digits v_behind v_power v_powerLess v_less v_plainDigits v_sixteen v_limbCount v_length v_point v_roundLength v_roundPoint v_written v_bodySize))) (va_A (WS_M_kind g_this_tape g_this_above g_this_below g_this_digit g_this_limbs g_this_exact g_this_round g_this_out g_this_body h_this v_size v_kind v_number v_exponent v_aboveSize v_belowSize v_state v_digits v_behind v_power v_powerLess v_less v_plainDigits v_sixteen v_limbCount v_length v_point v_roundLength v_roundPoint v_written v_bodySize) sz)) 0 0 (va_A (WS_M_kind g_this_tape g_this_above g_this_below g_this_digit g_this_limbs g_this_exact g_this_round g_this_out g_this_body h_this v_size v_kind v_number v_exponent v_aboveSize v_belowSize v_state v_digits v_behind v_power v_powerLess v_less v_plainDigits v_sixteen v_limbCount v_length v_point v_roundLength v_roundPoint v_written v_bodySize) sz) := by
  refine Met.ofW (cc := b_M_kind) (maxL := 1) (ret := (some .int)) (by decide) rfl ?_
  intro p e s m args below meth c s₁ B hml hv
  obtain ⟨rfl, hsz, hP, hK, hD0, hX⟩ := hv
  subst hsz
  have cx : cxx p s m ([.ref h_this] : List Value).toArray meth c b_M_kind 1 (some .int) R_M := ⟨B.exec, B.bytes, B.returns, hml, findClass_of_methodNamed B.named, fun w9 hw => atoms_spec (ws := .code y_M_kind b_M_kind 1 (some .int) :: w0) B.pre w9 (List.mem_cons_of_mem _ hw), B.notSynchronized⟩
  have hD := hD0.self (sz := s.heap.size)
  generalize hAe : va_A (WS_M_kind g_this_tape g_this_above g_this_below g_this_digit g_this_limbs g_this_exact g_this_round g_this_out g_this_body h_this v_size v_kind v_number v_exponent v_aboveSize v_belowSize v_state v_digits v_behind v_power v_powerLess v_less v_plainDigits v_sixteen v_limbCount v_length v_point v_roundLength v_roundPoint v_written v_bodySize) s.heap.size = A at hD hX ⊢
  have hA : ∀ q : Nat, s.heap.size ≤ q → A q := fun q h => by rw [← hAe]; exact Or.inr h
  have hS : va_S A s.heap s.heap [] := va_S.rf
  have hl := lv_entry ([.ref h_this]) (n := 1) (Nat.le_of_ble_eq_true rfl)
  rw [lg_entry_eq]
  generalize (lg_sl ([.ref h_this]) ++ List.replicate (1 - (lg_sl ([.ref h_this])).length) Slot.unset).toArray = ls at hl ⊢
  have hl : lv_has ls 1 [(0, .ref h_this)] := hl
  exact s_M_kind_e cx hK hA hX v_kind s.heap [] ls hP hD hS hl hf
abbrev WS_M_number (g_this_tape : Nat) (g_this_above : Nat) (g_this_below : Nat) (g_this_digit : Nat) (g_this_limbs : Nat) (g_this_exact : Nat) (g_this_round : Nat) (g_this_out : Nat) (g_this_body : Nat) (h_this : Nat)  (v_size : Int32) (v_kind : Int32) (v_number : Int64) (v_exponent : Int32) (v_aboveSize : Int32) (v_belowSize : Int32) (v_state : Int32) (v_digits : Int32) (v_behind : Int32) (v_power : Int32) (v_powerLess : Int32) (v_less : Int32) (v_plainDigits : Int32) (v_sixteen : Int32) (v_limbCount : Int32) (v_length : Int32) (v_point : Int32) (v_roundLength : Int32) (v_roundPoint : Int32) (v_written : Int32) (v_bodySize : Int32) : va_W := [(h_this, .inr (7, [.ref g_this_tape, .int v_size, .int v_kind, .long v_number, .int v_exponent, .ref g_this_above, .int v_aboveSize, .ref g_this_below, .int v_belowSize, .int v_state, .int v_digits, .ref g_this_digit, .int v_behind, .int v_power, .int v_powerLess, .int v_less, .int v_plainDigits, .int v_sixteen, .ref g_this_limbs, .int v_limbCount, .ref g_this_exact, .int v_length, .int v_point, .ref g_this_round, .int v_roundLength, .int v_roundPoint, .ref g_this_out, .int v_written, .ref g_this_body, .int v_bodySize]))]
def f_M_number (v_number : Int64) : Option (Int64) :=
  some v_number
set_option maxHeartbeats 4000000 in
set_option maxRecDepth 100000 in
theorem s_M_number_e {p : Program} {l : Launch} {e : Env} {s : State} {m : MethodId} {args : Array Value} {below : List Frame} {meth : Method} {c : Code} {dC : Nat → ClassId} {dI : Nat → Nat → Nat} {A : Nat → Prop} {X : SXT} {g_this_tape : Nat} {g_this_above : Nat} {g_this_below : Nat} {g_this_digit : Nat} {g_this_limbs : Nat} {g_this_exact : Nat} {g_this_round : Nat} {g_this_out : Nat} {g_this_body : Nat} {h_this : Nat} {v_size : Int32} {v_kind : Int32} {v_exponent : Int32} {v_aboveSize : Int32} {v_belowSize : Int32} {v_state : Int32} {v_digits : Int32} {v_behind : Int32} {v_power : Int32} {v_powerLess : Int32} {v_less : Int32} {v_plainDigits : Int32} {v_sixteen : Int32} {v_limbCount : Int32} {v_length : Int32} {v_point : Int32} {v_roundLength : Int32} {v_roundPoint : Int32} {v_written : Int32} {v_bodySize : Int32} {res : Int64} (cx : cxx p s m args meth c b_M_number 1 (some .long) R_M) (hK : va_K (dC, dI) classes [] s) (hA : ∀ q, s.heap.size ≤ q → A q) (hX : SX X A s s.heap) : ∀ (v_number : Int64) (H : Heap) (locs : List Loc) (ls : Array Slot), va_P (dC, dI) classes (WS_M_number g_this_tape g_this_above g_this_below g_this_digit g_this_limbs g_this_exact g_this_round g_this_out g_this_body h_this v_size v_kind v_number v_exponent v_aboveSize v_belowSize v_state v_digits v_behind v_power v_powerLess v_less v_plainDigits v_sixteen v_limbCount v_length v_point v_roundLength v_roundPoint v_written v_bodySize) H → va_D A (WS_M_number g_this_tape g_this_above g_this_below g_this_digit g_this_limbs g_this_exact g_this_round g_this_out g_this_body h_this v_size v_kind v_number v_exponent v_aboveSize v_belowSize v_state v_digits v_behind v_power v_powerLess v_less v_plainDigits v_sixteen v_limbCount v_length v_point v_roundLength v_roundPoint v_written v_bodySize) → va_S A s.heap H locs → lv_has ls 1 [(0, .ref h_this)] → f_M_number v_number = some res → W p l e ({ frames := 0, cells := 0, slots := 0, locals := 0 }) s m args below meth c H locs 0 0 (MQ below (va_Ql (fun (r : Int64) (_ : Unit) => some r = some res) (gB (dC, dI) [] A (fun (u : Unit) => (WS_M_number g_this_tape g_this_above g_this_below g_this_digit g_this_limbs g_this_exact g_this_round g_this_out g_this_body h_this v_size v_kind v_number v_exponent v_aboveSize v_belowSize v_state v_digits v_behind v_power v_powerLess v_less v_plainDigits v_sixteen v_limbCount v_length v_point v_roundLength v_roundPoint v_written v_bodySize))) A) args s 0 0 A) (F0 m 0 ls []) := by
  intro v_number H locs ls hP hD hS hl h
  obtain ⟨hx, hb, hr, hml, hown, ht, hlk⟩ := id cx
  refine lv_aload_n hx hb d_M_number_0 rfl (lv_at hl 0 rfl) ?_
  refine va_get (D := (dC, dI)) (ci := 7) (v := .long v_number) (C := R_M) (T := F_M) (N := 30) hx hb ht i_M hown hK hP 0 rfl rfl 3 (by decide) (ht _ q_484) (fun _ h9 => h9) rfl d_M_number_1 ?_
  exact W.lret (v := v_number) hx hb hr (fun t ht9 hW => ⟨⟨v_number, (), rfl, h, by rw [ht9]; exact hP, va_K.moved hW.alike hK, hD⟩, hS.F ht9⟩) hS.2.2 d_M_number_4 hlk
set_option maxHeartbeats 4000000 in
set_option maxRecDepth 100000 in
theorem c_M_number (l : Launch) (dC : Nat → ClassId) (dI : Nat → Nat → Nat) (X : SXT) (g_this_tape : Nat) (g_this_above : Nat) (g_this_below : Nat) (g_this_digit : Nat) (g_this_limbs : Nat) (g_this_exact : Nat) (g_this_round : Nat) (g_this_out : Nat) (g_this_body : Nat) (h_this : Nat) (sz : Nat) (v_size : Int32) (v_kind : Int32) (v_number : Int64) (v_exponent : Int32) (v_aboveSize : Int32) (v_belowSize : Int32) (v_state : Int32) (v_digits : Int32) (v_behind : Int32) (v_power : Int32) (v_powerLess : Int32) (v_less : Int32) (v_plainDigits : Int32) (v_sixteen : Int32) (v_limbCount : Int32) (v_length : Int32) (v_point : Int32) (v_roundLength : Int32) (v_roundPoint : Int32) (v_written : Int32) (v_bodySize : Int32) (res : Int64) (hf : f_M_number v_number = some res) : Met l y_M_number (.code y_M_number b_M_number 1 (some .long) :: w0) ({ frames := 0, cells := 0, slots := 0, locals := 0 }) (va_Pc [.ref h_this] (gP (dC, dI) (WS_M_number g_this_tape g_this_above g_this_below g_this_digit g_this_limbs g_this_exact g_this_round g_this_out g_this_body h_this v_size v_kind v_number v_exponent v_aboveSize v_belowSize v_state v_digits v_behind v_power v_powerLess v_less v_plainDigits v_sixteen v_limbCount v_length v_point v_roundLength v_roundPoint v_written v_bodySize) [] sz X)) (va_Ql (fun (r : Int64) (_ : Unit) => some r = some res) (gB (dC, dI) [] (va_A (WS_M_number g_this_tape g_this_above g_this_below g_this_digit g_this_limbs g_this_exact g_this_round g_this_out g_this_body h_this v_size v_kind v_number v_exponent v_aboveSize v_belowSize v_state v_digits v_behind v_power v_powerLess v_less v_plainDigits v_sixteen v_limbCount v_length v_point v_roundLength v_roundPoint v_written v_bodySize) sz) (fun (u : Unit) => (WS_M_number g_this_tape g_this_above g_this_below g_this_digit g_this_limbs g_this_exact g_this_round g_this_out g_this_body h_this v_size v_kind v_number v_exponent v_aboveSize v_belowSize v_state v_digits v_behind v_power v_powerLess v_less v_plainDigits v_sixteen v_limbCount v_length v_point v_roundLength v_roundPoint v_written v_bodySize))) (va_A (WS_M_number g_this_tape g_this_above g_this_below g_this_digit g_this_limbs g_this_exact g_this_round g_this_out g_this_body h_this v_size v_kind v_number v_exponent v_aboveSize v_belowSize v_state v_digits v_behind v_power v_powerLess v_less v_plainDigits v_sixteen v_limbCount v_length v_point v_roundLength v_roundPoint v_written v_bodySize) sz)) 0 0 (va_A (WS_M_number g_this_tape g_this_above g_this_below g_this_digit g_this_limbs g_this_exact g_this_round g_this_out g_this_body h_this v_size v_kind v_number v_exponent v_aboveSize v_belowSize v_state v_digits v_behind v_power v_powerLess v_less v_plainDigits v_sixteen v_limbCount v_length v_point v_roundLength v_roundPoint v_written v_bodySize) sz) := by
  refine Met.ofW (cc := b_M_number) (maxL := 1) (ret := (some .long)) (by decide) rfl ?_
  intro p e s m args below meth c s₁ B hml hv
  obtain ⟨rfl, hsz, hP, hK, hD0, hX⟩ := hv
  subst hsz
  have cx : cxx p s m ([.ref h_this] : List Value).toArray meth c b_M_number 1 (some .long) R_M := ⟨B.exec, B.bytes, B.returns, hml, findClass_of_methodNamed B.named, fun w9 hw => atoms_spec (ws := .code y_M_number b_M_number 1 (some .long) :: w0) B.pre w9 (List.mem_cons_of_mem _ hw), B.notSynchronized⟩
  have hD := hD0.self (sz := s.heap.size)
  generalize hAe : va_A (WS_M_number g_this_tape g_this_above g_this_below g_this_digit g_this_limbs g_this_exact g_this_round g_this_out g_this_body h_this v_size v_kind v_number v_exponent v_aboveSize v_belowSize v_state v_digits v_behind v_power v_powerLess v_less v_plainDigits v_sixteen v_limbCount v_length v_point v_roundLength v_roundPoint v_written v_bodySize) s.heap.size = A at hD hX ⊢
  have hA : ∀ q : Nat, s.heap.size ≤ q → A q := fun q h => by rw [← hAe]; exact Or.inr h
  have hS : va_S A s.heap s.heap [] := va_S.rf
  have hl := lv_entry ([.ref h_this]) (n := 1) (Nat.le_of_ble_eq_true rfl)
  rw [lg_entry_eq]
  generalize (lg_sl ([.ref h_this]) ++ List.replicate (1 - (lg_sl ([.ref h_this])).length) Slot.unset).toArray = ls at hl ⊢
  have hl : lv_has ls 1 [(0, .ref h_this)] := hl
  exact s_M_number_e cx hK hA hX v_number s.heap [] ls hP hD hS hl hf
abbrev WS_M_exponent (g_this_tape : Nat) (g_this_above : Nat) (g_this_below : Nat) (g_this_digit : Nat) (g_this_limbs : Nat) (g_this_exact : Nat) (g_this_round : Nat) (g_this_out : Nat) (g_this_body : Nat) (h_this : Nat)  (v_size : Int32) (v_kind : Int32) (v_number : Int64) (v_exponent : Int32) (v_aboveSize : Int32) (v_belowSize : Int32) (v_state : Int32) (v_digits : Int32) (v_behind : Int32) (v_power : Int32) (v_powerLess : Int32) (v_less : Int32) (v_plainDigits : Int32) (v_sixteen : Int32) (v_limbCount : Int32) (v_length : Int32) (v_point : Int32) (v_roundLength : Int32) (v_roundPoint : Int32) (v_written : Int32) (v_bodySize : Int32) : va_W := [(h_this, .inr (7, [.ref g_this_tape, .int v_size, .int v_kind, .long v_number, .int v_exponent, .ref g_this_above, .int v_aboveSize, .ref g_this_below, .int v_belowSize, .int v_state, .int v_digits, .ref g_this_digit, .int v_behind, .int v_power, .int v_powerLess, .int v_less, .int v_plainDigits, .int v_sixteen, .ref g_this_limbs, .int v_limbCount, .ref g_this_exact, .int v_length, .int v_point, .ref g_this_round, .int v_roundLength, .int v_roundPoint, .ref g_this_out, .int v_written, .ref g_this_body, .int v_bodySize]))]
def f_M_exponent (v_kind : Int32) (v_exponent : Int32) : Option (Int32) :=
  if v_kind = (2 : Int32) then
    some v_exponent
  else
    some (0 : Int32)
set_option maxHeartbeats 4000000 in
set_option maxRecDepth 100000 in
theorem s_M_exponent_e {p : Program} {l : Launch} {e : Env} {s : State} {m : MethodId} {args : Array Value} {below : List Frame} {meth : Method} {c : Code} {dC : Nat → ClassId} {dI : Nat → Nat → Nat} {A : Nat → Prop} {X : SXT} {g_this_tape : Nat} {g_this_above : Nat} {g_this_below : Nat} {g_this_digit : Nat} {g_this_limbs : Nat} {g_this_exact : Nat} {g_this_round : Nat} {g_this_out : Nat} {g_this_body : Nat} {h_this : Nat} {v_size : Int32} {v_number : Int64} {v_aboveSize : Int32} {v_belowSize : Int32} {v_state : Int32} {v_digits : Int32} {v_behind : Int32} {v_power : Int32} {v_powerLess : Int32} {v_less : Int32} {v_plainDigits : Int32} {v_sixteen : Int32} {v_limbCount : Int32} {v_length : Int32} {v_point : Int32} {v_roundLength : Int32} {v_roundPoint : Int32} {v_written : Int32} {v_bodySize : Int32} {res : Int32} (cx : cxx p s m args meth c b_M_exponent 1 (some .int) R_M) (hK : va_K (dC, dI) classes [] s) (hA : ∀ q, s.heap.size ≤ q → A q) (hX : SX X A s s.heap) : ∀ (v_kind : Int32) (v_exponent : Int32) (H : Heap) (locs : List Loc) (ls : Array Slot), va_P (dC, dI) classes (WS_M_exponent g_this_tape g_this_above g_this_below g_this_digit g_this_limbs g_this_exact g_this_round g_this_out g_this_body h_this v_size v_kind v_number v_exponent v_aboveSize v_belowSize v_state v_digits v_behind v_power v_powerLess v_less v_plainDigits v_sixteen v_limbCount v_length v_point v_roundLength v_roundPoint v_written v_bodySize) H → va_D A (WS_M_exponent g_this_tape g_this_above g_this_below g_this_digit g_this_limbs g_this_exact g_this_round g_this_out g_this_body h_this v_size v_kind v_number v_exponent v_aboveSize v_belowSize v_state v_digits v_behind v_power v_powerLess v_less v_plainDigits v_sixteen v_limbCount v_length v_point v_roundLength v_roundPoint v_written v_bodySize) → va_S A s.heap H locs → lv_has ls 1 [(0, .ref h_this)] → f_M_exponent v_kind v_exponent = some res → W p l e ({ frames := 0, cells := 0, slots := 0, locals := 0 }) s m args below meth c H locs 0 0 (MQ below (va_Qi (fun (r : Int32) (_ : Unit) => some r = some res) (gB (dC, dI) [] A (fun (u : Unit) => (WS_M_exponent g_this_tape g_this_above g_this_below g_this_digit g_this_limbs g_this_exact g_this_round g_this_out g_this_body h_this v_size v_kind v_number v_exponent v_aboveSize v_belowSize v_state v_digits v_behind v_power v_powerLess v_less v_plainDigits v_sixteen v_limbCount v_length v_point v_roundLength v_roundPoint v_written v_bodySize))) A) args s 0 0 A) (F0 m 0 ls []) := by
  intro v_kind v_exponent H locs ls hP hD hS hl h
  obtain ⟨hx, hb, hr, hml, hown, ht, hlk⟩ := id cx
  refine lv_aload_n hx hb d_M_exponent_0 rfl (lv_at hl 0 rfl) ?_
  refine va_get (D := (dC, dI)) (ci := 7) (v := .int v_kind) (C := R_M) (T := F_M) (N := 30) hx hb ht i_M hown hK hP 0 rfl rfl 2 (by decide) (ht _ q_486) (fun _ h9 => h9) rfl d_M_exponent_1 ?_
  refine lv_iconst (v := 2) hx hb d_M_exponent_4 (by decide) ?_
  refine lv_icmp_ne (tgt := 15) hx hb d_M_exponent_5 (by decide) (fun c1 => ?_) (fun c1 => ?_)
  · have h := if_f c1 h
    refine lv_iconst (v := 0) hx hb d_M_exponent_15 (by decide) ?_
    exact W.iret (v := (0 : Int32)) hx hb hr (fun t ht9 hW => ⟨⟨(0 : Int32), (), rfl, h, by rw [ht9]; exact hP, va_K.moved hW.alike hK, hD⟩, hS.F ht9⟩) hS.2.2 d_M_exponent_16 hlk
  · have h := if_t c1 h
    refine lv_aload_n hx hb d_M_exponent_8 rfl (lv_at hl 0 rfl) ?_
    refine va_get (D := (dC, dI)) (ci := 7) (v := .int v_exponent) (C := R_M) (T := F_M) (N := 30) hx hb ht i_M hown hK hP 0 rfl rfl 4 (by decide) (ht _ q_485) (fun _ h9 => h9) rfl d_M_exponent_9 ?_
    refine lv_goto (tgt := 16) hx hb d_M_exponent_12 (by decide) ?_
    exact W.iret (v := v_exponent) hx hb hr (fun t ht9 hW => ⟨⟨v_exponent, (), rfl, h, by rw [ht9]; exact hP, va_K.moved hW.alike hK, hD⟩, hS.F ht9⟩) hS.2.2 d_M_exponent_16 hlk
set_option maxHeartbeats 4000000 in
set_option maxRecDepth 100000 in
theorem c_M_exponent (l : Launch) (dC : Nat → ClassId) (dI : Nat → Nat → Nat) (X : SXT) (g_this_tape : Nat) (g_this_above : Nat) (g_this_below : Nat) (g_this_digit : Nat) (g_this_limbs : Nat) (g_this_exact : Nat) (g_this_round : Nat) (g_this_out : Nat) (g_this_body : Nat) (h_this : Nat) (sz : Nat) (v_size : Int32) (v_kind : Int32) (v_number : Int64) (v_exponent : Int32) (v_aboveSize : Int32) (v_belowSize : Int32) (v_state : Int32) (v_digits : Int32) (v_behind : Int32) (v_power : Int32) (v_powerLess : Int32) (v_less : Int32) (v_plainDigits : Int32) (v_sixteen : Int32) (v_limbCount : Int32) (v_length : Int32) (v_point : Int32) (v_roundLength : Int32) (v_roundPoint : Int32) (v_written : Int32) (v_bodySize : Int32) (res : Int32) (hf : f_M_exponent v_kind v_exponent = some res) : Met l y_M_exponent (.code y_M_exponent b_M_exponent 1 (some .int) :: w0) ({ frames := 0, cells := 0, slots := 0, locals := 0 }) (va_Pc [.ref h_this] (gP (dC, dI) (WS_M_exponent g_this_tape g_this_above g_this_below g_this_digit g_this_limbs g_this_exact g_this_round g_this_out g_this_body h_this v_size v_kind v_number v_exponent v_aboveSize v_belowSize v_state v_digits v_behind v_power v_powerLess v_less v_plainDigits v_sixteen v_limbCount v_length v_point v_roundLength v_roundPoint v_written v_bodySize) [] sz X)) (va_Qi (fun (r : Int32) (_ : Unit) => some r = some res) (gB (dC, dI) [] (va_A (WS_M_exponent g_this_tape g_this_above g_this_below g_this_digit g_this_limbs g_this_exact g_this_round g_this_out g_this_body h_this v_size v_kind v_number v_exponent v_aboveSize v_belowSize v_state v_digits v_behind v_power v_powerLess v_less v_plainDigits v_sixteen v_limbCount v_length v_point v_roundLength v_roundPoint v_written v_bodySize) sz) (fun (u : Unit) => (WS_M_exponent g_this_tape g_this_above g_this_below g_this_digit g_this_limbs g_this_exact g_this_round g_this_out g_this_body h_this v_size v_kind v_number v_exponent v_aboveSize v_belowSize v_state v_digits v_behind v_power v_powerLess v_less v_plainDigits v_sixteen v_limbCount v_length v_point v_roundLength v_roundPoint v_written v_bodySize))) (va_A (WS_M_exponent g_this_tape g_this_above g_this_below g_this_digit g_this_limbs g_this_exact g_this_round g_this_out g_this_body h_this v_size v_kind v_number v_exponent v_aboveSize v_belowSize v_state v_digits v_behind v_power v_powerLess v_less v_plainDigits v_sixteen v_limbCount v_length v_point v_roundLength v_roundPoint v_written v_bodySize) sz)) 0 0 (va_A (WS_M_exponent g_this_tape g_this_above g_this_below g_this_digit g_this_limbs g_this_exact g_this_round g_this_out g_this_body h_this v_size v_kind v_number v_exponent v_aboveSize v_belowSize v_state v_digits v_behind v_power v_powerLess v_less v_plainDigits v_sixteen v_limbCount v_length v_point v_roundLength v_roundPoint v_written v_bodySize) sz) := by
  refine Met.ofW (cc := b_M_exponent) (maxL := 1) (ret := (some .int)) (by decide) rfl ?_
  intro p e s m args below meth c s₁ B hml hv
  obtain ⟨rfl, hsz, hP, hK, hD0, hX⟩ := hv
  subst hsz
  have cx : cxx p s m ([.ref h_this] : List Value).toArray meth c b_M_exponent 1 (some .int) R_M := ⟨B.exec, B.bytes, B.returns, hml, findClass_of_methodNamed B.named, fun w9 hw => atoms_spec (ws := .code y_M_exponent b_M_exponent 1 (some .int) :: w0) B.pre w9 (List.mem_cons_of_mem _ hw), B.notSynchronized⟩
  have hD := hD0.self (sz := s.heap.size)
  generalize hAe : va_A (WS_M_exponent g_this_tape g_this_above g_this_below g_this_digit g_this_limbs g_this_exact g_this_round g_this_out g_this_body h_this v_size v_kind v_number v_exponent v_aboveSize v_belowSize v_state v_digits v_behind v_power v_powerLess v_less v_plainDigits v_sixteen v_limbCount v_length v_point v_roundLength v_roundPoint v_written v_bodySize) s.heap.size = A at hD hX ⊢
  have hA : ∀ q : Nat, s.heap.size ≤ q → A q := fun q h => by rw [← hAe]; exact Or.inr h
  have hS : va_S A s.heap s.heap [] := va_S.rf
  have hl := lv_entry ([.ref h_this]) (n := 1) (Nat.le_of_ble_eq_true rfl)
  rw [lg_entry_eq]
  generalize (lg_sl ([.ref h_this]) ++ List.replicate (1 - (lg_sl ([.ref h_this])).length) Slot.unset).toArray = ls at hl ⊢
  have hl : lv_has ls 1 [(0, .ref h_this)] := hl
  exact s_M_exponent_e cx hK hA hX v_kind v_exponent s.heap [] ls hP hD hS hl hf
def f_M_isBlank_18  : Option (Int32) :=
  some (1 : Int32)
def f_M_isBlank (p0 : Int32) : Option (Int32) :=
  if p0 = (32 : Int32) then
    f_M_isBlank_18
  else
    if p0 < (9 : Int32) then
      some (0 : Int32)
    else
      if (13 : Int32) < p0 then
        some (0 : Int32)
      else
        f_M_isBlank_18
set_option maxHeartbeats 4000000 in
set_option maxRecDepth 100000 in
theorem s_M_isBlank_18 {p : Program} {l : Launch} {e : Env} {s : State} {m : MethodId} {args : Array Value} {below : List Frame} {meth : Method} {c : Code} {dC : Nat → ClassId} {dI : Nat → Nat → Nat} {A : Nat → Prop} {X : SXT} {res : Int32}  (cx : cxx p s m args meth c b_M_isBlank 1 (some .boolean) R_M) (hK : va_K (dC, dI) classes [] s) (hA : ∀ q, s.heap.size ≤ q → A q) (hX : SX X A s s.heap)  : ∀  (H : Heap) (locs : List Loc) (ls : Array Slot), va_P (dC, dI) classes [] H → va_D A [] → va_S A s.heap H locs → lv_has ls 1 [] → f_M_isBlank_18  = some res → W p l e ({ frames := 0, cells := 0, slots := 0, locals := 0 }) s m args below meth c H locs 0 0 (MQ below (va_Qi (fun (r : Int32) (_ : Unit) => some r = some res) (gB (dC, dI) [] A (fun (u : Unit) => [])) A) args s 0 0 A) (F0 m 18 ls []) := by
  intro  H locs ls hP hD hS hl h
  obtain ⟨hx, hb, hr, hml, hown, ht, hlk⟩ := id cx
  refine lv_iconst (v := 1) hx hb d_M_isBlank_18 (by decide) ?_
  refine lv_goto (tgt := 23) hx hb d_M_isBlank_19 (by decide) ?_
  exact W.zret (v := (1 : Int32)) hx hb hr rfl (fun t ht9 hW => ⟨⟨(1 : Int32), (), rfl, h, by rw [ht9]; exact hP, va_K.moved hW.alike hK, hD⟩, hS.F ht9⟩) hS.2.2 d_M_isBlank_23 hlk
set_option maxHeartbeats 4000000 in
set_option maxRecDepth 100000 in
theorem s_M_isBlank_e {p : Program} {l : Launch} {e : Env} {s : State} {m : MethodId} {args : Array Value} {below : List Frame} {meth : Method} {c : Code} {dC : Nat → ClassId} {dI : Nat → Nat → Nat} {A : Nat → Prop} {X : SXT} {res : Int32} (cx : cxx p s m args meth c b_M_isBlank 1 (some .boolean) R_M) (hK : va_K (dC, dI) classes [] s) (hA : ∀ q, s.heap.size ≤ q → A q) (hX : SX X A s s.heap) : ∀ (p0 : Int32) (H : Heap) (locs : List Loc) (ls : Array Slot), va_P (dC, dI) classes [] H → va_D A [] → va_S A s.heap H locs → lv_has ls 1 [(0, .int p0)] → f_M_isBlank p0 = some res → W p l e ({ frames := 0, cells := 0, slots := 0, locals := 0 }) s m args below meth c H locs 0 0 (MQ below (va_Qi (fun (r : Int32) (_ : Unit) => some r = some res) (gB (dC, dI) [] A (fun (u : Unit) => [])) A) args s 0 0 A) (F0 m 0 ls []) := by
  intro p0 H locs ls hP hD hS hl h
  obtain ⟨hx, hb, hr, hml, hown, ht, hlk⟩ := id cx
  refine lv_iload_n hx hb d_M_isBlank_0 rfl (lv_at hl 0 rfl) ?_
  refine lv_bipush (v := 32) hx hb d_M_isBlank_1 (by decide) ?_
  refine lv_icmp_eq (tgt := 18) hx hb d_M_isBlank_3 (by decide) (fun c1 => ?_) (fun c1 => ?_)
  · have h := if_t c1 h
    exact s_M_isBlank_18 cx hK hA hX  H locs ls hP hD hS (lv_sub hl [] rfl) h
  · have h := if_f c1 h
    refine lv_iload_n hx hb d_M_isBlank_6 rfl (lv_at hl 0 rfl) ?_
    refine lv_bipush (v := 9) hx hb d_M_isBlank_7 (by decide) ?_
    refine lv_icmp_lt (tgt := 22) hx hb d_M_isBlank_9 (by decide) (fun c2 => ?_) (fun c2 => ?_)
    · have h := if_t c2 h
      refine lv_iconst (v := 0) hx hb d_M_isBlank_22 (by decide) ?_
      exact W.zret (v := (0 : Int32)) hx hb hr rfl (fun t ht9 hW => ⟨⟨(0 : Int32), (), rfl, h, by rw [ht9]; exact hP, va_K.moved hW.alike hK, hD⟩, hS.F ht9⟩) hS.2.2 d_M_isBlank_23 hlk
    · have h := if_f c2 h
      refine lv_iload_n hx hb d_M_isBlank_12 rfl (lv_at hl 0 rfl) ?_
      refine lv_bipush (v := 13) hx hb d_M_isBlank_13 (by decide) ?_
      refine lv_icmp_gt (tgt := 22) hx hb d_M_isBlank_15 (by decide) (fun c3 => ?_) (fun c3 => ?_)
      · have h := if_t c3 h
        refine lv_iconst (v := 0) hx hb d_M_isBlank_22 (by decide) ?_
        exact W.zret (v := (0 : Int32)) hx hb hr rfl (fun t ht9 hW => ⟨⟨(0 : Int32), (), rfl, h, by rw [ht9]; exact hP, va_K.moved hW.alike hK, hD⟩, hS.F ht9⟩) hS.2.2 d_M_isBlank_23 hlk
      · have h := if_f c3 h
        exact s_M_isBlank_18 cx hK hA hX  H locs ls hP hD hS (lv_sub hl [] rfl) h
set_option maxHeartbeats 4000000 in
set_option maxRecDepth 100000 in
theorem c_M_isBlank (l : Launch) (dC : Nat → ClassId) (dI : Nat → Nat → Nat) (X : SXT) (sz : Nat) (p0 : Int32) (res : Int32) (hf : f_M_isBlank p0 = some res) : Met l y_M_isBlank (.code y_M_isBlank b_M_isBlank 1 (some .boolean) :: w0) ({ frames := 0, cells := 0, slots := 0, locals := 0 }) (va_Pc [.int p0] (gP (dC, dI) [] [] sz X)) (va_Qi (fun (r : Int32) (_ : Unit) => some r = some res) (gB (dC, dI) [] (va_A [] sz) (fun (u : Unit) => [])) (va_A [] sz)) 0 0 (va_A [] sz) := by
  refine Met.ofW (cc := b_M_isBlank) (maxL := 1) (ret := (some .boolean)) (by decide) rfl ?_
  intro p e s m args below meth c s₁ B hml hv
  obtain ⟨rfl, hsz, hP, hK, hD0, hX⟩ := hv
  subst hsz
  have cx : cxx p s m ([.int p0] : List Value).toArray meth c b_M_isBlank 1 (some .boolean) R_M := ⟨B.exec, B.bytes, B.returns, hml, findClass_of_methodNamed B.named, fun w9 hw => atoms_spec (ws := .code y_M_isBlank b_M_isBlank 1 (some .boolean) :: w0) B.pre w9 (List.mem_cons_of_mem _ hw), B.notSynchronized⟩
  have hD := hD0.self (sz := s.heap.size)
  generalize hAe : va_A [] s.heap.size = A at hD hX ⊢
  have hA : ∀ q : Nat, s.heap.size ≤ q → A q := fun q h => by rw [← hAe]; exact Or.inr h
  have hS : va_S A s.heap s.heap [] := va_S.rf
  have hl := lv_entry ([.int p0]) (n := 1) (Nat.le_of_ble_eq_true rfl)
  rw [lg_entry_eq]
  generalize (lg_sl ([.int p0]) ++ List.replicate (1 - (lg_sl ([.int p0])).length) Slot.unset).toArray = ls at hl ⊢
  have hl : lv_has ls 1 [(0, .int p0)] := hl
  exact s_M_isBlank_e cx hK hA hX p0 s.heap [] ls hP hD hS hl hf

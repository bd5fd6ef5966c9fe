abbrev WS_Numeral_findSizeOf16 (h_this : Nat) (h_this_tape : Nat) (h_this_tape_row : Nat) (h_p1 : Nat) (c_this_tape_row : ClassId) (v_next : Int32) (v_negative : Int32) (v_sixteen : Int32) (v_hasPoint : Int32) (v_hasPower : Int32) (v_from : Int32) (v_to : Int32) (v_before : Int32) (v_digits : Int32) (v_power : Int32) (v_found : Int64) (v_tape_length : Int32) (a_tape_row : (Nat → Int32)) (v_p1_factor : Int64) (v_p1_power : Int32) (v_p1_infinite : Int32) : va_W := [(h_this, .inr (2, [.ref h_this_tape, .int v_next, .int v_negative, .int v_sixteen, .int v_hasPoint, .int v_hasPower, .int v_from, .int v_to, .int v_before, .int v_digits, .int v_power, .long v_found])), (h_this_tape, .inr (1, [.ref h_this_tape_row, .int v_tape_length])), (h_this_tape_row, .inl (c_this_tape_row, 1200, .inl a_tape_row)), (h_p1, .inr (4, [.long v_p1_factor, .int v_p1_power, .int v_p1_infinite]))]
def f_Numeral_findSizeOf16_109 (v_from : Int32) (v_to : Int32) (v_before : Int32) (v_digits : Int32) (v_power : Int32) (v_tape_length : Int32) (a_tape_row : (Nat → Int32)) (v_p1_factor : Int64) (v_p1_power : Int32) (v_p1_infinite : Int32) (y2 : Int64) (y5 : Int32) (y6 : Int32) : Option (Int64 × Int32 × Int32) :=
  bi3 (f_Size_setNearest v_p1_factor v_p1_power v_p1_infinite y2 y6 (v_power + ((4 : Int32) * (y5 - (v_digits - v_before))))) fun v1 v2 v3 =>
  some (v1, v2, v3)
def f_Numeral_findSizeOf16_103 (k17 : Int32 → Int32 → Int32 → Int32 → Int32 → Int32 → (Nat → Int32) → Int64 → Int32 → Int32 → Int64 → Int32 → Int32 → Int32 → Int32 → Option (Int64 × Int32 × Int32)) (v_from : Int32) (v_to : Int32) (v_before : Int32) (v_digits : Int32) (v_power : Int32) (v_tape_length : Int32) (a_tape_row : (Nat → Int32)) (v_p1_factor : Int64) (v_p1_power : Int32) (v_p1_infinite : Int32) (y2 : Int64) (y4 : Int32) (y5 : Int32) (y6 : Int32) (y7 : Int32) : Option (Int64 × Int32 × Int32) :=
  bd (y7 + (1 : Int32)) fun x4 =>
  k17 v_from v_to v_before v_digits v_power v_tape_length a_tape_row v_p1_factor v_p1_power v_p1_infinite y2 y4 y5 y6 x4
def f_Numeral_findSizeOf16_101 (k17 : Int32 → Int32 → Int32 → Int32 → Int32 → Int32 → (Nat → Int32) → Int64 → Int32 → Int32 → Int64 → Int32 → Int32 → Int32 → Int32 → Option (Int64 × Int32 × Int32)) (v_from : Int32) (v_to : Int32) (v_before : Int32) (v_digits : Int32) (v_power : Int32) (v_tape_length : Int32) (a_tape_row : (Nat → Int32)) (v_p1_factor : Int64) (v_p1_power : Int32) (v_p1_infinite : Int32) (y2 : Int64) (y4 : Int32) (y5 : Int32) (y7 : Int32) (z0 : Int32) : Option (Int64 × Int32 × Int32) :=
  f_Numeral_findSizeOf16_103 k17 v_from v_to v_before v_digits v_power v_tape_length a_tape_row v_p1_factor v_p1_power v_p1_infinite y2 y4 y5 z0 y7
def f_Numeral_findSizeOf16_96 (k17 : Int32 → Int32 → Int32 → Int32 → Int32 → Int32 → (Nat → Int32) → Int64 → Int32 → Int32 → Int64 → Int32 → Int32 → Int32 → Int32 → Option (Int64 × Int32 × Int32)) (v_from : Int32) (v_to : Int32) (v_before : Int32) (v_digits : Int32) (v_power : Int32) (v_tape_length : Int32) (a_tape_row : (Nat → Int32)) (v_p1_factor : Int64) (v_p1_power : Int32) (v_p1_infinite : Int32) (y2 : Int64) (y4 : Int32) (y5 : Int32) (y7 : Int32) : Option (Int64 × Int32 × Int32) :=
  f_Numeral_findSizeOf16_101 k17 v_from v_to v_before v_digits v_power v_tape_length a_tape_row v_p1_factor v_p1_power v_p1_infinite y2 y4 y5 y7 (1 : Int32)
def f_Numeral_findSizeOf16_77 (k17 : Int32 → Int32 → Int32 → Int32 → Int32 → Int32 → (Nat → Int32) → Int64 → Int32 → Int32 → Int64 → Int32 → Int32 → Int32 → Int32 → Option (Int64 × Int32 × Int32)) (v_from : Int32) (v_to : Int32) (v_before : Int32) (v_digits : Int32) (v_power : Int32) (v_tape_length : Int32) (a_tape_row : (Nat → Int32)) (v_p1_factor : Int64) (v_p1_power : Int32) (v_p1_infinite : Int32) (y2 : Int64) (y5 : Int32) (y6 : Int32) (y7 : Int32) (z0 : Int32) (z1 : Int32) : Option (Int64 × Int32 × Int32) :=
  bd (z0 + z1) fun x5 =>
  f_Numeral_findSizeOf16_103 k17 v_from v_to v_before v_digits v_power v_tape_length a_tape_row v_p1_factor v_p1_power v_p1_infinite y2 x5 y5 y6 y7
def f_Numeral_findSizeOf16_17b (k17 : Int32 → Int32 → Int32 → Int32 → Int32 → Int32 → (Nat → Int32) → Int64 → Int32 → Int32 → Int64 → Int32 → Int32 → Int32 → Int32 → Option (Int64 × Int32 × Int32)) (v_from : Int32) (v_to : Int32) (v_before : Int32) (v_digits : Int32) (v_power : Int32) (v_tape_length : Int32) (a_tape_row : (Nat → Int32)) (v_p1_factor : Int64) (v_p1_power : Int32) (v_p1_infinite : Int32) (y2 : Int64) (y4 : Int32) (y5 : Int32) (y6 : Int32) (y7 : Int32) : Option (Int64 × Int32 × Int32) :=
  if v_to ≤ y7 then
    f_Numeral_findSizeOf16_109 v_from v_to v_before v_digits v_power v_tape_length a_tape_row v_p1_factor v_p1_power v_p1_infinite y2 y5 y6
  else
    bi1 (f_Tape_at v_tape_length a_tape_row y7) fun r7 =>
    bi1 (f_Numeral_digitOf r7 (1 : Int32)) fun r8 =>
    if 0 ≤ r8 then
      if (15 : Int32) ≤ y4 then
        bd (y5 + (1 : Int32)) fun x11 =>
        if y6 = 0 then
          if r8 ≤ 0 then
            f_Numeral_findSizeOf16_101 k17 v_from v_to v_before v_digits v_power v_tape_length a_tape_row v_p1_factor v_p1_power v_p1_infinite y2 y4 x11 y7 (0 : Int32)
          else
            f_Numeral_findSizeOf16_96 k17 v_from v_to v_before v_digits v_power v_tape_length a_tape_row v_p1_factor v_p1_power v_p1_infinite y2 y4 x11 y7
        else
          f_Numeral_findSizeOf16_96 k17 v_from v_to v_before v_digits v_power v_tape_length a_tape_row v_p1_factor v_p1_power v_p1_infinite y2 y4 x11 y7
      else
        bd ((lsl y2 (4 : Int32)) + (r8.toInt64)) fun x14 =>
        if x14 ≤ (0 : Int64) then
          f_Numeral_findSizeOf16_77 k17 v_from v_to v_before v_digits v_power v_tape_length a_tape_row v_p1_factor v_p1_power v_p1_infinite x14 y5 y6 y7 y4 (0 : Int32)
        else
          f_Numeral_findSizeOf16_77 k17 v_from v_to v_before v_digits v_power v_tape_length a_tape_row v_p1_factor v_p1_power v_p1_infinite x14 y5 y6 y7 y4 (1 : Int32)
    else
      f_Numeral_findSizeOf16_103 k17 v_from v_to v_before v_digits v_power v_tape_length a_tape_row v_p1_factor v_p1_power v_p1_infinite y2 y4 y5 y6 y7
def f_Numeral_findSizeOf16_17 : Nat → Int32 → Int32 → Int32 → Int32 → Int32 → Int32 → (Nat → Int32) → Int64 → Int32 → Int32 → Int64 → Int32 → Int32 → Int32 → Int32 → Option (Int64 × Int32 × Int32)
  | 0 => fun _ _ _ _ _ _ _ _ _ _ _ _ _ _ _ => none
  | n + 1 => fun v_from v_to v_before v_digits v_power v_tape_length a_tape_row v_p1_factor v_p1_power v_p1_infinite y2 y4 y5 y6 y7 => f_Numeral_findSizeOf16_17b (f_Numeral_findSizeOf16_17 n) v_from v_to v_before v_digits v_power v_tape_length a_tape_row v_p1_factor v_p1_power v_p1_infinite y2 y4 y5 y6 y7
def f_Numeral_findSizeOf16 (v_from : Int32) (v_to : Int32) (v_before : Int32) (v_digits : Int32) (v_power : Int32) (v_tape_length : Int32) (a_tape_row : (Nat → Int32)) (v_p1_factor : Int64) (v_p1_power : Int32) (v_p1_infinite : Int32) : Option (Int64 × Int32 × Int32) :=
  f_Numeral_findSizeOf16_17 fu v_from v_to v_before v_digits v_power v_tape_length a_tape_row v_p1_factor v_p1_power v_p1_infinite (0 : Int64) (0 : Int32) (0 : Int32) (0 : Int32) v_from
set_option maxHeartbeats 4000000 in
set_option maxRecDepth 100000 in
theorem s_Numeral_findSizeOf16_109 {p : Program} {l : Launch} {e : Env} {s : State} {m : MethodId} {args : Array Value} {below : List Frame} {meth : Method} {c : Code} {dC : Nat → ClassId} {dI : Nat → Nat → Nat} {A : Nat → Prop} {X : SXT} {h_this : Nat} {h_this_tape : Nat} {h_this_tape_row : Nat} {h_p1 : Nat} {c_this_tape_row : ClassId} {v_next : Int32} {v_negative : Int32} {v_sixteen : Int32} {v_hasPoint : Int32} {v_hasPower : Int32} {v_found : Int64} {res : Int64 × Int32 × Int32}  (cx : cxx p s m args meth c b_Numeral_findSizeOf16 9 none R_Numeral) (hK : va_K (dC, dI) classes [(c_this_tape_row, .byte)] s) (hA : ∀ q, s.heap.size ≤ q → A q) (hX : SX X A s s.heap)  : ∀ (v_from : Int32) (v_to : Int32) (v_before : Int32) (v_digits : Int32) (v_power : Int32) (v_tape_length : Int32) (a_tape_row : (Nat → Int32)) (v_p1_factor : Int64) (v_p1_power : Int32) (v_p1_infinite : Int32) (y2 : Int64) (y5 : Int32) (y6 : Int32) (H : Heap) (locs : List Loc) (ls : Array Slot), va_P (dC, dI) classes (WS_Numeral_findSizeOf16 h_this h_this_tape h_this_tape_row h_p1 c_this_tape_row v_next v_negative v_sixteen v_hasPoint v_hasPower v_from v_to v_before v_digits v_power v_found v_tape_length a_tape_row v_p1_factor v_p1_power v_p1_infinite) H → va_D A (WS_Numeral_findSizeOf16 h_this h_this_tape h_this_tape_row h_p1 c_this_tape_row v_next v_negative v_sixteen v_hasPoint v_hasPower v_from v_to v_before v_digits v_power v_found v_tape_length a_tape_row v_p1_factor v_p1_power v_p1_infinite) → va_S A s.heap H locs → lv_has ls 9 [(0, .ref h_this), (1, .ref h_p1), (2, .long y2), (5, .int y5), (6, .int y6)] → f_Numeral_findSizeOf16_109 v_from v_to v_before v_digits v_power v_tape_length a_tape_row v_p1_factor v_p1_power v_p1_infinite y2 y5 y6 = some res → W p l e ({ frames := 5, cells := 0, slots := 0, locals := 120 }) s m args below meth c H locs 0 0 (MQ below (va_Qv (fun (u : Int64 × Int32 × Int32) => some u = some res) (gB (dC, dI) [(c_this_tape_row, .byte)] A (fun (u : Int64 × Int32 × Int32) => (WS_Numeral_findSizeOf16 h_this h_this_tape h_this_tape_row h_p1 c_this_tape_row v_next v_negative v_sixteen v_hasPoint v_hasPower v_from v_to v_before v_digits v_power v_found v_tape_length a_tape_row u.1 u.2.1 u.2.2))) A) args s 0 0 A) (F0 m 109 ls []) := by
  intro v_from v_to v_before v_digits v_power v_tape_length a_tape_row v_p1_factor v_p1_power v_p1_infinite y2 y5 y6 H locs ls hP hD hS hl h
  obtain ⟨hx, hb, hr, hml, hown, ht, hlk⟩ := id cx
  refine lv_aload_n hx hb d_Numeral_findSizeOf16_109 rfl (lv_at hl 1 rfl) ?_
  refine lv_lload_n hx hb d_Numeral_findSizeOf16_110 rfl (lv_at hl 2 rfl) ?_
  refine lv_iload hx hb d_Numeral_findSizeOf16_111 (lv_at hl 4 rfl) ?_
  refine lv_aload_n hx hb d_Numeral_findSizeOf16_113 rfl (lv_at hl 0 rfl) ?_
  refine va_get (D := (dC, dI)) (ci := 2) (v := .int v_power) (C := R_Numeral) (T := F_Numeral) (N := 12) hx hb ht i_Numeral hown hK hP 0 rfl rfl 10 (by decide) (ht _ q_36) (fun _ h9 => h9) rfl d_Numeral_findSizeOf16_114 ?_
  refine lv_iconst (v := 4) hx hb d_Numeral_findSizeOf16_117 (by decide) ?_
  refine lv_iload hx hb d_Numeral_findSizeOf16_118 (lv_at hl 3 rfl) ?_
  refine lv_aload_n hx hb d_Numeral_findSizeOf16_120 rfl (lv_at hl 0 rfl) ?_
  refine va_get (D := (dC, dI)) (ci := 2) (v := .int v_digits) (C := R_Numeral) (T := F_Numeral) (N := 12) hx hb ht i_Numeral hown hK hP 0 rfl rfl 9 (by decide) (ht _ q_34) (fun _ h9 => h9) rfl d_Numeral_findSizeOf16_121 ?_
  refine lv_aload_n hx hb d_Numeral_findSizeOf16_124 rfl (lv_at hl 0 rfl) ?_
  refine va_get (D := (dC, dI)) (ci := 2) (v := .int v_before) (C := R_Numeral) (T := F_Numeral) (N := 12) hx hb ht i_Numeral hown hK hP 0 rfl rfl 8 (by decide) (ht _ q_29) (fun _ h9 => h9) rfl d_Numeral_findSizeOf16_125 ?_
  refine lv_isub hx hb d_Numeral_findSizeOf16_128 ?_
  refine lv_isub hx hb d_Numeral_findSizeOf16_129 ?_
  refine lv_imul hx hb d_Numeral_findSizeOf16_130 ?_
  refine lv_iadd hx hb d_Numeral_findSizeOf16_131 ?_
  obtain ⟨v1, v2, v3, hf, h⟩ := bi3_x h
  refine clVv (D := (dC, dI)) (n := 3) (As := [.long y2, .int y6, .int (v_power + ((4 : Int32) * (y5 - (v_digits - v_before))))]) ⟨hx, hb, hml, hown, ht⟩ (c_Size_setNearest l dC dI X h_p1 H.size v_p1_factor v_p1_power v_p1_infinite y2 y6 (v_power + ((4 : Int32) * (y5 - (v_digits - v_before)))) (v1, v2, v3) hf) (gV q_103 q_104 q_105 q_91 q_106) (by decide +kernel) ⟨rfl, rfl, Nat.le_of_ble_eq_true rfl, Nat.le_of_ble_eq_true rfl⟩ hK hP hD hS hA hX [3] [0, 1, 2] [] rfl (wr := [(h_this, .inr (2, [.ref h_this_tape, .int v_next, .int v_negative, .int v_sixteen, .int v_hasPoint, .int v_hasPower, .int v_from, .int v_to, .int v_before, .int v_digits, .int v_power, .long v_found])), (h_this_tape, .inr (1, [.ref h_this_tape_row, .int v_tape_length])), (h_this_tape_row, .inl (c_this_tape_row, 1200, .inl a_tape_row))]) rfl (by decide) (by decide) (by decide) rfl (va_recv hK hP (ci := 4) (q0 := 3) rfl rfl) rfl hl.1 rfl (lv_room (Nat.le_of_ble_eq_true rfl)) d_Numeral_findSizeOf16_132 ⟨Nat.zero_le _, Nat.zero_le _⟩ (fun u9 H locs h9 hP hD hS => ?_)
  cases h9
  have hP : va_P (dC, dI) classes (WS_Numeral_findSizeOf16 h_this h_this_tape h_this_tape_row h_p1 c_this_tape_row v_next v_negative v_sixteen v_hasPoint v_hasPower v_from v_to v_before v_digits v_power v_found v_tape_length a_tape_row v1 v2 v3) H := hP.sub [0, 1, 2, 3] rfl
  have hD : va_D A (WS_Numeral_findSizeOf16 h_this h_this_tape h_this_tape_row h_p1 c_this_tape_row v_next v_negative v_sixteen v_hasPoint v_hasPower v_from v_to v_before v_digits v_power v_found v_tape_length a_tape_row v1 v2 v3) := hD.sub [0, 1, 2, 3] (by decide) rfl
  exact W.vret hx hb hr (fun t ht9 hW => ⟨⟨(v1, v2, v3), rfl, h, by rw [ht9]; exact hP, va_K.moved hW.alike hK, hD⟩, hS.F ht9⟩) hS.2.2 d_Numeral_findSizeOf16_135 hlk
set_option maxHeartbeats 4000000 in
set_option maxRecDepth 100000 in
theorem s_Numeral_findSizeOf16_103 {p : Program} {l : Launch} {e : Env} {s : State} {m : MethodId} {args : Array Value} {below : List Frame} {meth : Method} {c : Code} {dC : Nat → ClassId} {dI : Nat → Nat → Nat} {A : Nat → Prop} {X : SXT} {h_this : Nat} {h_this_tape : Nat} {h_this_tape_row : Nat} {h_p1 : Nat} {c_this_tape_row : ClassId} {v_next : Int32} {v_negative : Int32} {v_sixteen : Int32} {v_hasPoint : Int32} {v_hasPower : Int32} {v_found : Int64} {res : Int64 × Int32 × Int32} {k17 : Int32 → Int32 → Int32 → Int32 → Int32 → Int32 → (Nat → Int32) → Int64 → Int32 → Int32 → Int64 → Int32 → Int32 → Int32 → Int32 → Option (Int64 × Int32 × Int32)} (cx : cxx p s m args meth c b_Numeral_findSizeOf16 9 none R_Numeral) (hK : va_K (dC, dI) classes [(c_this_tape_row, .byte)] s) (hA : ∀ q, s.heap.size ≤ q → A q) (hX : SX X A s s.heap) (hk17 : ∀ (v_from : Int32) (v_to : Int32) (v_before : Int32) (v_digits : Int32) (v_power : Int32) (v_tape_length : Int32) (a_tape_row : (Nat → Int32)) (v_p1_factor : Int64) (v_p1_power : Int32) (v_p1_infinite : Int32) (y2 : Int64) (y4 : Int32) (y5 : Int32) (y6 : Int32) (y7 : Int32) (H : Heap) (locs : List Loc) (ls : Array Slot), va_P (dC, dI) classes (WS_Numeral_findSizeOf16 h_this h_this_tape h_this_tape_row h_p1 c_this_tape_row v_next v_negative v_sixteen v_hasPoint v_hasPower v_from v_to v_before v_digits v_power v_found v_tape_length a_tape_row v_p1_factor v_p1_power v_p1_infinite) H → va_D A (WS_Numeral_findSizeOf16 h_this h_this_tape h_this_tape_row h_p1 c_this_tape_row v_next v_negative v_sixteen v_hasPoint v_hasPower v_from v_to v_before v_digits v_power v_found v_tape_length a_tape_row v_p1_factor v_p1_power v_p1_infinite) → va_S A s.heap H locs → lv_has ls 9 [(0, .ref h_this), (1, .ref h_p1), (2, .long y2), (4, .int y4), (5, .int y5), (6, .int y6), (7, .int y7)] → k17 v_from v_to v_before v_digits v_power v_tape_length a_tape_row v_p1_factor v_p1_power v_p1_infinite y2 y4 y5 y6 y7 = some res → W p l e ({ frames := 5, cells := 0, slots := 0, locals := 120 }) s m args below meth c H locs 0 0 (MQ below (va_Qv (fun (u : Int64 × Int32 × Int32) => some u = some res) (gB (dC, dI) [(c_this_tape_row, .byte)] A (fun (u : Int64 × Int32 × Int32) => (WS_Numeral_findSizeOf16 h_this h_this_tape h_this_tape_row h_p1 c_this_tape_row v_next v_negative v_sixteen v_hasPoint v_hasPower v_from v_to v_before v_digits v_power v_found v_tape_length a_tape_row u.1 u.2.1 u.2.2))) A) args s 0 0 A) (F0 m 17 ls [])) : ∀ (v_from : Int32) (v_to : Int32) (v_before : Int32) (v_digits : Int32) (v_power : Int32) (v_tape_length : Int32) (a_tape_row : (Nat → Int32)) (v_p1_factor : Int64) (v_p1_power : Int32) (v_p1_infinite : Int32) (y2 : Int64) (y4 : Int32) (y5 : Int32) (y6 : Int32) (y7 : Int32) (H : Heap) (locs : List Loc) (ls : Array Slot), va_P (dC, dI) classes (WS_Numeral_findSizeOf16 h_this h_this_tape h_this_tape_row h_p1 c_this_tape_row v_next v_negative v_sixteen v_hasPoint v_hasPower v_from v_to v_before v_digits v_power v_found v_tape_length a_tape_row v_p1_factor v_p1_power v_p1_infinite) H → va_D A (WS_Numeral_findSizeOf16 h_this h_this_tape h_this_tape_row h_p1 c_this_tape_row v_next v_negative v_sixteen v_hasPoint v_hasPower v_from v_to v_before v_digits v_power v_found v_tape_length a_tape_row v_p1_factor v_p1_power v_p1_infinite) → va_S A s.heap H locs → lv_has ls 9 [(0, .ref h_this), (1, .ref h_p1), (2, .long y2), (4, .int y4), (5, .int y5), (6, .int y6), (7, .int y7)] → f_Numeral_findSizeOf16_103 k17 v_from v_to v_before v_digits v_power v_tape_length a_tape_row v_p1_factor v_p1_power v_p1_infinite y2 y4 y5 y6 y7 = some res → W p l e ({ frames := 5, cells := 0, slots := 0, locals := 120 }) s m args below meth c H locs 0 0 (MQ below (va_Qv (fun (u : Int64 × Int32 × Int32) => some u = some res) (gB (dC, dI) [(c_this_tape_row, .byte)] A (fun (u : Int64 × Int32 × Int32) => (WS_Numeral_findSizeOf16 h_this h_this_tape h_this_tape_row h_p1 c_this_tape_row v_next v_negative v_sixteen v_hasPoint v_hasPower v_from v_to v_before v_digits v_power v_found v_tape_length a_tape_row u.1 u.2.1 u.2.2))) A) args s 0 0 A) (F0 m 103 ls []) := by
  intro v_from v_to v_before v_digits v_power v_tape_length a_tape_row v_p1_factor v_p1_power v_p1_infinite y2 y4 y5 y6 y7 H locs ls hP hD hS hl h
  obtain ⟨hx, hb, hr, hml, hown, ht, hlk⟩ := id cx
  obtain ⟨x4, e_x4⟩ : ∃ y : Int32, y = y7 + (1 : Int32) := ⟨_, rfl⟩
  refine lv_iinc (v := x4) (lv' := [(7, .int x4), (0, .ref h_this), (1, .ref h_p1), (2, .long y2), (4, .int y4), (5, .int y5), (6, .int y6)]) hx hb d_Numeral_findSizeOf16_103 hl (k := 6) rfl (by rw [e_x4]; rfl) (by decide) rfl (fun ls hl => ?_)
  have h := bd_g e_x4 h
  refine lv_goto (tgt := 17) hx hb d_Numeral_findSizeOf16_106 (by decide) ?_
  exact hk17 v_from v_to v_before v_digits v_power v_tape_length a_tape_row v_p1_factor v_p1_power v_p1_infinite y2 y4 y5 y6 x4 H locs ls hP hD hS (lv_sub hl [1, 2, 3, 4, 5, 6, 0] rfl) h
set_option maxHeartbeats 4000000 in
set_option maxRecDepth 100000 in
theorem s_Numeral_findSizeOf16_101 {p : Program} {l : Launch} {e : Env} {s : State} {m : MethodId} {args : Array Value} {below : List Frame} {meth : Method} {c : Code} {dC : Nat → ClassId} {dI : Nat → Nat → Nat} {A : Nat → Prop} {X : SXT} {h_this : Nat} {h_this_tape : Nat} {h_this_tape_row : Nat} {h_p1 : Nat} {c_this_tape_row : ClassId} {v_next : Int32} {v_negative : Int32} {v_sixteen : Int32} {v_hasPoint : Int32} {v_hasPower : Int32} {v_found : Int64} {res : Int64 × Int32 × Int32} {k17 : Int32 → Int32 → Int32 → Int32 → Int32 → Int32 → (Nat → Int32) → Int64 → Int32 → Int32 → Int64 → Int32 → Int32 → Int32 → Int32 → Option (Int64 × Int32 × Int32)} (cx : cxx p s m args meth c b_Numeral_findSizeOf16 9 none R_Numeral) (hK : va_K (dC, dI) classes [(c_this_tape_row, .byte)] s) (hA : ∀ q, s.heap.size ≤ q → A q) (hX : SX X A s s.heap) (hk17 : ∀ (v_from : Int32) (v_to : Int32) (v_before : Int32) (v_digits : Int32) (v_power : Int32) (v_tape_length : Int32) (a_tape_row : (Nat → Int32)) (v_p1_factor : Int64) (v_p1_power : Int32) (v_p1_infinite : Int32) (y2 : Int64) (y4 : Int32) (y5 : Int32) (y6 : Int32) (y7 : Int32) (H : Heap) (locs : List Loc) (ls : Array Slot), va_P (dC, dI) classes (WS_Numeral_findSizeOf16 h_this h_this_tape h_this_tape_row h_p1 c_this_tape_row v_next v_negative v_sixteen v_hasPoint v_hasPower v_from v_to v_before v_digits v_power v_found v_tape_length a_tape_row v_p1_factor v_p1_power v_p1_infinite) H → va_D A (WS_Numeral_findSizeOf16 h_this h_this_tape h_this_tape_row h_p1 c_this_tape_row v_next v_negative v_sixteen v_hasPoint v_hasPower v_from v_to v_before v_digits v_power v_found v_tape_length a_tape_row v_p1_factor v_p1_power v_p1_infinite) → va_S A s.heap H locs → lv_has ls 9 [(0, .ref h_this), (1, .ref h_p1), (2, .long y2), (4, .int y4), (5, .int y5), (6, .int y6), (7, .int y7)] → k17 v_from v_to v_before v_digits v_power v_tape_length a_tape_row v_p1_factor v_p1_power v_p1_infinite y2 y4 y5 y6 y7 = some res → W p l e ({ frames := 5, cells := 0, slots := 0, locals := 120 }) s m args below meth c H locs 0 0 (MQ below (va_Qv (fun (u : Int64 × Int32 × Int32) => some u = some res) (gB (dC, dI) [(c_this_tape_row, .byte)] A (fun (u : Int64 × Int32 × Int32) => (WS_Numeral_findSizeOf16 h_this h_this_tape h_this_tape_row h_p1 c_this_tape_row v_next v_negative v_sixteen v_hasPoint v_hasPower v_from v_to v_before v_digits v_power v_found v_tape_length a_tape_row u.1 u.2.1 u.2.2))) A) args s 0 0 A) (F0 m 17 ls [])) : ∀ (v_from : Int32) (v_to : Int32) (v_before : Int32) (v_digits : Int32) (v_power : Int32) (v_tape_length : Int32) (a_tape_row : (Nat → Int32)) (v_p1_factor : Int64) (v_p1_power : Int32) (v_p1_infinite : Int32) (y2 : Int64) (y4 : Int32) (y5 : Int32) (y7 : Int32) (z0 : Int32) (H : Heap) (locs : List Loc) (ls : Array Slot), va_P (dC, dI) classes (WS_Numeral_findSizeOf16 h_this h_this_tape h_this_tape_row h_p1 c_this_tape_row v_next v_negative v_sixteen v_hasPoint v_hasPower v_from v_to v_before v_digits v_power v_found v_tape_length a_tape_row v_p1_factor v_p1_power v_p1_infinite) H → va_D A (WS_Numeral_findSizeOf16 h_this h_this_tape h_this_tape_row h_p1 c_this_tape_row v_next v_negative v_sixteen v_hasPoint v_hasPower v_from v_to v_before v_digits v_power v_found v_tape_length a_tape_row v_p1_factor v_p1_power v_p1_infinite) → va_S A s.heap H locs → lv_has ls 9 [(0, .ref h_this), (1, .ref h_p1), (2, .long y2), (4, .int y4), (5, .int y5), (7, .int y7)] → f_Numeral_findSizeOf16_101 k17 v_from v_to v_before v_digits v_power v_tape_length a_tape_row v_p1_factor v_p1_power v_p1_infinite y2 y4 y5 y7 z0 = some res → W p l e ({ frames := 5, cells := 0, slots := 0, locals := 120 }) s m args below meth c H locs 0 0 (MQ below (va_Qv (fun (u : Int64 × Int32 × Int32) => some u = some res) (gB (dC, dI) [(c_this_tape_row, .byte)] A (fun (u : Int64 × Int32 × Int32) => (WS_Numeral_findSizeOf16 h_this h_this_tape h_this_tape_row h_p1 c_this_tape_row v_next v_negative v_sixteen v_hasPoint v_hasPower v_from v_to v_before v_digits v_power v_found v_tape_length a_tape_row u.1 u.2.1 u.2.2))) A) args s 0 0 A) (F0 m 101 ls [.int z0]) := by
  intro v_from v_to v_before v_digits v_power v_tape_length a_tape_row v_p1_factor v_p1_power v_p1_infinite y2 y4 y5 y7 z0 H locs ls hP hD hS hl h
  obtain ⟨hx, hb, hr, hml, hown, ht, hlk⟩ := id cx
  refine lv_istore (lv' := [(6, .int z0), (0, .ref h_this), (1, .ref h_p1), (2, .long y2), (4, .int y4), (5, .int y5), (7, .int y7)]) hx hb d_Numeral_findSizeOf16_101 hl (by decide) rfl (fun ls hl => ?_)
  exact s_Numeral_findSizeOf16_103 cx hK hA hX hk17 v_from v_to v_before v_digits v_power v_tape_length a_tape_row v_p1_factor v_p1_power v_p1_infinite y2 y4 y5 z0 y7 H locs ls hP hD hS (lv_sub hl [1, 2, 3, 4, 5, 0, 6] rfl) h
set_option maxHeartbeats 4000000 in
set_option maxRecDepth 100000 in
theorem s_Numeral_findSizeOf16_96 {p : Program} {l : Launch} {e : Env} {s : State} {m : MethodId} {args : Array Value} {below : List Frame} {meth : Method} {c : Code} {dC : Nat → ClassId} {dI : Nat → Nat → Nat} {A : Nat → Prop} {X : SXT} {h_this : Nat} {h_this_tape : Nat} {h_this_tape_row : Nat} {h_p1 : Nat} {c_this_tape_row : ClassId} {v_next : Int32} {v_negative : Int32} {v_sixteen : Int32} {v_hasPoint : Int32} {v_hasPower : Int32} {v_found : Int64} {res : Int64 × Int32 × Int32} {k17 : Int32 → Int32 → Int32 → Int32 → Int32 → Int32 → (Nat → Int32) → Int64 → Int32 → Int32 → Int64 → Int32 → Int32 → Int32 → Int32 → Option (Int64 × Int32 × Int32)} (cx : cxx p s m args meth c b_Numeral_findSizeOf16 9 none R_Numeral) (hK : va_K (dC, dI) classes [(c_this_tape_row, .byte)] s) (hA : ∀ q, s.heap.size ≤ q → A q) (hX : SX X A s s.heap) (hk17 : ∀ (v_from : Int32) (v_to : Int32) (v_before : Int32) (v_digits : Int32) (v_power : Int32) (v_tape_length : Int32) (a_tape_row : (Nat → Int32)) (v_p1_factor : Int64) (v_p1_power : Int32) (v_p1_infinite : Int32) (y2 : Int64) (y4 : Int32) (y5 : Int32) (y6 : Int32) (y7 : Int32) (H : Heap) (locs : List Loc) (ls : Array Slot), va_P (dC, dI) classes (WS_Numeral_findSizeOf16 h_this h_this_tape h_this_tape_row h_p1 c_this_tape_row v_next v_negative v_sixteen v_hasPoint v_hasPower v_from v_to v_before v_digits v_power v_found v_tape_length a_tape_row v_p1_factor v_p1_power v_p1_infinite) H → va_D A (WS_Numeral_findSizeOf16 h_this h_this_tape h_this_tape_row h_p1 c_this_tape_row v_next v_negative v_sixteen v_hasPoint v_hasPower v_from v_to v_before v_digits v_power v_found v_tape_length a_tape_row v_p1_factor v_p1_power v_p1_infinite) → va_S A s.heap H locs → lv_has ls 9 [(0, .ref h_this), (1, .ref h_p1), (2, .long y2), (4, .int y4), (5, .int y5), (6, .int y6), (7, .int y7)] → k17 v_from v_to v_before v_digits v_power v_tape_length a_tape_row v_p1_factor v_p1_power v_p1_infinite y2 y4 y5 y6 y7 = some res → W p l e ({ frames := 5, cells := 0, slots := 0, locals := 120 }) s m args below meth c H locs 0 0 (MQ below (va_Qv (fun (u : Int64 × Int32 × Int32) => some u = some res) (gB (dC, dI) [(c_this_tape_row, .byte)] A (fun (u : Int64 × Int32 × Int32) => (WS_Numeral_findSizeOf16 h_this h_this_tape h_this_tape_row h_p1 c_this_tape_row v_next v_negative v_sixteen v_hasPoint v_hasPower v_from v_to v_before v_digits v_power v_found v_tape_length a_tape_row u.1 u.2.1 u.2.2))) A) args s 0 0 A) (F0 m 17 ls [])) : ∀ (v_from : Int32) (v_to : Int32) (v_before : Int32) (v_digits : Int32) (v_power : Int32) (v_tape_length : Int32) (a_tape_row : (Nat → Int32)) (v_p1_factor : Int64) (v_p1_power : Int32) (v_p1_infinite : Int32) (y2 : Int64) (y4 : Int32) (y5 : Int32) (y7 : Int32) (H : Heap) (locs : List Loc) (ls : Array Slot), va_P (dC, dI) classes (WS_Numeral_findSizeOf16 h_this h_this_tape h_this_tape_row h_p1 c_this_tape_row v_next v_negative v_sixteen v_hasPoint v_hasPower v_from v_to v_before v_digits v_power v_found v_tape_length a_tape_row v_p1_factor v_p1_power v_p1_infinite) H → va_D A (WS_Numeral_findSizeOf16 h_this h_this_tape h_this_tape_row h_p1 c_this_tape_row v_next v_negative v_sixteen v_hasPoint v_hasPower v_from v_to v_before v_digits v_power v_found v_tape_length a_tape_row v_p1_factor v_p1_power v_p1_infinite) → va_S A s.heap H locs → lv_has ls 9 [(0, .ref h_this), (1, .ref h_p1), (2, .long y2), (4, .int y4), (5, .int y5), (7, .int y7)] → f_Numeral_findSizeOf16_96 k17 v_from v_to v_before v_digits v_power v_tape_length a_tape_row v_p1_factor v_p1_power v_p1_infinite y2 y4 y5 y7 = some res → W p l e ({ frames := 5, cells := 0, slots := 0, locals := 120 }) s m args below meth c H locs 0 0 (MQ below (va_Qv (fun (u : Int64 × Int32 × Int32) => some u = some res) (gB (dC, dI) [(c_this_tape_row, .byte)] A (fun (u : Int64 × Int32 × Int32) => (WS_Numeral_findSizeOf16 h_this h_this_tape h_this_tape_row h_p1 c_this_tape_row v_next v_negative v_sixteen v_hasPoint v_hasPower v_from v_to v_before v_digits v_power v_found v_tape_length a_tape_row u.1 u.2.1 u.2.2))) A) args s 0 0 A) (F0 m 96 ls []) := by
  intro v_from v_to v_before v_digits v_power v_tape_length a_tape_row v_p1_factor v_p1_power v_p1_infinite y2 y4 y5 y7 H locs ls hP hD hS hl h
  obtain ⟨hx, hb, hr, hml, hown, ht, hlk⟩ := id cx
  refine lv_iconst (v := 1) hx hb d_Numeral_findSizeOf16_96 (by decide) ?_
  refine lv_goto (tgt := 101) hx hb d_Numeral_findSizeOf16_97 (by decide) ?_
  exact s_Numeral_findSizeOf16_101 cx hK hA hX hk17 v_from v_to v_before v_digits v_power v_tape_length a_tape_row v_p1_factor v_p1_power v_p1_infinite y2 y4 y5 y7 (1 : Int32) H locs ls hP hD hS (lv_sub hl [0, 1, 2, 3, 4, 5] rfl) h
set_option maxHeartbeats 4000000 in
set_option maxRecDepth 100000 in
theorem s_Numeral_findSizeOf16_77 {p : Program} {l : Launch} {e : Env} {s : State} {m : MethodId} {args : Array Value} {below : List Frame} {meth : Method} {c : Code} {dC : Nat → ClassId} {dI : Nat → Nat → Nat} {A : Nat → Prop} {X : SXT} {h_this : Nat} {h_this_tape : Nat} {h_this_tape_row : Nat} {h_p1 : Nat} {c_this_tape_row : ClassId} {v_next : Int32} {v_negative : Int32} {v_sixteen : Int32} {v_hasPoint : Int32} {v_hasPower : Int32} {v_found : Int64} {res : Int64 × Int32 × Int32} {k17 : Int32 → Int32 → Int32 → Int32 → Int32 → Int32 → (Nat → Int32) → Int64 → Int32 → Int32 → Int64 → Int32 → Int32 → Int32 → Int32 → Option (Int64 × Int32 × Int32)} (cx : cxx p s m args meth c b_Numeral_findSizeOf16 9 none R_Numeral) (hK : va_K (dC, dI) classes [(c_this_tape_row, .byte)] s) (hA : ∀ q, s.heap.size ≤ q → A q) (hX : SX X A s s.heap) (hk17 : ∀ (v_from : Int32) (v_to : Int32) (v_before : Int32) (v_digits : Int32) (v_power : Int32) (v_tape_length : Int32) (a_tape_row : (Nat → Int32)) (v_p1_factor : Int64) (v_p1_power : Int32) (v_p1_infinite : Int32) (y2 : Int64) (y4 : Int32) (y5 : Int32) (y6 : Int32) (y7 : Int32) (H : Heap) (locs : List Loc) (ls : Array Slot), va_P (dC, dI) classes (WS_Numeral_findSizeOf16 h_this h_this_tape h_this_tape_row h_p1 c_this_tape_row v_next v_negative v_sixteen v_hasPoint v_hasPower v_from v_to v_before v_digits v_power v_found v_tape_length a_tape_row v_p1_factor v_p1_power v_p1_infinite) H → va_D A (WS_Numeral_findSizeOf16 h_this h_this_tape h_this_tape_row h_p1 c_this_tape_row v_next v_negative v_sixteen v_hasPoint v_hasPower v_from v_to v_before v_digits v_power v_found v_tape_length a_tape_row v_p1_factor v_p1_power v_p1_infinite) → va_S A s.heap H locs → lv_has ls 9 [(0, .ref h_this), (1, .ref h_p1), (2, .long y2), (4, .int y4), (5, .int y5), (6, .int y6), (7, .int y7)] → k17 v_from v_to v_before v_digits v_power v_tape_length a_tape_row v_p1_factor v_p1_power v_p1_infinite y2 y4 y5 y6 y7 = some res → W p l e ({ frames := 5, cells := 0, slots := 0, locals := 120 }) s m args below meth c H locs 0 0 (MQ below (va_Qv (fun (u : Int64 × Int32 × Int32) => some u = some res) (gB (dC, dI) [(c_this_tape_row, .byte)] A (fun (u : Int64 × Int32 × Int32) => (WS_Numeral_findSizeOf16 h_this h_this_tape h_this_tape_row h_p1 c_this_tape_row v_next v_negative v_sixteen v_hasPoint v_hasPower v_from v_to v_before v_digits v_power v_found v_tape_length a_tape_row u.1 u.2.1 u.2.2))) A) args s 0 0 A) (F0 m 17 ls [])) : ∀ (v_from : Int32) (v_to : Int32) (v_before : Int32) (v_digits : Int32) (v_power : Int32) (v_tape_length : Int32) (a_tape_row : (Nat → Int32)) (v_p1_factor : Int64) (v_p1_power : Int32) (v_p1_infinite : Int32) (y2 : Int64) (y5 : Int32) (y6 : Int32) (y7 : Int32) (z0 : Int32) (z1 : Int32) (H : Heap) (locs : List Loc) (ls : Array Slot), va_P (dC, dI) classes (WS_Numeral_findSizeOf16 h_this h_this_tape h_this_tape_row h_p1 c_this_tape_row v_next v_negative v_sixteen v_hasPoint v_hasPower v_from v_to v_before v_digits v_power v_found v_tape_length a_tape_row v_p1_factor v_p1_power v_p1_infinite) H → va_D A (WS_Numeral_findSizeOf16 h_this h_this_tape h_this_tape_row h_p1 c_this_tape_row v_next v_negative v_sixteen v_hasPoint v_hasPower v_from v_to v_before v_digits v_power v_found v_tape_length a_tape_row v_p1_factor v_p1_power v_p1_infinite) → va_S A s.heap H locs → lv_has ls 9 [(0, .ref h_this), (1, .ref h_p1), (2, .long y2), (5, .int y5), (6, .int y6), (7, .int y7)] → f_Numeral_findSizeOf16_77 k17 v_from v_to v_before v_digits v_power v_tape_length a_tape_row v_p1_factor v_p1_power v_p1_infinite y2 y5 y6 y7 z0 z1 = some res → W p l e ({ frames := 5, cells := 0, slots := 0, locals := 120 }) s m args below meth c H locs 0 0 (MQ below (va_Qv (fun (u : Int64 × Int32 × Int32) => some u = some res) (gB (dC, dI) [(c_this_tape_row, .byte)] A (fun (u : Int64 × Int32 × Int32) => (WS_Numeral_findSizeOf16 h_this h_this_tape h_this_tape_row h_p1 c_this_tape_row v_next v_negative v_sixteen v_hasPoint v_hasPower v_from v_to v_before v_digits v_power v_found v_tape_length a_tape_row u.1 u.2.1 u.2.2))) A) args s 0 0 A) (F0 m 77 ls [.int z1, .int z0]) := by
  intro v_from v_to v_before v_digits v_power v_tape_length a_tape_row v_p1_factor v_p1_power v_p1_infinite y2 y5 y6 y7 z0 z1 H locs ls hP hD hS hl h
  obtain ⟨hx, hb, hr, hml, hown, ht, hlk⟩ := id cx
  refine lv_iadd hx hb d_Numeral_findSizeOf16_77 ?_
  refine lv_topi (fun x5 e_x5 => ?_)
  have h := bd_g e_x5 h
  refine lv_istore (lv' := [(4, .int x5), (0, .ref h_this), (1, .ref h_p1), (2, .long y2), (5, .int y5), (6, .int y6), (7, .int y7)]) hx hb d_Numeral_findSizeOf16_78 hl (by decide) rfl (fun ls hl => ?_)
  refine lv_goto (tgt := 103) hx hb d_Numeral_findSizeOf16_80 (by decide) ?_
  exact s_Numeral_findSizeOf16_103 cx hK hA hX hk17 v_from v_to v_before v_digits v_power v_tape_length a_tape_row v_p1_factor v_p1_power v_p1_infinite y2 x5 y5 y6 y7 H locs ls hP hD hS (lv_sub hl [1, 2, 3, 0, 4, 5, 6] rfl) h
set_option maxHeartbeats 4000000 in
set_option maxRecDepth 100000 in
theorem s_Numeral_findSizeOf16_17b {p : Program} {l : Launch} {e : Env} {s : State} {m : MethodId} {args : Array Value} {below : List Frame} {meth : Method} {c : Code} {dC : Nat → ClassId} {dI : Nat → Nat → Nat} {A : Nat → Prop} {X : SXT} {h_this : Nat} {h_this_tape : Nat} {h_this_tape_row : Nat} {h_p1 : Nat} {c_this_tape_row : ClassId} {v_next : Int32} {v_negative : Int32} {v_sixteen : Int32} {v_hasPoint : Int32} {v_hasPower : Int32} {v_found : Int64} {res : Int64 × Int32 × Int32} {k17 : Int32 → Int32 → Int32 → Int32 → Int32 → Int32 → (Nat → Int32) → Int64 → Int32 → Int32 → Int64 → Int32 → Int32 → Int32 → Int32 → Option (Int64 × Int32 × Int32)} (cx : cxx p s m args meth c b_Numeral_findSizeOf16 9 none R_Numeral) (hK : va_K (dC, dI) classes [(c_this_tape_row, .byte)] s) (hA : ∀ q, s.heap.size ≤ q → A q) (hX : SX X A s s.heap) (hk17 : ∀ (v_from : Int32) (v_to : Int32) (v_before : Int32) (v_digits : Int32) (v_power : Int32) (v_tape_length : Int32) (a_tape_row : (Nat → Int32)) (v_p1_factor : Int64) (v_p1_power : Int32) (v_p1_infinite : Int32) (y2 : Int64) (y4 : Int32) (y5 : Int32) (y6 : Int32) (y7 : Int32) (H : Heap) (locs : List Loc) (ls : Array Slot), va_P (dC, dI) classes (WS_Numeral_findSizeOf16 h_this h_this_tape h_this_tape_row h_p1 c_this_tape_row v_next v_negative v_sixteen v_hasPoint v_hasPower v_from v_to v_before v_digits v_power v_found v_tape_length a_tape_row v_p1_factor v_p1_power v_p1_infinite) H → va_D A (WS_Numeral_findSizeOf16 h_this h_this_tape h_this_tape_row h_p1 c_this_tape_row v_next v_negative v_sixteen v_hasPoint v_hasPower v_from v_to v_before v_digits v_power v_found v_tape_length a_tape_row v_p1_factor v_p1_power v_p1_infinite) → va_S A s.heap H locs → lv_has ls 9 [(0, .ref h_this), (1, .ref h_p1), (2, .long y2), (4, .int y4), (5, .int y5), (6, .int y6), (7, .int y7)] → k17 v_from v_to v_before v_digits v_power v_tape_length a_tape_row v_p1_factor v_p1_power v_p1_infinite y2 y4 y5 y6 y7 = some res → W p l e ({ frames := 5, cells := 0, slots := 0, locals := 120 }) s m args below meth c H locs 0 0 (MQ below (va_Qv (fun (u : Int64 × Int32 × Int32) => some u = some res) (gB (dC, dI) [(c_this_tape_row, .byte)] A (fun (u : Int64 × Int32 × Int32) => (WS_Numeral_findSizeOf16 h_this h_this_tape h_this_tape_row h_p1 c_this_tape_row v_next v_negative v_sixteen v_hasPoint v_hasPower v_from v_to v_before v_digits v_power v_found v_tape_length a_tape_row u.1 u.2.1 u.2.2))) A) args s 0 0 A) (F0 m 17 ls [])) : ∀ (v_from : Int32) (v_to : Int32) (v_before : Int32) (v_digits : Int32) (v_power : Int32) (v_tape_length : Int32) (a_tape_row : (Nat → Int32)) (v_p1_factor : Int64) (v_p1_power : Int32) (v_p1_infinite : Int32) (y2 : Int64) (y4 : Int32) (y5 : Int32) (y6 : Int32) (y7 : Int32) (H : Heap) (locs : List Loc) (ls : Array Slot), va_P (dC, dI) classes (WS_Numeral_findSizeOf16 h_this h_this_tape h_this_tape_row h_p1 c_this_tape_row v_next v_negative v_sixteen v_hasPoint v_hasPower v_from v_to v_before v_digits v_power v_found v_tape_length a_tape_row v_p1_factor v_p1_power v_p1_infinite) H → va_D A (WS_Numeral_findSizeOf16 h_this h_this_tape h_this_tape_row h_p1 c_this_tape_row v_next v_negative v_sixteen v_hasPoint v_hasPower v_from v_to v_before v_digits v_power v_found v_tape_length a_tape_row v_p1_factor v_p1_power v_p1_infinite) → va_S A s.heap H locs → lv_has ls 9 [(0, .ref h_this), (1, .ref h_p1), (2, .long y2), (4, .int y4), (5, .int y5), (6, .int y6), (7, .int y7)] → f_Numeral_findSizeOf16_17b k17 v_from v_to v_before v_digits v_power v_tape_length a_tape_row v_p1_factor v_p1_power v_p1_infinite y2 y4 y5 y6 y7 = some res → W p l e ({ frames := 5, cells := 0, slots := 0, locals := 120 }) s m args below meth c H locs 0 0 (MQ below (va_Qv (fun (u : Int64 × Int32 × Int32) => some u = some res) (gB (dC, dI) [(c_this_tape_row, .byte)] A (fun (u : Int64 × Int32 × Int32) => (WS_Numeral_findSizeOf16 h_this h_this_tape h_this_tape_row h_p1 c_this_tape_row v_next v_negative v_sixteen v_hasPoint v_hasPower v_from v_to v_before v_digits v_power v_found v_tape_length a_tape_row u.1 u.2.1 u.2.2))) A) args s 0 0 A) (F0 m 17 ls []) := by
  intro v_from v_to v_before v_digits v_power v_tape_length a_tape_row v_p1_factor v_p1_power v_p1_infinite y2 y4 y5 y6 y7 H locs ls hP hD hS hl h
  obtain ⟨hx, hb, hr, hml, hown, ht, hlk⟩ := id cx
  refine lv_iload hx hb d_Numeral_findSizeOf16_17 (lv_at hl 6 rfl) ?_
  refine lv_aload_n hx hb d_Numeral_findSizeOf16_19 rfl (lv_at hl 0 rfl) ?_
  refine va_get (D := (dC, dI)) (ci := 2) (v := .int v_to) (C := R_Numeral) (T := F_Numeral) (N := 12) hx hb ht i_Numeral hown hK hP 0 rfl rfl 7 (by decide) (ht _ q_28) (fun _ h9 => h9) rfl d_Numeral_findSizeOf16_20 ?_
  refine lv_icmp_ge (tgt := 109) hx hb d_Numeral_findSizeOf16_23 (by decide) (fun c6 => ?_) (fun c6 => ?_)
  · have h := if_t c6 h
    exact s_Numeral_findSizeOf16_109 cx hK hA hX v_from v_to v_before v_digits v_power v_tape_length a_tape_row v_p1_factor v_p1_power v_p1_infinite y2 y5 y6 H locs ls hP hD hS (lv_sub hl [0, 1, 2, 4, 5] rfl) h
  · have h := if_f c6 h
    refine lv_aload_n hx hb d_Numeral_findSizeOf16_26 rfl (lv_at hl 0 rfl) ?_
    refine va_get (D := (dC, dI)) (ci := 2) (v := .ref h_this_tape) (C := R_Numeral) (T := F_Numeral) (N := 12) hx hb ht i_Numeral hown hK hP 0 rfl rfl 0 (by decide) (ht _ q_17) (fun _ h9 => h9) rfl d_Numeral_findSizeOf16_27 ?_
    refine lv_iload hx hb d_Numeral_findSizeOf16_30 (lv_at hl 6 rfl) ?_
    obtain ⟨r7, hf, h⟩ := bi1_x h
    refine clVi (D := (dC, dI)) (n := 1) (As := [.int y7]) ⟨hx, hb, hml, hown, ht⟩ (c_Tape_at l dC dI X h_this_tape h_this_tape_row c_this_tape_row H.size v_tape_length a_tape_row y7 r7 hf) (gV q_18 q_19 q_20 q_6 q_21) (by decide +kernel) ⟨rfl, rfl, Nat.le_of_ble_eq_true rfl, Nat.le_of_ble_eq_true rfl⟩ hK hP hD hS hA hX [1, 2] [0, 3] [0] rfl (wr := [(h_this, .inr (2, [.ref h_this_tape, .int v_next, .int v_negative, .int v_sixteen, .int v_hasPoint, .int v_hasPower, .int v_from, .int v_to, .int v_before, .int v_digits, .int v_power, .long v_found])), (h_p1, .inr (4, [.long v_p1_factor, .int v_p1_power, .int v_p1_infinite]))]) rfl (by decide) (by decide) (by decide) rfl (va_recv hK hP (ci := 1) (q0 := 1) rfl rfl) rfl hl.1 rfl (lv_room (Nat.le_of_ble_eq_true rfl)) d_Numeral_findSizeOf16_32 ⟨Nat.zero_le _, Nat.zero_le _⟩ (fun r9 u9 H locs h9 hP hD hS => ?_)
    cases h9
    have hP : va_P (dC, dI) classes (WS_Numeral_findSizeOf16 h_this h_this_tape h_this_tape_row h_p1 c_this_tape_row v_next v_negative v_sixteen v_hasPoint v_hasPower v_from v_to v_before v_digits v_power v_found v_tape_length a_tape_row v_p1_factor v_p1_power v_p1_infinite) H := hP.sub [0, 2, 3, 1] rfl
    have hD : va_D A (WS_Numeral_findSizeOf16 h_this h_this_tape h_this_tape_row h_p1 c_this_tape_row v_next v_negative v_sixteen v_hasPoint v_hasPower v_from v_to v_before v_digits v_power v_found v_tape_length a_tape_row v_p1_factor v_p1_power v_p1_infinite) := hD.sub [0, 2, 3, 1] (by decide) rfl
    refine lv_iconst (v := 1) hx hb d_Numeral_findSizeOf16_35 (by decide) ?_
    obtain ⟨r8, hf, h⟩ := bi1_x h
    refine clSi (D := (dC, dI)) (n := 2) (As := [.int r7, .int (1 : Int32)]) ⟨hx, hb, hml, hown, ht⟩ (c_Numeral_digitOf l dC dI X  H.size r7 (1 : Int32) r8 hf) (gS q_30 q_31 q_24 q_32) (by decide +kernel) ⟨rfl, rfl, Nat.le_of_ble_eq_true rfl, Nat.le_of_ble_eq_true rfl⟩ hK hP hD hS hA hX [] [0, 1, 2, 3] [] rfl (wr := [(h_this, .inr (2, [.ref h_this_tape, .int v_next, .int v_negative, .int v_sixteen, .int v_hasPoint, .int v_hasPower, .int v_from, .int v_to, .int v_before, .int v_digits, .int v_power, .long v_found])), (h_this_tape, .inr (1, [.ref h_this_tape_row, .int v_tape_length])), (h_this_tape_row, .inl (c_this_tape_row, 1200, .inl a_tape_row)), (h_p1, .inr (4, [.long v_p1_factor, .int v_p1_power, .int v_p1_infinite]))]) rfl (by decide) (by decide) (by decide) rfl rfl hl.1 rfl (lv_room (Nat.le_of_ble_eq_true rfl)) d_Numeral_findSizeOf16_36 ⟨Nat.zero_le _, Nat.zero_le _⟩ (fun r9 u9 H locs h9 hP hD hS => ?_)
    cases h9
    have hP : va_P (dC, dI) classes (WS_Numeral_findSizeOf16 h_this h_this_tape h_this_tape_row h_p1 c_this_tape_row v_next v_negative v_sixteen v_hasPoint v_hasPower v_from v_to v_before v_digits v_power v_found v_tape_length a_tape_row v_p1_factor v_p1_power v_p1_infinite) H := hP.sub [0, 1, 2, 3] rfl
    have hD : va_D A (WS_Numeral_findSizeOf16 h_this h_this_tape h_this_tape_row h_p1 c_this_tape_row v_next v_negative v_sixteen v_hasPoint v_hasPower v_from v_to v_before v_digits v_power v_found v_tape_length a_tape_row v_p1_factor v_p1_power v_p1_infinite) := hD.sub [0, 1, 2, 3] (by decide) rfl
    refine lv_istore (lv' := [(8, .int r8), (0, .ref h_this), (1, .ref h_p1), (2, .long y2), (4, .int y4), (5, .int y5), (6, .int y6), (7, .int y7)]) hx hb d_Numeral_findSizeOf16_39 hl (by decide) rfl (fun ls hl => ?_)
    refine lv_iload hx hb d_Numeral_findSizeOf16_41 (lv_at hl 0 rfl) ?_
    refine lv_if_ge (tgt := 49) hx hb d_Numeral_findSizeOf16_43 (by decide) (fun c9 => ?_) (fun c9 => ?_)
    · have h := if_t c9 h
      refine lv_iload hx hb d_Numeral_findSizeOf16_49 (lv_at hl 4 rfl) ?_
      refine lv_bipush (v := 15) hx hb d_Numeral_findSizeOf16_51 (by decide) ?_
      refine lv_icmp_ge (tgt := 83) hx hb d_Numeral_findSizeOf16_53 (by decide) (fun c10 => ?_) (fun c10 => ?_)
      · have h := if_t c10 h
        obtain ⟨x11, e_x11⟩ : ∃ y : Int32, y = y5 + (1 : Int32) := ⟨_, rfl⟩
        refine lv_iinc (v := x11) (lv' := [(5, .int x11), (8, .int r8), (0, .ref h_this), (1, .ref h_p1), (2, .long y2), (4, .int y4), (6, .int y6), (7, .int y7)]) hx hb d_Numeral_findSizeOf16_83 hl (k := 5) rfl (by rw [e_x11]; rfl) (by decide) rfl (fun ls hl => ?_)
        have h := bd_g e_x11 h
        refine lv_iload hx hb d_Numeral_findSizeOf16_86 (lv_at hl 6 rfl) ?_
        refine lv_if_ne (tgt := 96) hx hb d_Numeral_findSizeOf16_88 (by decide) (fun c12 => ?_) (fun c12 => ?_)
        · have h := if_f c12 h
          exact s_Numeral_findSizeOf16_96 cx hK hA hX hk17 v_from v_to v_before v_digits v_power v_tape_length a_tape_row v_p1_factor v_p1_power v_p1_infinite y2 y4 x11 y7 H locs ls hP hD hS (lv_sub hl [2, 3, 4, 5, 0, 7] rfl) h
        · have h := if_t c12 h
          refine lv_iload hx hb d_Numeral_findSizeOf16_91 (lv_at hl 1 rfl) ?_
          refine lv_if_le (tgt := 100) hx hb d_Numeral_findSizeOf16_93 (by decide) (fun c13 => ?_) (fun c13 => ?_)
          · have h := if_t c13 h
            refine lv_iconst (v := 0) hx hb d_Numeral_findSizeOf16_100 (by decide) ?_
            exact s_Numeral_findSizeOf16_101 cx hK hA hX hk17 v_from v_to v_before v_digits v_power v_tape_length a_tape_row v_p1_factor v_p1_power v_p1_infinite y2 y4 x11 y7 (0 : Int32) H locs ls hP hD hS (lv_sub hl [2, 3, 4, 5, 0, 7] rfl) h
          · have h := if_f c13 h
            exact s_Numeral_findSizeOf16_96 cx hK hA hX hk17 v_from v_to v_before v_digits v_power v_tape_length a_tape_row v_p1_factor v_p1_power v_p1_infinite y2 y4 x11 y7 H locs ls hP hD hS (lv_sub hl [2, 3, 4, 5, 0, 7] rfl) h
      · have h := if_f c10 h
        refine lv_lload_n hx hb d_Numeral_findSizeOf16_56 rfl (lv_at hl 3 rfl) ?_
        refine lv_iconst (v := 4) hx hb d_Numeral_findSizeOf16_57 (by decide) ?_
        refine lv_lshl (v := lsl y2 (4 : Int32)) hx hb d_Numeral_findSizeOf16_58 rfl ?_
        refine lv_iload hx hb d_Numeral_findSizeOf16_59 (lv_at hl 0 rfl) ?_
        refine lv_i2l (v := r8.toInt64) hx hb d_Numeral_findSizeOf16_61 rfl ?_
        refine lv_ladd hx hb d_Numeral_findSizeOf16_62 ?_
        refine lv_topl (fun x14 e_x14 => ?_)
        have h := bd_g e_x14 h
        refine lv_lstore_n (lv' := [(2, .long x14), (8, .int r8), (0, .ref h_this), (1, .ref h_p1), (4, .int y4), (5, .int y5), (6, .int y6), (7, .int y7)]) hx hb d_Numeral_findSizeOf16_63 rfl hl (by decide) rfl (fun ls hl => ?_)
        refine lv_iload hx hb d_Numeral_findSizeOf16_64 (lv_at hl 4 rfl) ?_
        refine lv_lload_n hx hb d_Numeral_findSizeOf16_66 rfl (lv_at hl 0 rfl) ?_
        refine lv_lconst (v := 0) hx hb d_Numeral_findSizeOf16_67 (by decide) ?_
        refine W.lcmp hx hb d_Numeral_findSizeOf16_68 ?_
        refine lv_if_le (tgt := 76) hx hb d_Numeral_findSizeOf16_69 (by decide) (fun c15 => ?_) (fun c15 => ?_)
        · have c15 := (lg_cmp_le _ _).mp c15
          have h := if_t c15 h
          refine lv_iconst (v := 0) hx hb d_Numeral_findSizeOf16_76 (by decide) ?_
          exact s_Numeral_findSizeOf16_77 cx hK hA hX hk17 v_from v_to v_before v_digits v_power v_tape_length a_tape_row v_p1_factor v_p1_power v_p1_infinite x14 y5 y6 y7 y4 (0 : Int32) H locs ls hP hD hS (lv_sub hl [2, 3, 0, 5, 6, 7] rfl) h
        · have c15 := fun h9 => c15 ((lg_cmp_le _ _).mpr h9)
          have h := if_f c15 h
          refine lv_iconst (v := 1) hx hb d_Numeral_findSizeOf16_72 (by decide) ?_
          refine lv_goto (tgt := 77) hx hb d_Numeral_findSizeOf16_73 (by decide) ?_
          exact s_Numeral_findSizeOf16_77 cx hK hA hX hk17 v_from v_to v_before v_digits v_power v_tape_length a_tape_row v_p1_factor v_p1_power v_p1_infinite x14 y5 y6 y7 y4 (1 : Int32) H locs ls hP hD hS (lv_sub hl [2, 3, 0, 5, 6, 7] rfl) h
    · have h := if_f c9 h
      refine lv_goto (tgt := 103) hx hb d_Numeral_findSizeOf16_46 (by decide) ?_
      exact s_Numeral_findSizeOf16_103 cx hK hA hX hk17 v_from v_to v_before v_digits v_power v_tape_length a_tape_row v_p1_factor v_p1_power v_p1_infinite y2 y4 y5 y6 y7 H locs ls hP hD hS (lv_sub hl [1, 2, 3, 4, 5, 6, 7] rfl) h
set_option maxHeartbeats 4000000 in
set_option maxRecDepth 100000 in
theorem s_Numeral_findSizeOf16_17 {p : Program} {l : Launch} {e : Env} {s : State} {m : MethodId} {args : Array Value} {below : List Frame} {meth : Method} {c : Code} {dC : Nat → ClassId} {dI : Nat → Nat → Nat} {A : Nat → Prop} {X : SXT} {h_this : Nat} {h_this_tape : Nat} {h_this_tape_row : Nat} {h_p1 : Nat} {c_this_tape_row : ClassId} {v_next : Int32} {v_negative : Int32} {v_sixteen : Int32} {v_hasPoint : Int32} {v_hasPower : Int32} {v_found : Int64} {res : Int64 × Int32 × Int32}  (cx : cxx p s m args meth c b_Numeral_findSizeOf16 9 none R_Numeral) (hK : va_K (dC, dI) classes [(c_this_tape_row, .byte)] s) (hA : ∀ q, s.heap.size ≤ q → A q) (hX : SX X A s s.heap)  : ∀ n : Nat, ∀ (v_from : Int32) (v_to : Int32) (v_before : Int32) (v_digits : Int32) (v_power : Int32) (v_tape_length : Int32) (a_tape_row : (Nat → Int32)) (v_p1_factor : Int64) (v_p1_power : Int32) (v_p1_infinite : Int32) (y2 : Int64) (y4 : Int32) (y5 : Int32) (y6 : Int32) (y7 : Int32) (H : Heap) (locs : List Loc) (ls : Array Slot), va_P (dC, dI) classes (WS_Numeral_findSizeOf16 h_this h_this_tape h_this_tape_row h_p1 c_this_tape_row v_next v_negative v_sixteen v_hasPoint v_hasPower v_from v_to v_before v_digits v_power v_found v_tape_length a_tape_row v_p1_factor v_p1_power v_p1_infinite) H → va_D A (WS_Numeral_findSizeOf16 h_this h_this_tape h_this_tape_row h_p1 c_this_tape_row v_next v_negative v_sixteen v_hasPoint v_hasPower v_from v_to v_before v_digits v_power v_found v_tape_length a_tape_row v_p1_factor v_p1_power v_p1_infinite) → va_S A s.heap H locs → lv_has ls 9 [(0, .ref h_this), (1, .ref h_p1), (2, .long y2), (4, .int y4), (5, .int y5), (6, .int y6), (7, .int y7)] → f_Numeral_findSizeOf16_17 n v_from v_to v_before v_digits v_power v_tape_length a_tape_row v_p1_factor v_p1_power v_p1_infinite y2 y4 y5 y6 y7 = some res → W p l e ({ frames := 5, cells := 0, slots := 0, locals := 120 }) s m args below meth c H locs 0 0 (MQ below (va_Qv (fun (u : Int64 × Int32 × Int32) => some u = some res) (gB (dC, dI) [(c_this_tape_row, .byte)] A (fun (u : Int64 × Int32 × Int32) => (WS_Numeral_findSizeOf16 h_this h_this_tape h_this_tape_row h_p1 c_this_tape_row v_next v_negative v_sixteen v_hasPoint v_hasPower v_from v_to v_before v_digits v_power v_found v_tape_length a_tape_row u.1 u.2.1 u.2.2))) A) args s 0 0 A) (F0 m 17 ls []) := by
  intro n
  induction n with
  | zero =>
    intro v_from v_to v_before v_digits v_power v_tape_length a_tape_row v_p1_factor v_p1_power v_p1_infinite y2 y4 y5 y6 y7 H locs ls hP hD hS hl h
    have h9 : (none : Option (Int64 × Int32 × Int32)) = some res := h
    cases h9
  | succ n ih =>
    intro v_from v_to v_before v_digits v_power v_tape_length a_tape_row v_p1_factor v_p1_power v_p1_infinite y2 y4 y5 y6 y7 H locs ls hP hD hS hl h
    exact s_Numeral_findSizeOf16_17b cx hK hA hX ih v_from v_to v_before v_digits v_power v_tape_length a_tape_row v_p1_factor v_p1_power v_p1_infinite y2 y4 y5 y6 y7 H locs ls hP hD hS hl h
set_option maxHeartbeats 4000000 in
set_option maxRecDepth 100000 in
theorem s_Numeral_findSizeOf16_e {p : Program} {l : Launch} {e : Env} {s : State} {m : MethodId} {args : Array Value} {below : List Frame} {meth : Method} {c : Code} {dC : Nat → ClassId} {dI : Nat → Nat → Nat} {A : Nat → Prop} {X : SXT} {h_this : Nat} {h_this_tape : Nat} {h_this_tape_row : Nat} {h_p1 : Nat} {c_this_tape_row : ClassId} {v_next : Int32} {v_negative : Int32} {v_sixteen : Int32} {v_hasPoint : Int32} {v_hasPower : Int32} {v_found : Int64} {res : Int64 × Int32 × Int32} (cx : cxx p s m args meth c b_Numeral_findSizeOf16 9 none R_Numeral) (hK : va_K (dC, dI) classes [(c_this_tape_row, .byte)] s) (hA : ∀ q, s.heap.size ≤ q → A q) (hX : SX X A s s.heap) : ∀ (v_from : Int32) (v_to : Int32) (v_before : Int32) (v_digits : Int32) (v_power : Int32) (v_tape_length : Int32) (a_tape_row : (Nat → Int32)) (v_p1_factor : Int64) (v_p1_power : Int32) (v_p1_infinite : Int32) (H : Heap) (locs : List Loc) (ls : Array Slot), va_P (dC, dI) classes (WS_Numeral_findSizeOf16 h_this h_this_tape h_this_tape_row h_p1 c_this_tape_row v_next v_negative v_sixteen v_hasPoint v_hasPower v_from v_to v_before v_digits v_power v_found v_tape_length a_tape_row v_p1_factor v_p1_power v_p1_infinite) H → va_D A (WS_Numeral_findSizeOf16 h_this h_this_tape h_this_tape_row h_p1 c_this_tape_row v_next v_negative v_sixteen v_hasPoint v_hasPower v_from v_to v_before v_digits v_power v_found v_tape_length a_tape_row v_p1_factor v_p1_power v_p1_infinite) → va_S A s.heap H locs → lv_has ls 9 [(0, .ref h_this), (1, .ref h_p1)] → f_Numeral_findSizeOf16 v_from v_to v_before v_digits v_power v_tape_length a_tape_row v_p1_factor v_p1_power v_p1_infinite = some res → W p l e ({ frames := 5, cells := 0, slots := 0, locals := 120 }) s m args below meth c H locs 0 0 (MQ below (va_Qv (fun (u : Int64 × Int32 × Int32) => some u = some res) (gB (dC, dI) [(c_this_tape_row, .byte)] A (fun (u : Int64 × Int32 × Int32) => (WS_Numeral_findSizeOf16 h_this h_this_tape h_this_tape_row h_p1 c_this_tape_row v_next v_negative v_sixteen v_hasPoint v_hasPower v_from v_to v_before v_digits v_power v_found v_tape_length a_tape_row u.1 u.2.1 u.2.2))) A) args s 0 0 A) (F0 m 0 ls []) := by
  intro v_from v_to v_before v_digits v_power v_tape_length a_tape_row v_p1_factor v_p1_power v_p1_infinite H locs ls hP hD hS hl h
  obtain ⟨hx, hb, hr, hml, hown, ht, hlk⟩ := id cx
  refine lv_lconst (v := 0) hx hb d_Numeral_findSizeOf16_0 (by decide) ?_
  refine lv_lstore_n (lv' := [(2, .long (0 : Int64)), (0, .ref h_this), (1, .ref h_p1)]) hx hb d_Numeral_findSizeOf16_1 rfl hl (by decide) rfl (fun ls hl => ?_)
  refine lv_iconst (v := 0) hx hb d_Numeral_findSizeOf16_2 (by decide) ?_
  refine lv_istore (lv' := [(4, .int (0 : Int32)), (2, .long (0 : Int64)), (0, .ref h_this), (1, .ref h_p1)]) hx hb d_Numeral_findSizeOf16_3 hl (by decide) rfl (fun ls hl => ?_)
  refine lv_iconst (v := 0) hx hb d_Numeral_findSizeOf16_5 (by decide) ?_
  refine lv_istore (lv' := [(5, .int (0 : Int32)), (4, .int (0 : Int32)), (2, .long (0 : Int64)), (0, .ref h_this), (1, .ref h_p1)]) hx hb d_Numeral_findSizeOf16_6 hl (by decide) rfl (fun ls hl => ?_)
  refine lv_iconst (v := 0) hx hb d_Numeral_findSizeOf16_8 (by decide) ?_
  refine lv_istore (lv' := [(6, .int (0 : Int32)), (5, .int (0 : Int32)), (4, .int (0 : Int32)), (2, .long (0 : Int64)), (0, .ref h_this), (1, .ref h_p1)]) hx hb d_Numeral_findSizeOf16_9 hl (by decide) rfl (fun ls hl => ?_)
  refine lv_aload_n hx hb d_Numeral_findSizeOf16_11 rfl (lv_at hl 4 rfl) ?_
  refine va_get (D := (dC, dI)) (ci := 2) (v := .int v_from) (C := R_Numeral) (T := F_Numeral) (N := 12) hx hb ht i_Numeral hown hK hP 0 rfl rfl 6 (by decide) (ht _ q_35) (fun _ h9 => h9) rfl d_Numeral_findSizeOf16_12 ?_
  refine lv_istore (lv' := [(7, .int v_from), (6, .int (0 : Int32)), (5, .int (0 : Int32)), (4, .int (0 : Int32)), (2, .long (0 : Int64)), (0, .ref h_this), (1, .ref h_p1)]) hx hb d_Numeral_findSizeOf16_15 hl (by decide) rfl (fun ls hl => ?_)
  exact s_Numeral_findSizeOf16_17 cx hK hA hX fu v_from v_to v_before v_digits v_power v_tape_length a_tape_row v_p1_factor v_p1_power v_p1_infinite (0 : Int64) (0 : Int32) (0 : Int32) (0 : Int32) v_from H locs ls hP hD hS (lv_sub hl [5, 6, 4, 3, 2, 1, 0] rfl) h
set_option maxHeartbeats 4000000 in
set_option maxRecDepth 100000 in
theorem c_Numeral_findSizeOf16 (l : Launch) (dC : Nat → ClassId) (dI : Nat → Nat → Nat) (X : SXT) (h_this : Nat) (h_this_tape : Nat) (h_this_tape_row : Nat) (h_p1 : Nat) (c_this_tape_row : ClassId) (sz : Nat) (v_next : Int32) (v_negative : Int32) (v_sixteen : Int32) (v_hasPoint : Int32) (v_hasPower : Int32) (v_from : Int32) (v_to : Int32) (v_before : Int32) (v_digits : Int32) (v_power : Int32) (v_found : Int64) (v_tape_length : Int32) (a_tape_row : (Nat → Int32)) (v_p1_factor : Int64) (v_p1_power : Int32) (v_p1_infinite : Int32) (res : Int64 × Int32 × Int32) (hf : f_Numeral_findSizeOf16 v_from v_to v_before v_digits v_power v_tape_length a_tape_row v_p1_factor v_p1_power v_p1_infinite = some res) : Met l y_Numeral_findSizeOf16 (.code y_Numeral_findSizeOf16 b_Numeral_findSizeOf16 9 none :: w0) ({ frames := 5, cells := 0, slots := 0, locals := 120 }) (va_Pc [.ref h_this, .ref h_p1] (gP (dC, dI) (WS_Numeral_findSizeOf16 h_this h_this_tape h_this_tape_row h_p1 c_this_tape_row v_next v_negative v_sixteen v_hasPoint v_hasPower v_from v_to v_before v_digits v_power v_found v_tape_length a_tape_row v_p1_factor v_p1_power v_p1_infinite) [(c_this_tape_row, .byte)] sz X)) (va_Qv (fun (u : Int64 × Int32 × Int32) => some u = some res) (gB (dC, dI) [(c_this_tape_row, .byte)] (va_A (WS_Numeral_findSizeOf16 h_this h_this_tape h_this_tape_row h_p1 c_this_tape_row v_next v_negative v_sixteen v_hasPoint v_hasPower v_from v_to v_before v_digits v_power v_found v_tape_length a_tape_row v_p1_factor v_p1_power v_p1_infinite) sz) (fun (u : Int64 × Int32 × Int32) => (WS_Numeral_findSizeOf16 h_this h_this_tape h_this_tape_row h_p1 c_this_tape_row v_next v_negative v_sixteen v_hasPoint v_hasPower v_from v_to v_before v_digits v_power v_found v_tape_length a_tape_row u.1 u.2.1 u.2.2))) (va_A (WS_Numeral_findSizeOf16 h_this h_this_tape h_this_tape_row h_p1 c_this_tape_row v_next v_negative v_sixteen v_hasPoint v_hasPower v_from v_to v_before v_digits v_power v_found v_tape_length a_tape_row v_p1_factor v_p1_power v_p1_infinite) sz)) 0 0 (va_A (WS_Numeral_findSizeOf16 h_this h_this_tape h_this_tape_row h_p1 c_this_tape_row v_next v_negative v_sixteen v_hasPoint v_hasPower v_from v_to v_before v_digits v_power v_found v_tape_length a_tape_row v_p1_factor v_p1_power v_p1_infinite) sz) := by
  refine Met.ofW (cc := b_Numeral_findSizeOf16) (maxL := 9) (ret := none) (by decide) rfl ?_
  intro p e s m args below meth c s₁ B hml hv
  obtain ⟨rfl, hsz, hP, hK, hD0, hX⟩ := hv
  subst hsz
  have cx : cxx p s m ([.ref h_this, .ref h_p1] : List Value).toArray meth c b_Numeral_findSizeOf16 9 none R_Numeral := ⟨B.exec, B.bytes, B.returns, hml, findClass_of_methodNamed B.named, fun w9 hw => atoms_spec (ws := .code y_Numeral_findSizeOf16 b_Numeral_findSizeOf16 9 none :: w0) B.pre w9 (List.mem_cons_of_mem _ hw), B.notSynchronized⟩
  have hD := hD0.self (sz := s.heap.size)
  generalize hAe : va_A (WS_Numeral_findSizeOf16 h_this h_this_tape h_this_tape_row h_p1 c_this_tape_row v_next v_negative v_sixteen v_hasPoint v_hasPower v_from v_to v_before v_digits v_power v_found v_tape_length a_tape_row v_p1_factor v_p1_power v_p1_infinite) s.heap.size = A at hD hX ⊢
  have hA : ∀ q : Nat, s.heap.size ≤ q → A q := fun q h => by rw [← hAe]; exact Or.inr h
  have hS : va_S A s.heap s.heap [] := va_S.rf
  have hl := lv_entry ([.ref h_this, .ref h_p1]) (n := 9) (Nat.le_of_ble_eq_true rfl)
  rw [lg_entry_eq]
  generalize (lg_sl ([.ref h_this, .ref h_p1]) ++ List.replicate (9 - (lg_sl ([.ref h_this, .ref h_p1])).length) Slot.unset).toArray = ls at hl ⊢
  have hl : lv_has ls 9 [(0, .ref h_this), (1, .ref h_p1)] := hl
  exact s_Numeral_findSizeOf16_e cx hK hA hX v_from v_to v_before v_digits v_power v_tape_length a_tape_row v_p1_factor v_p1_power v_p1_infinite s.heap [] ls hP hD hS hl hf
abbrev WS_Decimal_setLimb (h_this : Nat) (h_this_row : Nat) (c_this_row : ClassId) (v_first : Int32) (v_last : Int32) (a_row : (Nat → Int32)) : va_W := [(h_this, .inr (3, [.ref h_this_row, .int v_first, .int v_last])), (h_this_row, .inl (c_this_row, 208, .inl a_row))]
def f_Decimal_setLimb_34 (v_first : Int32) (v_last : Int32) (a_row : (Nat → Int32)) (y1 : Int32) : Option (Int32 × Int32 × (Nat → Int32)) :=
  if y1 ≤ v_last then
    some (v_first, v_last, a_row)
  else
    some (v_first, y1, a_row)
def f_Decimal_setLimb (v_first : Int32) (v_last : Int32) (a_row : (Nat → Int32)) (p1 : Int32) (p2 : Int32) : Option (Int32 × Int32 × (Nat → Int32)) :=
  if p1 < 0 then
    some (v_first, v_last, a_row)
  else
    if p1 < (208 : Int32) then
      ck (gin p1 208) <|
      bd (upd a_row p1.toNatClampNeg p2) fun a5 =>
      if v_first ≤ p1 then
        f_Decimal_setLimb_34 v_first v_last a5 p1
      else
        f_Decimal_setLimb_34 p1 v_last a5 p1
    else
      some (v_first, v_last, a_row)
set_option maxHeartbeats 4000000 in
set_option maxRecDepth 100000 in
theorem s_Decimal_setLimb_34 {p : Program} {l : Launch} {e : Env} {s : State} {m : MethodId} {args : Array Value} {below : List Frame} {meth : Method} {c : Code} {dC : Nat → ClassId} {dI : Nat → Nat → Nat} {A : Nat → Prop} {X : SXT} {h_this : Nat} {h_this_row : Nat} {c_this_row : ClassId} {res : Int32 × Int32 × (Nat → Int32)}  (cx : cxx p s m args meth c b_Decimal_setLimb 3 none R_Decimal) (hK : va_K (dC, dI) classes [(c_this_row, .int)] s) (hA : ∀ q, s.heap.size ≤ q → A q) (hX : SX X A s s.heap)  : ∀ (v_first : Int32) (v_last : Int32) (a_row : (Nat → Int32)) (y1 : Int32) (H : Heap) (locs : List Loc) (ls : Array Slot), va_P (dC, dI) classes (WS_Decimal_setLimb h_this h_this_row c_this_row v_first v_last a_row) H → va_D A (WS_Decimal_setLimb h_this h_this_row c_this_row v_first v_last a_row) → va_S A s.heap H locs → lv_has ls 3 [(0, .ref h_this), (1, .int y1)] → f_Decimal_setLimb_34 v_first v_last a_row y1 = some res → W p l e ({ frames := 0, cells := 0, slots := 0, locals := 0 }) s m args below meth c H locs 0 0 (MQ below (va_Qv (fun (u : Int32 × Int32 × (Nat → Int32)) => some u = some res) (gB (dC, dI) [(c_this_row, .int)] A (fun (u : Int32 × Int32 × (Nat → Int32)) => (WS_Decimal_setLimb h_this h_this_row c_this_row u.1 u.2.1 u.2.2))) A) args s 0 0 A) (F0 m 34 ls []) := by
  intro v_first v_last a_row y1 H locs ls hP hD hS hl h
  obtain ⟨hx, hb, hr, hml, hown, ht, hlk⟩ := id cx
  refine lv_iload_n hx hb d_Decimal_setLimb_34 rfl (lv_at hl 1 rfl) ?_
  refine lv_aload_n hx hb d_Decimal_setLimb_35 rfl (lv_at hl 0 rfl) ?_
  refine va_get (D := (dC, dI)) (ci := 3) (v := .int v_last) (C := R_Decimal) (T := F_Decimal) (N := 3) hx hb ht i_Decimal hown hK hP 0 rfl rfl 2 (by decide) (ht _ q_107) (fun _ h9 => h9) rfl d_Decimal_setLimb_36 ?_
  refine lv_icmp_le (tgt := 47) hx hb d_Decimal_setLimb_39 (by decide) (fun c1 => ?_) (fun c1 => ?_)
  · have h := if_t c1 h
    exact W.vret hx hb hr (fun t ht9 hW => ⟨⟨(v_first, v_last, a_row), rfl, h, by rw [ht9]; exact hP, va_K.moved hW.alike hK, hD⟩, hS.F ht9⟩) hS.2.2 d_Decimal_setLimb_47 hlk
  · have h := if_f c1 h
    refine lv_aload_n hx hb d_Decimal_setLimb_42 rfl (lv_at hl 0 rfl) ?_
    refine lv_iload_n hx hb d_Decimal_setLimb_43 rfl (lv_at hl 1 rfl) ?_
    refine va_put (D := (dC, dI)) (ci := 3) (v := .int y1) (ty := .int) (C := R_Decimal) (T := F_Decimal) (N := 3) hx hb ht i_Decimal t_Decimal t_Decimal_ok n_Decimal hown hK hP hD hS 0 rfl rfl 2 (by decide) (ht _ q_107) (fun _ h9 => h9) rfl (t_Decimal_ok 2 (by decide)) rfl rfl (Nat.le_of_ble_eq_true rfl) d_Decimal_setLimb_44 (fun H locs hP hD hS => ?_)
    have hP : va_P (dC, dI) classes (WS_Decimal_setLimb h_this h_this_row c_this_row v_first y1 a_row) H := hP
    have hD : va_D A (WS_Decimal_setLimb h_this h_this_row c_this_row v_first y1 a_row) := hD
    exact W.vret hx hb hr (fun t ht9 hW => ⟨⟨(v_first, y1, a_row), rfl, h, by rw [ht9]; exact hP, va_K.moved hW.alike hK, hD⟩, hS.F ht9⟩) hS.2.2 d_Decimal_setLimb_47 hlk
set_option maxHeartbeats 4000000 in
set_option maxRecDepth 100000 in
theorem s_Decimal_setLimb_e {p : Program} {l : Launch} {e : Env} {s : State} {m : MethodId} {args : Array Value} {below : List Frame} {meth : Method} {c : Code} {dC : Nat → ClassId} {dI : Nat → Nat → Nat} {A : Nat → Prop} {X : SXT} {h_this : Nat} {h_this_row : Nat} {c_this_row : ClassId} {res : Int32 × Int32 × (Nat → Int32)} (cx : cxx p s m args meth c b_Decimal_setLimb 3 none R_Decimal) (hK : va_K (dC, dI) classes [(c_this_row, .int)] s) (hA : ∀ q, s.heap.size ≤ q → A q) (hX : SX X A s s.heap) : ∀ (v_first : Int32) (v_last : Int32) (a_row : (Nat → Int32)) (p1 : Int32) (p2 : Int32) (H : Heap) (locs : List Loc) (ls : Array Slot), va_P (dC, dI) classes (WS_Decimal_setLimb h_this h_this_row c_this_row v_first v_last a_row) H → va_D A (WS_Decimal_setLimb h_this h_this_row c_this_row v_first v_last a_row) → va_S A s.heap H locs → lv_has ls 3 [(0, .ref h_this), (1, .int p1), (2, .int p2)] → f_Decimal_setLimb v_first v_last a_row p1 p2 = some res → W p l e ({ frames := 0, cells := 0, slots := 0, locals := 0 }) s m args below meth c H locs 0 0 (MQ below (va_Qv (fun (u : Int32 × Int32 × (Nat → Int32)) => some u = some res) (gB (dC, dI) [(c_this_row, .int)] A (fun (u : Int32 × Int32 × (Nat → Int32)) => (WS_Decimal_setLimb h_this h_this_row c_this_row u.1 u.2.1 u.2.2))) A) args s 0 0 A) (F0 m 0 ls []) := by
  intro v_first v_last a_row p1 p2 H locs ls hP hD hS hl h
  obtain ⟨hx, hb, hr, hml, hown, ht, hlk⟩ := id cx
  refine lv_iload_n hx hb d_Decimal_setLimb_0 rfl (lv_at hl 1 rfl) ?_
  refine lv_if_lt (tgt := 13) hx hb d_Decimal_setLimb_1 (by decide) (fun c2 => ?_) (fun c2 => ?_)
  · have h := if_t c2 h
    exact W.vret hx hb hr (fun t ht9 hW => ⟨⟨(v_first, v_last, a_row), rfl, h, by rw [ht9]; exact hP, va_K.moved hW.alike hK, hD⟩, hS.F ht9⟩) hS.2.2 d_Decimal_setLimb_13 hlk
  · have h := if_f c2 h
    refine lv_iload_n hx hb d_Decimal_setLimb_4 rfl (lv_at hl 1 rfl) ?_
    refine lv_aload_n hx hb d_Decimal_setLimb_5 rfl (lv_at hl 0 rfl) ?_
    refine va_get (D := (dC, dI)) (ci := 3) (v := .ref h_this_row) (C := R_Decimal) (T := F_Decimal) (N := 3) hx hb ht i_Decimal hown hK hP 0 rfl rfl 0 (by decide) (ht _ q_108) (fun _ h9 => h9) rfl d_Decimal_setLimb_6 ?_
    refine va_alen (D := (dC, dI)) (v := 208) hx hb hK hP 1 0 rfl rfl rfl d_Decimal_setLimb_9 ?_
    refine lv_icmp_lt (tgt := 14) hx hb d_Decimal_setLimb_10 (by decide) (fun c3 => ?_) (fun c3 => ?_)
    · have h := if_t c3 h
      refine lv_aload_n hx hb d_Decimal_setLimb_14 rfl (lv_at hl 0 rfl) ?_
      refine va_get (D := (dC, dI)) (ci := 3) (v := .ref h_this_row) (C := R_Decimal) (T := F_Decimal) (N := 3) hx hb ht i_Decimal hown hK hP 0 rfl rfl 0 (by decide) (ht _ q_108) (fun _ h9 => h9) rfl d_Decimal_setLimb_15 ?_
      refine lv_iload_n hx hb d_Decimal_setLimb_18 rfl (lv_at hl 1 rfl) ?_
      refine lv_iload_n hx hb d_Decimal_setLimb_19 rfl (lv_at hl 2 rfl) ?_
      obtain ⟨c4, h⟩ := ck_x h
      refine va_iast (D := (dC, dI)) hx hb hK hP hD hS 1 0 rfl rfl c4 d_Decimal_setLimb_20 (fun H locs hP hD hS => ?_)
      obtain ⟨a5, e_a5⟩ : ∃ y, y = upd a_row p1.toNatClampNeg p2 := ⟨_, rfl⟩
      have hP : va_P (dC, dI) classes (WS_Decimal_setLimb h_this h_this_row c_this_row v_first v_last a5) H := by rw [e_a5]; exact hP
      have hD : va_D A (WS_Decimal_setLimb h_this h_this_row c_this_row v_first v_last a5) := by rw [e_a5]; exact hD
      have h := bd_g e_a5 h
      refine lv_iload_n hx hb d_Decimal_setLimb_21 rfl (lv_at hl 1 rfl) ?_
      refine lv_aload_n hx hb d_Decimal_setLimb_22 rfl (lv_at hl 0 rfl) ?_
      refine va_get (D := (dC, dI)) (ci := 3) (v := .int v_first) (C := R_Decimal) (T := F_Decimal) (N := 3) hx hb ht i_Decimal hown hK hP 0 rfl rfl 1 (by decide) (ht _ q_109) (fun _ h9 => h9) rfl d_Decimal_setLimb_23 ?_
      refine lv_icmp_ge (tgt := 34) hx hb d_Decimal_setLimb_26 (by decide) (fun c6 => ?_) (fun c6 => ?_)
      · have h := if_t c6 h
        exact s_Decimal_setLimb_34 cx hK hA hX v_first v_last a5 p1 H locs ls hP hD hS (lv_sub hl [0, 1] rfl) h
      · have h := if_f c6 h
        refine lv_aload_n hx hb d_Decimal_setLimb_29 rfl (lv_at hl 0 rfl) ?_
        refine lv_iload_n hx hb d_Decimal_setLimb_30 rfl (lv_at hl 1 rfl) ?_
        refine va_put (D := (dC, dI)) (ci := 3) (v := .int p1) (ty := .int) (C := R_Decimal) (T := F_Decimal) (N := 3) hx hb ht i_Decimal t_Decimal t_Decimal_ok n_Decimal hown hK hP hD hS 0 rfl rfl 1 (by decide) (ht _ q_109) (fun _ h9 => h9) rfl (t_Decimal_ok 1 (by decide)) rfl rfl (Nat.le_of_ble_eq_true rfl) d_Decimal_setLimb_31 (fun H locs hP hD hS => ?_)
        have hP : va_P (dC, dI) classes (WS_Decimal_setLimb h_this h_this_row c_this_row p1 v_last a5) H := hP
        have hD : va_D A (WS_Decimal_setLimb h_this h_this_row c_this_row p1 v_last a5) := hD
        exact s_Decimal_setLimb_34 cx hK hA hX p1 v_last a5 p1 H locs ls hP hD hS (lv_sub hl [0, 1] rfl) h
    · have h := if_f c3 h
      exact W.vret hx hb hr (fun t ht9 hW => ⟨⟨(v_first, v_last, a_row), rfl, h, by rw [ht9]; exact hP, va_K.moved hW.alike hK, hD⟩, hS.F ht9⟩) hS.2.2 d_Decimal_setLimb_13 hlk
set_option maxHeartbeats 4000000 in
set_option maxRecDepth 100000 in
theorem c_Decimal_setLimb (l : Launch) (dC : Nat → ClassId) (dI : Nat → Nat → Nat) (X : SXT) (h_this : Nat) (h_this_row : Nat) (c_this_row : ClassId) (sz : Nat) (v_first : Int32) (v_last : Int32) (a_row : (Nat → Int32)) (p1 : Int32) (p2 : Int32) (res : Int32 × Int32 × (Nat → Int32)) (hf : f_Decimal_setLimb v_first v_last a_row p1 p2 = some res) : Met l y_Decimal_setLimb (.code y_Decimal_setLimb b_Decimal_setLimb 3 none :: w0) ({ frames := 0, cells := 0, slots := 0, locals := 0 }) (va_Pc [.ref h_this, .int p1, .int p2] (gP (dC, dI) (WS_Decimal_setLimb h_this h_this_row c_this_row v_first v_last a_row) [(c_this_row, .int)] sz X)) (va_Qv (fun (u : Int32 × Int32 × (Nat → Int32)) => some u = some res) (gB (dC, dI) [(c_this_row, .int)] (va_A (WS_Decimal_setLimb h_this h_this_row c_this_row v_first v_last a_row) sz) (fun (u : Int32 × Int32 × (Nat → Int32)) => (WS_Decimal_setLimb h_this h_this_row c_this_row u.1 u.2.1 u.2.2))) (va_A (WS_Decimal_setLimb h_this h_this_row c_this_row v_first v_last a_row) sz)) 0 0 (va_A (WS_Decimal_setLimb h_this h_this_row c_this_row v_first v_last a_row) sz) := by
  refine Met.ofW (cc := b_Decimal_setLimb) (maxL := 3) (ret := none) (by decide) rfl ?_
  intro p e s m args below meth c s₁ B hml hv
  obtain ⟨rfl, hsz, hP, hK, hD0, hX⟩ := hv
  subst hsz
  have cx : cxx p s m ([.ref h_this, .int p1, .int p2] : List Value).toArray meth c b_Decimal_setLimb 3 none R_Decimal := ⟨B.exec, B.bytes, B.returns, hml, findClass_of_methodNamed B.named, fun w9 hw => atoms_spec (ws := .code y_Decimal_setLimb b_Decimal_setLimb 3 none :: w0) B.pre w9 (List.mem_cons_of_mem _ hw), B.notSynchronized⟩
  have hD := hD0.self (sz := s.heap.size)
  generalize hAe : va_A (WS_Decimal_setLimb h_this h_this_row c_this_row v_first v_last a_row) s.heap.size = A at hD hX ⊢
  have hA : ∀ q : Nat, s.heap.size ≤ q → A q := fun q h => by rw [← hAe]; exact Or.inr h
  have hS : va_S A s.heap s.heap [] := va_S.rf
  have hl := lv_entry ([.ref h_this, .int p1, .int p2]) (n := 3) (Nat.le_of_ble_eq_true rfl)
  rw [lg_entry_eq]
  generalize (lg_sl ([.ref h_this, .int p1, .int p2]) ++ List.replicate (3 - (lg_sl ([.ref h_this, .int p1, .int p2])).length) Slot.unset).toArray = ls at hl ⊢
  have hl : lv_has ls 3 [(0, .ref h_this), (1, .int p1), (2, .int p2)] := hl
  exact s_Decimal_setLimb_e cx hK hA hX v_first v_last a_row p1 p2 s.heap [] ls hP hD hS hl hf
abbrev WS_Decimal_clear (h_this : Nat) (h_this_row : Nat) (c_this_row : ClassId) (v_first : Int32) (v_last : Int32) (a_row : (Nat → Int32)) : va_W := [(h_this, .inr (3, [.ref h_this_row, .int v_first, .int v_last])), (h_this_row, .inl (c_this_row, 208, .inl a_row))]
def f_Decimal_clear_25 (v_first : Int32) (v_last : Int32) (a_row : (Nat → Int32)) : Option (Int32 × Int32 × (Nat → Int32)) :=
  some ((35 : Int32), (35 : Int32), a_row)
def f_Decimal_clear_5b (k5 : Int32 → Int32 → (Nat → Int32) → Int32 → Option (Int32 × Int32 × (Nat → Int32))) (v_first : Int32) (v_last : Int32) (a_row : (Nat → Int32)) (y1 : Int32) : Option (Int32 × Int32 × (Nat → Int32)) :=
  if v_last < y1 then
    f_Decimal_clear_25 v_first v_last a_row
  else
    bi3 (f_Decimal_setLimb v_first v_last a_row y1 (0 : Int32)) fun v2 v3 a4 =>
    bd (y1 + (1 : Int32)) fun x5 =>
    k5 v2 v3 a4 x5
def f_Decimal_clear_5 : Nat → Int32 → Int32 → (Nat → Int32) → Int32 → Option (Int32 × Int32 × (Nat → Int32))
  | 0 => fun _ _ _ _ => none
  | n + 1 => fun v_first v_last a_row y1 => f_Decimal_clear_5b (f_Decimal_clear_5 n) v_first v_last a_row y1
def f_Decimal_clear (v_first : Int32) (v_last : Int32) (a_row : (Nat → Int32)) : Option (Int32 × Int32 × (Nat → Int32)) :=
  f_Decimal_clear_5 fu v_first v_last a_row v_first
set_option maxHeartbeats 4000000 in
set_option maxRecDepth 100000 in
theorem s_Decimal_clear_25 {p : Program} {l : Launch} {e : Env} {s : State} {m : MethodId} {args : Array Value} {below : List Frame} {meth : Method} {c : Code} {dC : Nat → ClassId} {dI : Nat → Nat → Nat} {A : Nat → Prop} {X : SXT} {h_this : Nat} {h_this_row : Nat} {c_this_row : ClassId} {res : Int32 × Int32 × (Nat → Int32)}  (cx : cxx p s m args meth c b_Decimal_clear 2 none R_Decimal) (hK : va_K (dC, dI) classes [(c_this_row, .int)] s) (hA : ∀ q, s.heap.size ≤ q → A q) (hX : SX X A s s.heap)  : ∀ (v_first : Int32) (v_last : Int32) (a_row : (Nat → Int32)) (H : Heap) (locs : List Loc) (ls : Array Slot), va_P (dC, dI) classes (WS_Decimal_clear h_this h_this_row c_this_row v_first v_last a_row) H → va_D A (WS_Decimal_clear h_this h_this_row c_this_row v_first v_last a_row) → va_S A s.heap H locs → lv_has ls 2 [(0, .ref h_this)] → f_Decimal_clear_25 v_first v_last a_row = some res → W p l e ({ frames := 1, cells := 0, slots := 0, locals := 22 }) s m args below meth c H locs 0 0 (MQ below (va_Qv (fun (u : Int32 × Int32 × (Nat → Int32)) => some u = some res) (gB (dC, dI) [(c_this_row, .int)] A (fun (u : Int32 × Int32 × (Nat → Int32)) => (WS_Decimal_clear h_this h_this_row c_this_row u.1 u.2.1 u.2.2))) A) args s 0 0 A) (F0 m 25 ls []) := by
  intro v_first v_last a_row H locs ls hP hD hS hl h
  obtain ⟨hx, hb, hr, hml, hown, ht, hlk⟩ := id cx
  refine lv_aload_n hx hb d_Decimal_clear_25 rfl (lv_at hl 0 rfl) ?_
  refine lv_bipush (v := 35) hx hb d_Decimal_clear_26 (by decide) ?_
  refine va_put (D := (dC, dI)) (ci := 3) (v := .int (35 : Int32)) (ty := .int) (C := R_Decimal) (T := F_Decimal) (N := 3) hx hb ht i_Decimal t_Decimal t_Decimal_ok n_Decimal hown hK hP hD hS 0 rfl rfl 1 (by decide) (ht _ q_109) (fun _ h9 => h9) rfl (t_Decimal_ok 1 (by decide)) rfl rfl (Nat.le_of_ble_eq_true rfl) d_Decimal_clear_28 (fun H locs hP hD hS => ?_)
  have hP : va_P (dC, dI) classes (WS_Decimal_clear h_this h_this_row c_this_row (35 : Int32) v_last a_row) H := hP
  have hD : va_D A (WS_Decimal_clear h_this h_this_row c_this_row (35 : Int32) v_last a_row) := hD
  refine lv_aload_n hx hb d_Decimal_clear_31 rfl (lv_at hl 0 rfl) ?_
  refine lv_bipush (v := 35) hx hb d_Decimal_clear_32 (by decide) ?_
  refine va_put (D := (dC, dI)) (ci := 3) (v := .int (35 : Int32)) (ty := .int) (C := R_Decimal) (T := F_Decimal) (N := 3) hx hb ht i_Decimal t_Decimal t_Decimal_ok n_Decimal hown hK hP hD hS 0 rfl rfl 2 (by decide) (ht _ q_107) (fun _ h9 => h9) rfl (t_Decimal_ok 2 (by decide)) rfl rfl (Nat.le_of_ble_eq_true rfl) d_Decimal_clear_34 (fun H locs hP hD hS => ?_)
  have hP : va_P (dC, dI) classes (WS_Decimal_clear h_this h_this_row c_this_row (35 : Int32) (35 : Int32) a_row) H := hP
  have hD : va_D A (WS_Decimal_clear h_this h_this_row c_this_row (35 : Int32) (35 : Int32) a_row) := hD
  exact W.vret hx hb hr (fun t ht9 hW => ⟨⟨((35 : Int32), (35 : Int32), a_row), rfl, h, by rw [ht9]; exact hP, va_K.moved hW.alike hK, hD⟩, hS.F ht9⟩) hS.2.2 d_Decimal_clear_37 hlk
set_option maxHeartbeats 4000000 in
set_option maxRecDepth 100000 in
theorem s_Decimal_clear_5b {p : Program} {l : Launch} {e : Env} {s : State} {m : MethodId} {args : Array Value} {below : List Frame} {meth : Method} {c : Code} {dC : Nat → ClassId} {dI : Nat → Nat → Nat} {A : Nat → Prop} {X : SXT} {h_this : Nat} {h_this_row : Nat} {c_this_row : ClassId} {res : Int32 × Int32 × (Nat → Int32)} {k5 : Int32 → Int32 → (Nat → Int32) → Int32 → Option (Int32 × Int32 × (Nat → Int32))} (cx : cxx p s m args meth c b_Decimal_clear 2 none R_Decimal) (hK : va_K (dC, dI) classes [(c_this_row, .int)] s) (hA : ∀ q, s.heap.size ≤ q → A q) (hX : SX X A s s.heap) (hk5 : ∀ (v_first : Int32) (v_last : Int32) (a_row : (Nat → Int32)) (y1 : Int32) (H : Heap) (locs : List Loc) (ls : Array Slot), va_P (dC, dI) classes (WS_Decimal_clear h_this h_this_row c_this_row v_first v_last a_row) H → va_D A (WS_Decimal_clear h_this h_this_row c_this_row v_first v_last a_row) → va_S A s.heap H locs → lv_has ls 2 [(0, .ref h_this), (1, .int y1)] → k5 v_first v_last a_row y1 = some res → W p l e ({ frames := 1, cells := 0, slots := 0, locals := 22 }) s m args below meth c H locs 0 0 (MQ below (va_Qv (fun (u : Int32 × Int32 × (Nat → Int32)) => some u = some res) (gB (dC, dI) [(c_this_row, .int)] A (fun (u : Int32 × Int32 × (Nat → Int32)) => (WS_Decimal_clear h_this h_this_row c_this_row u.1 u.2.1 u.2.2))) A) args s 0 0 A) (F0 m 5 ls [])) : ∀ (v_first : Int32) (v_last : Int32) (a_row : (Nat → Int32)) (y1 : Int32) (H : Heap) (locs : List Loc) (ls : Array Slot), va_P (dC, dI) classes (WS_Decimal_clear h_this h_this_row c_this_row v_first v_last a_row) H → va_D A (WS_Decimal_clear h_this h_this_row c_this_row v_first v_last a_row) → va_S A s.heap H locs → lv_has ls 2 [(0, .ref h_this), (1, .int y1)] → f_Decimal_clear_5b k5 v_first v_last a_row y1 = some res → W p l e ({ frames := 1, cells := 0, slots := 0, locals := 22 }) s m args below meth c H locs 0 0 (MQ below (va_Qv (fun (u : Int32 × Int32 × (Nat → Int32)) => some u = some res) (gB (dC, dI) [(c_this_row, .int)] A (fun (u : Int32 × Int32 × (Nat → Int32)) => (WS_Decimal_clear h_this h_this_row c_this_row u.1 u.2.1 u.2.2))) A) args s 0 0 A) (F0 m 5 ls []) := by
  intro v_first v_last a_row y1 H locs ls hP hD hS hl h
  obtain ⟨hx, hb, hr, hml, hown, ht, hlk⟩ := id cx
  refine lv_iload_n hx hb d_Decimal_clear_5 rfl (lv_at hl 1 rfl) ?_
  refine lv_aload_n hx hb d_Decimal_clear_6 rfl (lv_at hl 0 rfl) ?_
  refine va_get (D := (dC, dI)) (ci := 3) (v := .int v_last) (C := R_Decimal) (T := F_Decimal) (N := 3) hx hb ht i_Decimal hown hK hP 0 rfl rfl 2 (by decide) (ht _ q_107) (fun _ h9 => h9) rfl d_Decimal_clear_7 ?_
  refine lv_icmp_gt (tgt := 25) hx hb d_Decimal_clear_10 (by decide) (fun c1 => ?_) (fun c1 => ?_)
  · have h := if_t c1 h
    exact s_Decimal_clear_25 cx hK hA hX v_first v_last a_row H locs ls hP hD hS (lv_sub hl [0] rfl) h
  · have h := if_f c1 h
    refine lv_aload_n hx hb d_Decimal_clear_13 rfl (lv_at hl 0 rfl) ?_
    refine lv_iload_n hx hb d_Decimal_clear_14 rfl (lv_at hl 1 rfl) ?_
    refine lv_iconst (v := 0) hx hb d_Decimal_clear_15 (by decide) ?_
    obtain ⟨v2, v3, a4, hf, h⟩ := bi3_x h
    refine clVv (D := (dC, dI)) (n := 2) (As := [.int y1, .int (0 : Int32)]) ⟨hx, hb, hml, hown, ht⟩ (c_Decimal_setLimb l dC dI X h_this h_this_row c_this_row H.size v_first v_last a_row y1 (0 : Int32) (v2, v3, a4) hf) (gV q_110 q_111 q_112 q_113 q_114) (by decide +kernel) ⟨rfl, rfl, Nat.le_of_ble_eq_true rfl, Nat.le_of_ble_eq_true rfl⟩ hK hP hD hS hA hX [0, 1] [] [0] rfl (wr := []) rfl (by decide) (by decide) (by decide) rfl (va_recv hK hP (ci := 3) (q0 := 0) rfl rfl) rfl hl.1 rfl (lv_room (Nat.le_of_ble_eq_true rfl)) d_Decimal_clear_16 ⟨Nat.zero_le _, Nat.zero_le _⟩ (fun u9 H locs h9 hP hD hS => ?_)
    cases h9
    have hP : va_P (dC, dI) classes (WS_Decimal_clear h_this h_this_row c_this_row v2 v3 a4) H := hP.sub [0, 1] rfl
    have hD : va_D A (WS_Decimal_clear h_this h_this_row c_this_row v2 v3 a4) := hD.sub [0, 1] (by decide) rfl
    obtain ⟨x5, e_x5⟩ : ∃ y : Int32, y = y1 + (1 : Int32) := ⟨_, rfl⟩
    refine lv_iinc (v := x5) (lv' := [(1, .int x5), (0, .ref h_this)]) hx hb d_Decimal_clear_19 hl (k := 1) rfl (by rw [e_x5]; rfl) (by decide) rfl (fun ls hl => ?_)
    have h := bd_g e_x5 h
    refine lv_goto (tgt := 5) hx hb d_Decimal_clear_22 (by decide) ?_
    exact hk5 v2 v3 a4 x5 H locs ls hP hD hS (lv_sub hl [1, 0] rfl) h
set_option maxHeartbeats 4000000 in
set_option maxRecDepth 100000 in
theorem s_Decimal_clear_5 {p : Program} {l : Launch} {e : Env} {s : State} {m : MethodId} {args : Array Value} {below : List Frame} {meth : Method} {c : Code} {dC : Nat → ClassId} {dI : Nat → Nat → Nat} {A : Nat → Prop} {X : SXT} {h_this : Nat} {h_this_row : Nat} {c_this_row : ClassId} {res : Int32 × Int32 × (Nat → Int32)}  (cx : cxx p s m args meth c b_Decimal_clear 2 none R_Decimal) (hK : va_K (dC, dI) classes [(c_this_row, .int)] s) (hA : ∀ q, s.heap.size ≤ q → A q) (hX : SX X A s s.heap)  : ∀ n : Nat, ∀ (v_first : Int32) (v_last : Int32) (a_row : (Nat → Int32)) (y1 : Int32) (H : Heap) (locs : List Loc) (ls : Array Slot), va_P (dC, dI) classes (WS_Decimal_clear h_this h_this_row c_this_row v_first v_last a_row) H → va_D A (WS_Decimal_clear h_this h_this_row c_this_row v_first v_last a_row) → va_S A s.heap H locs → lv_has ls 2 [(0, .ref h_this), (1, .int y1)] → f_Decimal_clear_5 n v_first v_last a_row y1 = some res → W p l e ({ frames := 1, cells := 0, slots := 0, locals := 22 }) s m args below meth c H locs 0 0 (MQ below (va_Qv (fun (u : Int32 × Int32 × (Nat → Int32)) => some u = some res) (gB (dC, dI) [(c_this_row, .int)] A (fun (u : Int32 × Int32 × (Nat → Int32)) => (WS_Decimal_clear h_this h_this_row c_this_row u.1 u.2.1 u.2.2))) A) args s 0 0 A) (F0 m 5 ls []) := by
  intro n
  induction n with
  | zero =>
    intro v_first v_last a_row y1 H locs ls hP hD hS hl h
    have h9 : (none : Option (Int32 × Int32 × (Nat → Int32))) = some res := h
    cases h9
  | succ n ih =>
    intro v_first v_last a_row y1 H locs ls hP hD hS hl h
    exact s_Decimal_clear_5b cx hK hA hX ih v_first v_last a_row y1 H locs ls hP hD hS hl h
set_option maxHeartbeats 4000000 in
set_option maxRecDepth 100000 in
theorem s_Decimal_clear_e {p : Program} {l : Launch} {e : Env} {s : State} {m : MethodId} {args : Array Value} {below : List Frame} {meth : Method} {c : Code} {dC : Nat → ClassId} {dI : Nat → Nat → Nat} {A : Nat → Prop} {X : SXT} {h_this : Nat} {h_this_row : Nat} {c_this_row : ClassId} {res : Int32 × Int32 × (Nat → Int32)} (cx : cxx p s m args meth c b_Decimal_clear 2 none R_Decimal) (hK : va_K (dC, dI) classes [(c_this_row, .int)] s) (hA : ∀ q, s.heap.size ≤ q → A q) (hX : SX X A s s.heap) : ∀ (v_first : Int32) (v_last : Int32) (a_row : (Nat → Int32)) (H : Heap) (locs : List Loc) (ls : Array Slot), va_P (dC, dI) classes (WS_Decimal_clear h_this h_this_row c_this_row v_first v_last a_row) H → va_D A (WS_Decimal_clear h_this h_this_row c_this_row v_first v_last a_row) → va_S A s.heap H locs → lv_has ls 2 [(0, .ref h_this)] → f_Decimal_clear v_first v_last a_row = some res → W p l e ({ frames := 1, cells := 0, slots := 0, locals := 22 }) s m args below meth c H locs 0 0 (MQ below (va_Qv (fun (u : Int32 × Int32 × (Nat → Int32)) => some u = some res) (gB (dC, dI) [(c_this_row, .int)] A (fun (u : Int32 × Int32 × (Nat → Int32)) => (WS_Decimal_clear h_this h_this_row c_this_row u.1 u.2.1 u.2.2))) A) args s 0 0 A) (F0 m 0 ls []) := by
  intro v_first v_last a_row H locs ls hP hD hS hl h
  obtain ⟨hx, hb, hr, hml, hown, ht, hlk⟩ := id cx
  refine lv_aload_n hx hb d_Decimal_clear_0 rfl (lv_at hl 0 rfl) ?_
  refine va_get (D := (dC, dI)) (ci := 3) (v := .int v_first) (C := R_Decimal) (T := F_Decimal) (N := 3) hx hb ht i_Decimal hown hK hP 0 rfl rfl 1 (by decide) (ht _ q_109) (fun _ h9 => h9) rfl d_Decimal_clear_1 ?_
  refine lv_istore_n (lv' := [(1, .int v_first), (0, .ref h_this)]) hx hb d_Decimal_clear_4 rfl hl (by decide) rfl (fun ls hl => ?_)
  exact s_Decimal_clear_5 cx hK hA hX fu v_first v_last a_row v_first H locs ls hP hD hS (lv_sub hl [1, 0] rfl) h
set_option maxHeartbeats 4000000 in
set_option maxRecDepth 100000 in
theorem c_Decimal_clear (l : Launch) (dC : Nat → ClassId) (dI : Nat → Nat → Nat) (X : SXT) (h_this : Nat) (h_this_row : Nat) (c_this_row : ClassId) (sz : Nat) (v_first : Int32) (v_last : Int32) (a_row : (Nat → Int32)) (res : Int32 × Int32 × (Nat → Int32)) (hf : f_Decimal_clear v_first v_last a_row = some res) : Met l y_Decimal_clear (.code y_Decimal_clear b_Decimal_clear 2 none :: w0) ({ frames := 1, cells := 0, slots := 0, locals := 22 }) (va_Pc [.ref h_this] (gP (dC, dI) (WS_Decimal_clear h_this h_this_row c_this_row v_first v_last a_row) [(c_this_row, .int)] sz X)) (va_Qv (fun (u : Int32 × Int32 × (Nat → Int32)) => some u = some res) (gB (dC, dI) [(c_this_row, .int)] (va_A (WS_Decimal_clear h_this h_this_row c_this_row v_first v_last a_row) sz) (fun (u : Int32 × Int32 × (Nat → Int32)) => (WS_Decimal_clear h_this h_this_row c_this_row u.1 u.2.1 u.2.2))) (va_A (WS_Decimal_clear h_this h_this_row c_this_row v_first v_last a_row) sz)) 0 0 (va_A (WS_Decimal_clear h_this h_this_row c_this_row v_first v_last a_row) sz) := by
  refine Met.ofW (cc := b_Decimal_clear) (maxL := 2) (ret := none) (by decide) rfl ?_
  intro p e s m args below meth c s₁ B hml hv
  obtain ⟨rfl, hsz, hP, hK, hD0, hX⟩ := hv
  subst hsz
  have cx : cxx p s m ([.ref h_this] : List Value).toArray meth c b_Decimal_clear 2 none R_Decimal := ⟨B.exec, B.bytes, B.returns, hml, findClass_of_methodNamed B.named, fun w9 hw => atoms_spec (ws := .code y_Decimal_clear b_Decimal_clear 2 none :: w0) B.pre w9 (List.mem_cons_of_mem _ hw), B.notSynchronized⟩
  have hD := hD0.self (sz := s.heap.size)
  generalize hAe : va_A (WS_Decimal_clear h_this h_this_row c_this_row v_first v_last a_row) s.heap.size = A at hD hX ⊢
  have hA : ∀ q : Nat, s.heap.size ≤ q → A q := fun q h => by rw [← hAe]; exact Or.inr h
  have hS : va_S A s.heap s.heap [] := va_S.rf
  have hl := lv_entry ([.ref h_this]) (n := 2) (Nat.le_of_ble_eq_true rfl)
  rw [lg_entry_eq]
  generalize (lg_sl ([.ref h_this]) ++ List.replicate (2 - (lg_sl ([.ref h_this])).length) Slot.unset).toArray = ls at hl ⊢
  have hl : lv_has ls 2 [(0, .ref h_this)] := hl
  exact s_Decimal_clear_e cx hK hA hX v_first v_last a_row s.heap [] ls hP hD hS hl hf
def f_Decimal_limbOf (p0 : Int32) : Option (Int32) :=
  some ((243 : Int32) - ((p0 + (1872 : Int32)) / (9 : Int32)))
set_option maxHeartbeats 4000000 in
set_option maxRecDepth 100000 in
theorem s_Decimal_limbOf_e {p : Program} {l : Launch} {e : Env} {s : State} {m : MethodId} {args : Array Value} {below : List Frame} {meth : Method} {c : Code} {dC : Nat → ClassId} {dI : Nat → Nat → Nat} {A : Nat → Prop} {X : SXT} {res : Int32} (cx : cxx p s m args meth c b_Decimal_limbOf 1 (some .int) R_Decimal) (hK : va_K (dC, dI) classes [] s) (hA : ∀ q, s.heap.size ≤ q → A q) (hX : SX X A s s.heap) : ∀ (p0 : Int32) (H : Heap) (locs : List Loc) (ls : Array Slot), va_P (dC, dI) classes [] H → va_D A [] → va_S A s.heap H locs → lv_has ls 1 [(0, .int p0)] → f_Decimal_limbOf p0 = some res → W p l e ({ frames := 0, cells := 0, slots := 0, locals := 0 }) s m args below meth c H locs 0 0 (MQ below (va_Qi (fun (r : Int32) (_ : Unit) => some r = some res) (gB (dC, dI) [] A (fun (u : Unit) => [])) A) args s 0 0 A) (F0 m 0 ls []) := by
  intro p0 H locs ls hP hD hS hl h
  obtain ⟨hx, hb, hr, hml, hown, ht, hlk⟩ := id cx
  refine lv_sipush (v := 243) hx hb d_Decimal_limbOf_0 (by decide) ?_
  refine lv_iload_n hx hb d_Decimal_limbOf_3 rfl (lv_at hl 0 rfl) ?_
  refine lv_sipush (v := 1872) hx hb d_Decimal_limbOf_4 (by decide) ?_
  refine lv_iadd hx hb d_Decimal_limbOf_7 ?_
  refine lv_bipush (v := 9) hx hb d_Decimal_limbOf_8 (by decide) ?_
  refine lv_idiv hx hb d_Decimal_limbOf_10 (by decide) ?_
  refine lv_isub hx hb d_Decimal_limbOf_11 ?_
  exact W.iret (v := ((243 : Int32) - ((p0 + (1872 : Int32)) / (9 : Int32)))) hx hb hr (fun t ht9 hW => ⟨⟨((243 : Int32) - ((p0 + (1872 : Int32)) / (9 : Int32))), (), rfl, h, by rw [ht9]; exact hP, va_K.moved hW.alike hK, hD⟩, hS.F ht9⟩) hS.2.2 d_Decimal_limbOf_12 hlk
set_option maxHeartbeats 4000000 in
set_option maxRecDepth 100000 in
theorem c_Decimal_limbOf (l : Launch) (dC : Nat → ClassId) (dI : Nat → Nat → Nat) (X : SXT) (sz : Nat) (p0 : Int32) (res : Int32) (hf : f_Decimal_limbOf p0 = some res) : Met l y_Decimal_limbOf (.code y_Decimal_limbOf b_Decimal_limbOf 1 (some .int) :: w0) ({ frames := 0, cells := 0, slots := 0, locals := 0 }) (va_Pc [.int p0] (gP (dC, dI) [] [] sz X)) (va_Qi (fun (r : Int32) (_ : Unit) => some r = some res) (gB (dC, dI) [] (va_A [] sz) (fun (u : Unit) => [])) (va_A [] sz)) 0 0 (va_A [] sz) := by
  refine Met.ofW (cc := b_Decimal_limbOf) (maxL := 1) (ret := (some .int)) (by decide) rfl ?_
  intro p e s m args below meth c s₁ B hml hv
  obtain ⟨rfl, hsz, hP, hK, hD0, hX⟩ := hv
  subst hsz
  have cx : cxx p s m ([.int p0] : List Value).toArray meth c b_Decimal_limbOf 1 (some .int) R_Decimal := ⟨B.exec, B.bytes, B.returns, hml, findClass_of_methodNamed B.named, fun w9 hw => atoms_spec (ws := .code y_Decimal_limbOf b_Decimal_limbOf 1 (some .int) :: w0) B.pre w9 (List.mem_cons_of_mem _ hw), B.notSynchronized⟩
  have hD := hD0.self (sz := s.heap.size)
  generalize hAe : va_A [] s.heap.size = A at hD hX ⊢
  have hA : ∀ q : Nat, s.heap.size ≤ q → A q := fun q h => by rw [← hAe]; exact Or.inr h
  have hS : va_S A s.heap s.heap [] := va_S.rf
  have hl := lv_entry ([.int p0]) (n := 1) (Nat.le_of_ble_eq_true rfl)
  rw [lg_entry_eq]
  generalize (lg_sl ([.int p0]) ++ List.replicate (1 - (lg_sl ([.int p0])).length) Slot.unset).toArray = ls at hl ⊢
  have hl : lv_has ls 1 [(0, .int p0)] := hl
  exact s_Decimal_limbOf_e cx hK hA hX p0 s.heap [] ls hP hD hS hl hf
abbrev WS_Decimal_limb (h_this : Nat) (h_this_row : Nat) (c_this_row : ClassId) (v_first : Int32) (v_last : Int32) (a_row : (Nat → Int32)) : va_W := [(h_this, .inr (3, [.ref h_this_row, .int v_first, .int v_last])), (h_this_row, .inl (c_this_row, 208, .inl a_row))]
def f_Decimal_limb_13 (a_row : (Nat → Int32)) : Option (Int32) :=
  some (0 : Int32)
def f_Decimal_limb (a_row : (Nat → Int32)) (p1 : Int32) : Option (Int32) :=
  if p1 < 0 then
    f_Decimal_limb_13 a_row
  else
    if p1 < (208 : Int32) then
      ck (gin p1 208) <|
      some (a_row p1.toNatClampNeg)
    else
      f_Decimal_limb_13 a_row
set_option maxHeartbeats 4000000 in
set_option maxRecDepth 100000 in
theorem s_Decimal_limb_13 {p : Program} {l : Launch} {e : Env} {s : State} {m : MethodId} {args : Array Value} {below : List Frame} {meth : Method} {c : Code} {dC : Nat → ClassId} {dI : Nat → Nat → Nat} {A : Nat → Prop} {X : SXT} {h_this : Nat} {h_this_row : Nat} {c_this_row : ClassId} {v_first : Int32} {v_last : Int32} {res : Int32}  (cx : cxx p s m args meth c b_Decimal_limb 2 (some .int) R_Decimal) (hK : va_K (dC, dI) classes [(c_this_row, .int)] s) (hA : ∀ q, s.heap.size ≤ q → A q) (hX : SX X A s s.heap)  : ∀ (a_row : (Nat → Int32)) (H : Heap) (locs : List Loc) (ls : Array Slot), va_P (dC, dI) classes (WS_Decimal_limb h_this h_this_row c_this_row v_first v_last a_row) H → va_D A (WS_Decimal_limb h_this h_this_row c_this_row v_first v_last a_row) → va_S A s.heap H locs → lv_has ls 2 [(0, .ref h_this)] → f_Decimal_limb_13 a_row = some res → W p l e ({ frames := 0, cells := 0, slots := 0, locals := 0 }) s m args below meth c H locs 0 0 (MQ below (va_Qi (fun (r : Int32) (_ : Unit) => some r = some res) (gB (dC, dI) [(c_this_row, .int)] A (fun (u : Unit) => (WS_Decimal_limb h_this h_this_row c_this_row v_first v_last a_row))) A) args s 0 0 A) (F0 m 13 ls []) := by
  intro a_row H locs ls hP hD hS hl h
  obtain ⟨hx, hb, hr, hml, hown, ht, hlk⟩ := id cx
  refine lv_iconst (v := 0) hx hb d_Decimal_limb_13 (by decide) ?_
  refine lv_goto (tgt := 23) hx hb d_Decimal_limb_14 (by decide) ?_
  exact W.iret (v := (0 : Int32)) hx hb hr (fun t ht9 hW => ⟨⟨(0 : Int32), (), rfl, h, by rw [ht9]; exact hP, va_K.moved hW.alike hK, hD⟩, hS.F ht9⟩) hS.2.2 d_Decimal_limb_23 hlk
set_option maxHeartbeats 4000000 in
set_option maxRecDepth 100000 in
theorem s_Decimal_limb_e {p : Program} {l : Launch} {e : Env} {s : State} {m : MethodId} {args : Array Value} {below : List Frame} {meth : Method} {c : Code} {dC : Nat → ClassId} {dI : Nat → Nat → Nat} {A : Nat → Prop} {X : SXT} {h_this : Nat} {h_this_row : Nat} {c_this_row : ClassId} {v_first : Int32} {v_last : Int32} {res : Int32} (cx : cxx p s m args meth c b_Decimal_limb 2 (some .int) R_Decimal) (hK : va_K (dC, dI) classes [(c_this_row, .int)] s) (hA : ∀ q, s.heap.size ≤ q → A q) (hX : SX X A s s.heap) : ∀ (a_row : (Nat → Int32)) (p1 : Int32) (H : Heap) (locs : List Loc) (ls : Array Slot), va_P (dC, dI) classes (WS_Decimal_limb h_this h_this_row c_this_row v_first v_last a_row) H → va_D A (WS_Decimal_limb h_this h_this_row c_this_row v_first v_last a_row) → va_S A s.heap H locs → lv_has ls 2 [(0, .ref h_this), (1, .int p1)] → f_Decimal_limb a_row p1 = some res → W p l e ({ frames := 0, cells := 0, slots := 0, locals := 0 }) s m args below meth c H locs 0 0 (MQ below (va_Qi (fun (r : Int32) (_ : Unit) => some r = some res) (gB (dC, dI) [(c_this_row, .int)] A (fun (u : Unit) => (WS_Decimal_limb h_this h_this_row c_this_row v_first v_last a_row))) A) args s 0 0 A) (F0 m 0 ls []) := by
  intro a_row p1 H locs ls hP hD hS hl h
  obtain ⟨hx, hb, hr, hml, hown, ht, hlk⟩ := id cx
  refine lv_iload_n hx hb d_Decimal_limb_0 rfl (lv_at hl 1 rfl) ?_
  refine lv_if_lt (tgt := 13) hx hb d_Decimal_limb_1 (by decide) (fun c1 => ?_) (fun c1 => ?_)
  · have h := if_t c1 h
    exact s_Decimal_limb_13 cx hK hA hX a_row H locs ls hP hD hS (lv_sub hl [0] rfl) h
  · have h := if_f c1 h
    refine lv_iload_n hx hb d_Decimal_limb_4 rfl (lv_at hl 1 rfl) ?_
    refine lv_aload_n hx hb d_Decimal_limb_5 rfl (lv_at hl 0 rfl) ?_
    refine va_get (D := (dC, dI)) (ci := 3) (v := .ref h_this_row) (C := R_Decimal) (T := F_Decimal) (N := 3) hx hb ht i_Decimal hown hK hP 0 rfl rfl 0 (by decide) (ht _ q_108) (fun _ h9 => h9) rfl d_Decimal_limb_6 ?_
    refine va_alen (D := (dC, dI)) (v := 208) hx hb hK hP 1 0 rfl rfl rfl d_Decimal_limb_9 ?_
    refine lv_icmp_lt (tgt := 17) hx hb d_Decimal_limb_10 (by decide) (fun c2 => ?_) (fun c2 => ?_)
    · have h := if_t c2 h
      refine lv_aload_n hx hb d_Decimal_limb_17 rfl (lv_at hl 0 rfl) ?_
      refine va_get (D := (dC, dI)) (ci := 3) (v := .ref h_this_row) (C := R_Decimal) (T := F_Decimal) (N := 3) hx hb ht i_Decimal hown hK hP 0 rfl rfl 0 (by decide) (ht _ q_108) (fun _ h9 => h9) rfl d_Decimal_limb_18 ?_
      refine lv_iload_n hx hb d_Decimal_limb_21 rfl (lv_at hl 1 rfl) ?_
      obtain ⟨c3, h⟩ := ck_x h
      refine va_iald (D := (dC, dI)) hx hb hK hP 1 0 rfl rfl c3 d_Decimal_limb_22 ?_
      exact W.iret (v := (a_row p1.toNatClampNeg)) hx hb hr (fun t ht9 hW => ⟨⟨(a_row p1.toNatClampNeg), (), rfl, h, by rw [ht9]; exact hP, va_K.moved hW.alike hK, hD⟩, hS.F ht9⟩) hS.2.2 d_Decimal_limb_23 hlk
    · have h := if_f c2 h
      exact s_Decimal_limb_13 cx hK hA hX a_row H locs ls hP hD hS (lv_sub hl [0] rfl) h
set_option maxHeartbeats 4000000 in
set_option maxRecDepth 100000 in
theorem c_Decimal_limb (l : Launch) (dC : Nat → ClassId) (dI : Nat → Nat → Nat) (X : SXT) (h_this : Nat) (h_this_row : Nat) (c_this_row : ClassId) (sz : Nat) (v_first : Int32) (v_last : Int32) (a_row : (Nat → Int32)) (p1 : Int32) (res : Int32) (hf : f_Decimal_limb a_row p1 = some res) : Met l y_Decimal_limb (.code y_Decimal_limb b_Decimal_limb 2 (some .int) :: w0) ({ frames := 0, cells := 0, slots := 0, locals := 0 }) (va_Pc [.ref h_this, .int p1] (gP (dC, dI) (WS_Decimal_limb h_this h_this_row c_this_row v_first v_last a_row) [(c_this_row, .int)] sz X)) (va_Qi (fun (r : Int32) (_ : Unit) => some r = some res) (gB (dC, dI) [(c_this_row, .int)] (va_A (WS_Decimal_limb h_this h_this_row c_this_row v_first v_last a_row) sz) (fun (u : Unit) => (WS_Decimal_limb h_this h_this_row c_this_row v_first v_last a_row))) (va_A (WS_Decimal_limb h_this h_this_row c_this_row v_first v_last a_row) sz)) 0 0 (va_A (WS_Decimal_limb h_this h_this_row c_this_row v_first v_last a_row) sz) := by
  refine Met.ofW (cc := b_Decimal_limb) (maxL := 2) (ret := (some .int)) (by decide) rfl ?_
  intro p e s m args below meth c s₁ B hml hv
  obtain ⟨rfl, hsz, hP, hK, hD0, hX⟩ := hv
  subst hsz
  have cx : cxx p s m ([.ref h_this, .int p1] : List Value).toArray meth c b_Decimal_limb 2 (some .int) R_Decimal := ⟨B.exec, B.bytes, B.returns, hml, findClass_of_methodNamed B.named, fun w9 hw => atoms_spec (ws := .code y_Decimal_limb b_Decimal_limb 2 (some .int) :: w0) B.pre w9 (List.mem_cons_of_mem _ hw), B.notSynchronized⟩
  have hD := hD0.self (sz := s.heap.size)
  generalize hAe : va_A (WS_Decimal_limb h_this h_this_row c_this_row v_first v_last a_row) s.heap.size = A at hD hX ⊢
  have hA : ∀ q : Nat, s.heap.size ≤ q → A q := fun q h => by rw [← hAe]; exact Or.inr h
  have hS : va_S A s.heap s.heap [] := va_S.rf
  have hl := lv_entry ([.ref h_this, .int p1]) (n := 2) (Nat.le_of_ble_eq_true rfl)
  rw [lg_entry_eq]
  generalize (lg_sl ([.ref h_this, .int p1]) ++ List.replicate (2 - (lg_sl ([.ref h_this, .int p1])).length) Slot.unset).toArray = ls at hl ⊢
  have hl : lv_has ls 2 [(0, .ref h_this), (1, .int p1)] := hl
  exact s_Decimal_limb_e cx hK hA hX a_row p1 s.heap [] ls hP hD hS hl hf
def f_Decimal_unitOf_21  : Option (Int32) :=
  some (1 : Int32)
def f_Decimal_unitOf (p0 : Int32) : Option (Int32) :=
  bd (irm (p0 + (1872 : Int32)) (9 : Int32)) fun x1 =>
  if x1 < 0 then
    f_Decimal_unitOf_21
  else
    if x1 < (9 : Int32) then
      ck (gin x1 9) <|
      some (tb_Decimal_TENS x1.toNatClampNeg)
    else
      f_Decimal_unitOf_21
set_option maxHeartbeats 4000000 in
set_option maxRecDepth 100000 in
theorem s_Decimal_unitOf_21 {p : Program} {l : Launch} {e : Env} {s : State} {m : MethodId} {args : Array Value} {below : List Frame} {meth : Method} {c : Code} {dC : Nat → ClassId} {dI : Nat → Nat → Nat} {A : Nat → Prop} {X : SXT} {res : Int32}  (cx : cxx p s m args meth c b_Decimal_unitOf 2 (some .int) R_Decimal) (hK : va_K (dC, dI) classes [] s) (hA : ∀ q, s.heap.size ≤ q → A q) (hX : SX X A s s.heap)  : ∀  (H : Heap) (locs : List Loc) (ls : Array Slot), va_P (dC, dI) classes [] H → va_D A [] → va_S A s.heap H locs → lv_has ls 2 [] → f_Decimal_unitOf_21  = some res → W p l e ({ frames := 0, cells := 0, slots := 0, locals := 0 }) s m args below meth c H locs 0 0 (MQ below (va_Qi (fun (r : Int32) (_ : Unit) => some r = some res) (gB (dC, dI) [] A (fun (u : Unit) => [])) A) args s 0 0 A) (F0 m 21 ls []) := by
  intro  H locs ls hP hD hS hl h
  obtain ⟨hx, hb, hr, hml, hown, ht, hlk⟩ := id cx
  refine lv_iconst (v := 1) hx hb d_Decimal_unitOf_21 (by decide) ?_
  refine lv_goto (tgt := 30) hx hb d_Decimal_unitOf_22 (by decide) ?_
  exact W.iret (v := (1 : Int32)) hx hb hr (fun t ht9 hW => ⟨⟨(1 : Int32), (), rfl, h, by rw [ht9]; exact hP, va_K.moved hW.alike hK, hD⟩, hS.F ht9⟩) hS.2.2 d_Decimal_unitOf_30 hlk
set_option maxHeartbeats 4000000 in
set_option maxRecDepth 100000 in
theorem s_Decimal_unitOf_e {p : Program} {l : Launch} {e : Env} {s : State} {m : MethodId} {args : Array Value} {below : List Frame} {meth : Method} {c : Code} {dC : Nat → ClassId} {dI : Nat → Nat → Nat} {A : Nat → Prop} {X : SXT} {res : Int32} (cx : cxx p s m args meth c b_Decimal_unitOf 2 (some .int) R_Decimal) (hK : va_K (dC, dI) classes [] s) (hA : ∀ q, s.heap.size ≤ q → A q) (hX : SX X A s s.heap) : ∀ (p0 : Int32) (H : Heap) (locs : List Loc) (ls : Array Slot), va_P (dC, dI) classes [] H → va_D A [] → va_S A s.heap H locs → lv_has ls 2 [(0, .int p0)] → f_Decimal_unitOf p0 = some res → W p l e ({ frames := 0, cells := 0, slots := 0, locals := 0 }) s m args below meth c H locs 0 0 (MQ below (va_Qi (fun (r : Int32) (_ : Unit) => some r = some res) (gB (dC, dI) [] A (fun (u : Unit) => [])) A) args s 0 0 A) (F0 m 0 ls []) := by
  intro p0 H locs ls hP hD hS hl h
  obtain ⟨hx, hb, hr, hml, hown, ht, hlk⟩ := id cx
  refine lv_iload_n hx hb d_Decimal_unitOf_0 rfl (lv_at hl 0 rfl) ?_
  refine lv_sipush (v := 1872) hx hb d_Decimal_unitOf_1 (by decide) ?_
  refine lv_iadd hx hb d_Decimal_unitOf_4 ?_
  refine lv_bipush (v := 9) hx hb d_Decimal_unitOf_5 (by decide) ?_
  refine lv_irem hx hb d_Decimal_unitOf_7 (by decide) ?_
  refine W.eq (g2 := F0 m 8 ls (.int (irm (p0 + (1872 : Int32)) (9 : Int32)) :: [])) rfl ?_
  refine lv_topi (fun x1 e_x1 => ?_)
  have h := bd_g e_x1 h
  refine lv_istore_n (lv' := [(1, .int x1), (0, .int p0)]) hx hb d_Decimal_unitOf_8 rfl hl (by decide) rfl (fun ls hl => ?_)
  refine lv_iload_n hx hb d_Decimal_unitOf_9 rfl (lv_at hl 0 rfl) ?_
  refine lv_if_lt (tgt := 21) hx hb d_Decimal_unitOf_10 (by decide) (fun c2 => ?_) (fun c2 => ?_)
  · have h := if_t c2 h
    exact s_Decimal_unitOf_21 cx hK hA hX  H locs ls hP hD hS (lv_sub hl [] rfl) h
  · have h := if_f c2 h
    refine lv_iload_n hx hb d_Decimal_unitOf_13 rfl (lv_at hl 0 rfl) ?_
    refine va_gets hx hb (hX.st_Decimal_TENS) hS hown (ht _ q_115) (fun _ h9 => h9) d_Decimal_unitOf_14 ?_
    refine va_tlen (v := 9) hx hb (hX.tb_Decimal_TENS) hS rfl d_Decimal_unitOf_17 ?_
    refine lv_icmp_lt (tgt := 25) hx hb d_Decimal_unitOf_18 (by decide) (fun c3 => ?_) (fun c3 => ?_)
    · have h := if_t c3 h
      refine va_gets hx hb (hX.st_Decimal_TENS) hS hown (ht _ q_115) (fun _ h9 => h9) d_Decimal_unitOf_25 ?_
      refine lv_iload_n hx hb d_Decimal_unitOf_28 rfl (lv_at hl 0 rfl) ?_
      obtain ⟨c4, h⟩ := ck_x h
      refine va_ti hx hb (hX.tb_Decimal_TENS) hS c4 rfl d_Decimal_unitOf_29 ?_
      exact W.iret (v := (tb_Decimal_TENS x1.toNatClampNeg)) hx hb hr (fun t ht9 hW => ⟨⟨(tb_Decimal_TENS x1.toNatClampNeg), (), rfl, h, by rw [ht9]; exact hP, va_K.moved hW.alike hK, hD⟩, hS.F ht9⟩) hS.2.2 d_Decimal_unitOf_30 hlk
    · have h := if_f c3 h
      exact s_Decimal_unitOf_21 cx hK hA hX  H locs ls hP hD hS (lv_sub hl [] rfl) h
set_option maxHeartbeats 4000000 in
set_option maxRecDepth 100000 in
theorem c_Decimal_unitOf (l : Launch) (dC : Nat → ClassId) (dI : Nat → Nat → Nat) (X : SXT) (sz : Nat) (p0 : Int32) (res : Int32) (hf : f_Decimal_unitOf p0 = some res) : Met l y_Decimal_unitOf (.code y_Decimal_unitOf b_Decimal_unitOf 2 (some .int) :: w0) ({ frames := 0, cells := 0, slots := 0, locals := 0 }) (va_Pc [.int p0] (gP (dC, dI) [] [] sz X)) (va_Qi (fun (r : Int32) (_ : Unit) => some r = some res) (gB (dC, dI) [] (va_A [] sz) (fun (u : Unit) => [])) (va_A [] sz)) 0 0 (va_A [] sz) := by
  refine Met.ofW (cc := b_Decimal_unitOf) (maxL := 2) (ret := (some .int)) (by decide) rfl ?_
  intro p e s m args below meth c s₁ B hml hv
  obtain ⟨rfl, hsz, hP, hK, hD0, hX⟩ := hv
  subst hsz
  have cx : cxx p s m ([.int p0] : List Value).toArray meth c b_Decimal_unitOf 2 (some .int) R_Decimal := ⟨B.exec, B.bytes, B.returns, hml, findClass_of_methodNamed B.named, fun w9 hw => atoms_spec (ws := .code y_Decimal_unitOf b_Decimal_unitOf 2 (some .int) :: w0) B.pre w9 (List.mem_cons_of_mem _ hw), B.notSynchronized⟩
  have hD := hD0.self (sz := s.heap.size)
  generalize hAe : va_A [] s.heap.size = A at hD hX ⊢
  have hA : ∀ q : Nat, s.heap.size ≤ q → A q := fun q h => by rw [← hAe]; exact Or.inr h
  have hS : va_S A s.heap s.heap [] := va_S.rf
  have hl := lv_entry ([.int p0]) (n := 2) (Nat.le_of_ble_eq_true rfl)
  rw [lg_entry_eq]
  generalize (lg_sl ([.int p0]) ++ List.replicate (2 - (lg_sl ([.int p0])).length) Slot.unset).toArray = ls at hl ⊢
  have hl : lv_has ls 2 [(0, .int p0)] := hl
  exact s_Decimal_unitOf_e cx hK hA hX p0 s.heap [] ls hP hD hS hl hf
abbrev WS_Decimal_trim (h_this : Nat) (h_this_row : Nat) (c_this_row : ClassId) (v_first : Int32) (v_last : Int32) (a_row : (Nat → Int32)) : va_W := [(h_this, .inr (3, [.ref h_this_row, .int v_first, .int v_last])), (h_this_row, .inl (c_this_row, 208, .inl a_row))]
def f_Decimal_trim_35b (k35 : Int32 → Int32 → (Nat → Int32) → Option (Int32 × Int32)) (v_first : Int32) (v_last : Int32) (a_row : (Nat → Int32)) : Option (Int32 × Int32) :=
  if v_last ≤ v_first then
    some (v_first, v_last)
  else
    bi1 (f_Decimal_limb a_row v_first) fun r2 =>
    if r2 = 0 then
      bd (v_first + (1 : Int32)) fun x4 =>
      k35 x4 v_last a_row
    else
      some (v_first, v_last)
def f_Decimal_trim_35 : Nat → Int32 → Int32 → (Nat → Int32) → Option (Int32 × Int32)
  | 0 => fun _ _ _ => none
  | n + 1 => fun v_first v_last a_row => f_Decimal_trim_35b (f_Decimal_trim_35 n) v_first v_last a_row
def f_Decimal_trim_0b (k0 : Int32 → Int32 → (Nat → Int32) → Option (Int32 × Int32)) (v_first : Int32) (v_last : Int32) (a_row : (Nat → Int32)) : Option (Int32 × Int32) :=
  if v_last ≤ v_first then
    f_Decimal_trim_35 fu v_first v_last a_row
  else
    bi1 (f_Decimal_limb a_row v_last) fun r6 =>
    if r6 = 0 then
      bd (v_last - (1 : Int32)) fun x8 =>
      k0 v_first x8 a_row
    else
      f_Decimal_trim_35 fu v_first v_last a_row
def f_Decimal_trim_0 : Nat → Int32 → Int32 → (Nat → Int32) → Option (Int32 × Int32)
  | 0 => fun _ _ _ => none
  | n + 1 => fun v_first v_last a_row => f_Decimal_trim_0b (f_Decimal_trim_0 n) v_first v_last a_row
def f_Decimal_trim (v_first : Int32) (v_last : Int32) (a_row : (Nat → Int32)) : Option (Int32 × Int32) :=
  f_Decimal_trim_0 fu v_first v_last a_row
set_option maxHeartbeats 4000000 in
set_option maxRecDepth 100000 in
theorem s_Decimal_trim_35b {p : Program} {l : Launch} {e : Env} {s : State} {m : MethodId} {args : Array Value} {below : List Frame} {meth : Method} {c : Code} {dC : Nat → ClassId} {dI : Nat → Nat → Nat} {A : Nat → Prop} {X : SXT} {h_this : Nat} {h_this_row : Nat} {c_this_row : ClassId} {res : Int32 × Int32} {k35 : Int32 → Int32 → (Nat → Int32) → Option (Int32 × Int32)} (cx : cxx p s m args meth c b_Decimal_trim 1 none R_Decimal) (hK : va_K (dC, dI) classes [(c_this_row, .int)] s) (hA : ∀ q, s.heap.size ≤ q → A q) (hX : SX X A s s.heap) (hk35 : ∀ (v_first : Int32) (v_last : Int32) (a_row : (Nat → Int32)) (H : Heap) (locs : List Loc) (ls : Array Slot), va_P (dC, dI) classes (WS_Decimal_trim h_this h_this_row c_this_row v_first v_last a_row) H → va_D A (WS_Decimal_trim h_this h_this_row c_this_row v_first v_last a_row) → va_S A s.heap H locs → lv_has ls 1 [(0, .ref h_this)] → k35 v_first v_last a_row = some res → W p l e ({ frames := 1, cells := 0, slots := 0, locals := 21 }) s m args below meth c H locs 0 0 (MQ below (va_Qv (fun (u : Int32 × Int32) => some u = some res) (gB (dC, dI) [(c_this_row, .int)] A (fun (u : Int32 × Int32) => (WS_Decimal_trim h_this h_this_row c_this_row u.1 u.2 a_row))) A) args s 0 0 A) (F0 m 35 ls [])) : ∀ (v_first : Int32) (v_last : Int32) (a_row : (Nat → Int32)) (H : Heap) (locs : List Loc) (ls : Array Slot), va_P (dC, dI) classes (WS_Decimal_trim h_this h_this_row c_this_row v_first v_last a_row) H → va_D A (WS_Decimal_trim h_this h_this_row c_this_row v_first v_last a_row) → va_S A s.heap H locs → lv_has ls 1 [(0, .ref h_this)] → f_Decimal_trim_35b k35 v_first v_last a_row = some res → W p l e ({ frames := 1, cells := 0, slots := 0, locals := 21 }) s m args below meth c H locs 0 0 (MQ below (va_Qv (fun (u : Int32 × Int32) => some u = some res) (gB (dC, dI) [(c_this_row, .int)] A (fun (u : Int32 × Int32) => (WS_Decimal_trim h_this h_this_row c_this_row u.1 u.2 a_row))) A) args s 0 0 A) (F0 m 35 ls []) := by
  intro v_first v_last a_row H locs ls hP hD hS hl h
  obtain ⟨hx, hb, hr, hml, hown, ht, hlk⟩ := id cx
  refine lv_aload_n hx hb d_Decimal_trim_35 rfl (lv_at hl 0 rfl) ?_
  refine va_get (D := (dC, dI)) (ci := 3) (v := .int v_first) (C := R_Decimal) (T := F_Decimal) (N := 3) hx hb ht i_Decimal hown hK hP 0 rfl rfl 1 (by decide) (ht _ q_109) (fun _ h9 => h9) rfl d_Decimal_trim_36 ?_
  refine lv_aload_n hx hb d_Decimal_trim_39 rfl (lv_at hl 0 rfl) ?_
  refine va_get (D := (dC, dI)) (ci := 3) (v := .int v_last) (C := R_Decimal) (T := F_Decimal) (N := 3) hx hb ht i_Decimal hown hK hP 0 rfl rfl 2 (by decide) (ht _ q_107) (fun _ h9 => h9) rfl d_Decimal_trim_40 ?_
  refine lv_icmp_ge (tgt := 70) hx hb d_Decimal_trim_43 (by decide) (fun c1 => ?_) (fun c1 => ?_)
  · have h := if_t c1 h
    exact W.vret hx hb hr (fun t ht9 hW => ⟨⟨(v_first, v_last), rfl, h, by rw [ht9]; exact hP, va_K.moved hW.alike hK, hD⟩, hS.F ht9⟩) hS.2.2 d_Decimal_trim_70 hlk
  · have h := if_f c1 h
    refine lv_aload_n hx hb d_Decimal_trim_46 rfl (lv_at hl 0 rfl) ?_
    refine lv_aload_n hx hb d_Decimal_trim_47 rfl (lv_at hl 0 rfl) ?_
    refine va_get (D := (dC, dI)) (ci := 3) (v := .int v_first) (C := R_Decimal) (T := F_Decimal) (N := 3) hx hb ht i_Decimal hown hK hP 0 rfl rfl 1 (by decide) (ht _ q_109) (fun _ h9 => h9) rfl d_Decimal_trim_48 ?_
    obtain ⟨r2, hf, h⟩ := bi1_x h
    refine clVi (D := (dC, dI)) (n := 1) (As := [.int v_first]) ⟨hx, hb, hml, hown, ht⟩ (c_Decimal_limb l dC dI X h_this h_this_row c_this_row H.size v_first v_last a_row v_first r2 hf) (gV q_116 q_117 q_118 q_113 q_119) (by decide +kernel) ⟨rfl, rfl, Nat.le_of_ble_eq_true rfl, Nat.le_of_ble_eq_true rfl⟩ hK hP hD hS hA hX [0, 1] [] [0] rfl (wr := []) rfl (by decide) (by decide) (by decide) rfl (va_recv hK hP (ci := 3) (q0 := 0) rfl rfl) rfl hl.1 rfl (lv_room (Nat.le_of_ble_eq_true rfl)) d_Decimal_trim_51 ⟨Nat.zero_le _, Nat.zero_le _⟩ (fun r9 u9 H locs h9 hP hD hS => ?_)
    cases h9
    have hP : va_P (dC, dI) classes (WS_Decimal_trim h_this h_this_row c_this_row v_first v_last a_row) H := hP.sub [0, 1] rfl
    have hD : va_D A (WS_Decimal_trim h_this h_this_row c_this_row v_first v_last a_row) := hD.sub [0, 1] (by decide) rfl
    refine lv_if_ne (tgt := 70) hx hb d_Decimal_trim_54 (by decide) (fun c3 => ?_) (fun c3 => ?_)
    · have h := if_f c3 h
      exact W.vret hx hb hr (fun t ht9 hW => ⟨⟨(v_first, v_last), rfl, h, by rw [ht9]; exact hP, va_K.moved hW.alike hK, hD⟩, hS.F ht9⟩) hS.2.2 d_Decimal_trim_70 hlk
    · have h := if_t c3 h
      refine lv_aload_n hx hb d_Decimal_trim_57 rfl (lv_at hl 0 rfl) ?_
      refine lv_dup hx hb d_Decimal_trim_58 rfl ?_
      refine va_get (D := (dC, dI)) (ci := 3) (v := .int v_first) (C := R_Decimal) (T := F_Decimal) (N := 3) hx hb ht i_Decimal hown hK hP 0 rfl rfl 1 (by decide) (ht _ q_109) (fun _ h9 => h9) rfl d_Decimal_trim_59 ?_
      refine lv_iconst (v := 1) hx hb d_Decimal_trim_62 (by decide) ?_
      refine lv_iadd hx hb d_Decimal_trim_63 ?_
      refine lv_topi (fun x4 e_x4 => ?_)
      have h := bd_g e_x4 h
      refine va_put (D := (dC, dI)) (ci := 3) (v := .int x4) (ty := .int) (C := R_Decimal) (T := F_Decimal) (N := 3) hx hb ht i_Decimal t_Decimal t_Decimal_ok n_Decimal hown hK hP hD hS 0 rfl rfl 1 (by decide) (ht _ q_109) (fun _ h9 => h9) rfl (t_Decimal_ok 1 (by decide)) rfl rfl (Nat.le_of_ble_eq_true rfl) d_Decimal_trim_64 (fun H locs hP hD hS => ?_)
      have hP : va_P (dC, dI) classes (WS_Decimal_trim h_this h_this_row c_this_row x4 v_last a_row) H := hP
      have hD : va_D A (WS_Decimal_trim h_this h_this_row c_this_row x4 v_last a_row) := hD
      refine lv_goto (tgt := 35) hx hb d_Decimal_trim_67 (by decide) ?_
      exact hk35 x4 v_last a_row H locs ls hP hD hS (lv_sub hl [0] rfl) h
set_option maxHeartbeats 4000000 in
set_option maxRecDepth 100000 in
theorem s_Decimal_trim_35 {p : Program} {l : Launch} {e : Env} {s : State} {m : MethodId} {args : Array Value} {below : List Frame} {meth : Method} {c : Code} {dC : Nat → ClassId} {dI : Nat → Nat → Nat} {A : Nat → Prop} {X : SXT} {h_this : Nat} {h_this_row : Nat} {c_this_row : ClassId} {res : Int32 × Int32}  (cx : cxx p s m args meth c b_Decimal_trim 1 none R_Decimal) (hK : va_K (dC, dI) classes [(c_this_row, .int)] s) (hA : ∀ q, s.heap.size ≤ q → A q) (hX : SX X A s s.heap)  : ∀ n : Nat, ∀ (v_first : Int32) (v_last : Int32) (a_row : (Nat → Int32)) (H : Heap) (locs : List Loc) (ls : Array Slot), va_P (dC, dI) classes (WS_Decimal_trim h_this h_this_row c_this_row v_first v_last a_row) H → va_D A (WS_Decimal_trim h_this h_this_row c_this_row v_first v_last a_row) → va_S A s.heap H locs → lv_has ls 1 [(0, .ref h_this)] → f_Decimal_trim_35 n v_first v_last a_row = some res → W p l e ({ frames := 1, cells := 0, slots := 0, locals := 21 }) s m args below meth c H locs 0 0 (MQ below (va_Qv (fun (u : Int32 × Int32) => some u = some res) (gB (dC, dI) [(c_this_row, .int)] A (fun (u : Int32 × Int32) => (WS_Decimal_trim h_this h_this_row c_this_row u.1 u.2 a_row))) A) args s 0 0 A) (F0 m 35 ls []) := by
  intro n
  induction n with
  | zero =>
    intro v_first v_last a_row H locs ls hP hD hS hl h
    have h9 : (none : Option (Int32 × Int32)) = some res := h
    cases h9
  | succ n ih =>
    intro v_first v_last a_row H locs ls hP hD hS hl h
    exact s_Decimal_trim_35b cx hK hA hX ih v_first v_last a_row H locs ls hP hD hS hl h
set_option maxHeartbeats 4000000 in
set_option maxRecDepth 100000 in
theorem s_Decimal_trim_0b {p : Program} {l : Launch} {e : Env} {s : State} {m : MethodId} {args : Array Value} {below : List Frame} {meth : Method} {c : Code} {dC : Nat → ClassId} {dI : Nat → Nat → Nat} {A : Nat → Prop} {X : SXT} {h_this : Nat} {h_this_row : Nat} {c_this_row : ClassId} {res : Int32 × Int32} {k0 : Int32 → Int32 → (Nat → Int32) → Option (Int32 × Int32)} (cx : cxx p s m args meth c b_Decimal_trim 1 none R_Decimal) (hK : va_K (dC, dI) classes [(c_this_row, .int)] s) (hA : ∀ q, s.heap.size ≤ q → A q) (hX : SX X A s s.heap) (hk0 : ∀ (v_first : Int32) (v_last : Int32) (a_row : (Nat → Int32)) (H : Heap) (locs : List Loc) (ls : Array Slot), va_P (dC, dI) classes (WS_Decimal_trim h_this h_this_row c_this_row v_first v_last a_row) H → va_D A (WS_Decimal_trim h_this h_this_row c_this_row v_first v_last a_row) → va_S A s.heap H locs → lv_has ls 1 [(0, .ref h_this)] → k0 v_first v_last a_row = some res → W p l e ({ frames := 1, cells := 0, slots := 0, locals := 21 }) s m args below meth c H locs 0 0 (MQ below (va_Qv (fun (u : Int32 × Int32) => some u = some res) (gB (dC, dI) [(c_this_row, .int)] A (fun (u : Int32 × Int32) => (WS_Decimal_trim h_this h_this_row c_this_row u.1 u.2 a_row))) A) args s 0 0 A) (F0 m 0 ls [])) : ∀ (v_first : Int32) (v_last : Int32) (a_row : (Nat → Int32)) (H : Heap) (locs : List Loc) (ls : Array Slot), va_P (dC, dI) classes (WS_Decimal_trim h_this h_this_row c_this_row v_first v_last a_row) H → va_D A (WS_Decimal_trim h_this h_this_row c_this_row v_first v_last a_row) → va_S A s.heap H locs → lv_has ls 1 [(0, .ref h_this)] → f_Decimal_trim_0b k0 v_first v_last a_row = some res → W p l e ({ frames := 1, cells := 0, slots := 0, locals := 21 }) s m args below meth c H locs 0 0 (MQ below (va_Qv (fun (u : Int32 × Int32) => some u = some res) (gB (dC, dI) [(c_this_row, .int)] A (fun (u : Int32 × Int32) => (WS_Decimal_trim h_this h_this_row c_this_row u.1 u.2 a_row))) A) args s 0 0 A) (F0 m 0 ls []) := by
  intro v_first v_last a_row H locs ls hP hD hS hl h
  obtain ⟨hx, hb, hr, hml, hown, ht, hlk⟩ := id cx
  refine lv_aload_n hx hb d_Decimal_trim_0 rfl (lv_at hl 0 rfl) ?_
  refine va_get (D := (dC, dI)) (ci := 3) (v := .int v_last) (C := R_Decimal) (T := F_Decimal) (N := 3) hx hb ht i_Decimal hown hK hP 0 rfl rfl 2 (by decide) (ht _ q_107) (fun _ h9 => h9) rfl d_Decimal_trim_1 ?_
  refine lv_aload_n hx hb d_Decimal_trim_4 rfl (lv_at hl 0 rfl) ?_
  refine va_get (D := (dC, dI)) (ci := 3) (v := .int v_first) (C := R_Decimal) (T := F_Decimal) (N := 3) hx hb ht i_Decimal hown hK hP 0 rfl rfl 1 (by decide) (ht _ q_109) (fun _ h9 => h9) rfl d_Decimal_trim_5 ?_
  refine lv_icmp_le (tgt := 35) hx hb d_Decimal_trim_8 (by decide) (fun c5 => ?_) (fun c5 => ?_)
  · have h := if_t c5 h
    exact s_Decimal_trim_35 cx hK hA hX fu v_first v_last a_row H locs ls hP hD hS (lv_sub hl [0] rfl) h
  · have h := if_f c5 h
    refine lv_aload_n hx hb d_Decimal_trim_11 rfl (lv_at hl 0 rfl) ?_
    refine lv_aload_n hx hb d_Decimal_trim_12 rfl (lv_at hl 0 rfl) ?_
    refine va_get (D := (dC, dI)) (ci := 3) (v := .int v_last) (C := R_Decimal) (T := F_Decimal) (N := 3) hx hb ht i_Decimal hown hK hP 0 rfl rfl 2 (by decide) (ht _ q_107) (fun _ h9 => h9) rfl d_Decimal_trim_13 ?_
    obtain ⟨r6, hf, h⟩ := bi1_x h
    refine clVi (D := (dC, dI)) (n := 1) (As := [.int v_last]) ⟨hx, hb, hml, hown, ht⟩ (c_Decimal_limb l dC dI X h_this h_this_row c_this_row H.size v_first v_last a_row v_last r6 hf) (gV q_116 q_117 q_118 q_113 q_119) (by decide +kernel) ⟨rfl, rfl, Nat.le_of_ble_eq_true rfl, Nat.le_of_ble_eq_true rfl⟩ hK hP hD hS hA hX [0, 1] [] [0] rfl (wr := []) rfl (by decide) (by decide) (by decide) rfl (va_recv hK hP (ci := 3) (q0 := 0) rfl rfl) rfl hl.1 rfl (lv_room (Nat.le_of_ble_eq_true rfl)) d_Decimal_trim_16 ⟨Nat.zero_le _, Nat.zero_le _⟩ (fun r9 u9 H locs h9 hP hD hS => ?_)
    cases h9
    have hP : va_P (dC, dI) classes (WS_Decimal_trim h_this h_this_row c_this_row v_first v_last a_row) H := hP.sub [0, 1] rfl
    have hD : va_D A (WS_Decimal_trim h_this h_this_row c_this_row v_first v_last a_row) := hD.sub [0, 1] (by decide) rfl
    refine lv_if_ne (tgt := 35) hx hb d_Decimal_trim_19 (by decide) (fun c7 => ?_) (fun c7 => ?_)
    · have h := if_f c7 h
      exact s_Decimal_trim_35 cx hK hA hX fu v_first v_last a_row H locs ls hP hD hS (lv_sub hl [0] rfl) h
    · have h := if_t c7 h
      refine lv_aload_n hx hb d_Decimal_trim_22 rfl (lv_at hl 0 rfl) ?_
      refine lv_dup hx hb d_Decimal_trim_23 rfl ?_
      refine va_get (D := (dC, dI)) (ci := 3) (v := .int v_last) (C := R_Decimal) (T := F_Decimal) (N := 3) hx hb ht i_Decimal hown hK hP 0 rfl rfl 2 (by decide) (ht _ q_107) (fun _ h9 => h9) rfl d_Decimal_trim_24 ?_
      refine lv_iconst (v := 1) hx hb d_Decimal_trim_27 (by decide) ?_
      refine lv_isub hx hb d_Decimal_trim_28 ?_
      refine lv_topi (fun x8 e_x8 => ?_)
      have h := bd_g e_x8 h
      refine va_put (D := (dC, dI)) (ci := 3) (v := .int x8) (ty := .int) (C := R_Decimal) (T := F_Decimal) (N := 3) hx hb ht i_Decimal t_Decimal t_Decimal_ok n_Decimal hown hK hP hD hS 0 rfl rfl 2 (by decide) (ht _ q_107) (fun _ h9 => h9) rfl (t_Decimal_ok 2 (by decide)) rfl rfl (Nat.le_of_ble_eq_true rfl) d_Decimal_trim_29 (fun H locs hP hD hS => ?_)
      have hP : va_P (dC, dI) classes (WS_Decimal_trim h_this h_this_row c_this_row v_first x8 a_row) H := hP
      have hD : va_D A (WS_Decimal_trim h_this h_this_row c_this_row v_first x8 a_row) := hD
      refine lv_goto (tgt := 0) hx hb d_Decimal_trim_32 (by decide) ?_
      exact hk0 v_first x8 a_row H locs ls hP hD hS (lv_sub hl [0] rfl) h
set_option maxHeartbeats 4000000 in
set_option maxRecDepth 100000 in
theorem s_Decimal_trim_0 {p : Program} {l : Launch} {e : Env} {s : State} {m : MethodId} {args : Array Value} {below : List Frame} {meth : Method} {c : Code} {dC : Nat → ClassId} {dI : Nat → Nat → Nat} {A : Nat → Prop} {X : SXT} {h_this : Nat} {h_this_row : Nat} {c_this_row : ClassId} {res : Int32 × Int32}  (cx : cxx p s m args meth c b_Decimal_trim 1 none R_Decimal) (hK : va_K (dC, dI) classes [(c_this_row, .int)] s) (hA : ∀ q, s.heap.size ≤ q → A q) (hX : SX X A s s.heap)  : ∀ n : Nat, ∀ (v_first : Int32) (v_last : Int32) (a_row : (Nat → Int32)) (H : Heap) (locs : List Loc) (ls : Array Slot), va_P (dC, dI) classes (WS_Decimal_trim h_this h_this_row c_this_row v_first v_last a_row) H → va_D A (WS_Decimal_trim h_this h_this_row c_this_row v_first v_last a_row) → va_S A s.heap H locs → lv_has ls 1 [(0, .ref h_this)] → f_Decimal_trim_0 n v_first v_last a_row = some res → W p l e ({ frames := 1, cells := 0, slots := 0, locals := 21 }) s m args below meth c H locs 0 0 (MQ below (va_Qv (fun (u : Int32 × Int32) => some u = some res) (gB (dC, dI) [(c_this_row, .int)] A (fun (u : Int32 × Int32) => (WS_Decimal_trim h_this h_this_row c_this_row u.1 u.2 a_row))) A) args s 0 0 A) (F0 m 0 ls []) := by
  intro n
  induction n with
  | zero =>
    intro v_first v_last a_row H locs ls hP hD hS hl h
    have h9 : (none : Option (Int32 × Int32)) = some res := h
    cases h9
  | succ n ih =>
    intro v_first v_last a_row H locs ls hP hD hS hl h
    exact s_Decimal_trim_0b cx hK hA hX ih v_first v_last a_row H locs ls hP hD hS hl h
set_option maxHeartbeats 4000000 in
set_option maxRecDepth 100000 in
theorem s_Decimal_trim_e {p : Program} {l : Launch} {e : Env} {s : State} {m : MethodId} {args : Array Value} {below : List Frame} {meth : Method} {c : Code} {dC : Nat → ClassId} {dI : Nat → Nat → Nat} {A : Nat → Prop} {X : SXT} {h_this : Nat} {h_this_row : Nat} {c_this_row : ClassId} {res : Int32 × Int32} (cx : cxx p s m args meth c b_Decimal_trim 1 none R_Decimal) (hK : va_K (dC, dI) classes [(c_this_row, .int)] s) (hA : ∀ q, s.heap.size ≤ q → A q) (hX : SX X A s s.heap) : ∀ (v_first : Int32) (v_last : Int32) (a_row : (Nat → Int32)) (H : Heap) (locs : List Loc) (ls : Array Slot), va_P (dC, dI) classes (WS_Decimal_trim h_this h_this_row c_this_row v_first v_last a_row) H → va_D A (WS_Decimal_trim h_this h_this_row c_this_row v_first v_last a_row) → va_S A s.heap H locs → lv_has ls 1 [(0, .ref h_this)] → f_Decimal_trim v_first v_last a_row = some res → W p l e ({ frames := 1, cells := 0, slots := 0, locals := 21 }) s m args below meth c H locs 0 0 (MQ below (va_Qv (fun (u : Int32 × Int32) => some u = some res) (gB (dC, dI) [(c_this_row, .int)] A (fun (u : Int32 × Int32) => (WS_Decimal_trim h_this h_this_row c_this_row u.1 u.2 a_row))) A) args s 0 0 A) (F0 m 0 ls []) := by
  intro v_first v_last a_row H locs ls hP hD hS hl h
  obtain ⟨hx, hb, hr, hml, hown, ht, hlk⟩ := id cx
  exact s_Decimal_trim_0 cx hK hA hX fu v_first v_last a_row H locs ls hP hD hS (lv_sub hl [0] rfl) h
set_option maxHeartbeats 4000000 in
set_option maxRecDepth 100000 in
theorem c_Decimal_trim (l : Launch) (dC : Nat → ClassId) (dI : Nat → Nat → Nat) (X : SXT) (h_this : Nat) (h_this_row : Nat) (c_this_row : ClassId) (sz : Nat) (v_first : Int32) (v_last : Int32) (a_row : (Nat → Int32)) (res : Int32 × Int32) (hf : f_Decimal_trim v_first v_last a_row = some res) : Met l y_Decimal_trim (.code y_Decimal_trim b_Decimal_trim 1 none :: w0) ({ frames := 1, cells := 0, slots := 0, locals := 21 }) (va_Pc [.ref h_this] (gP (dC, dI) (WS_Decimal_trim h_this h_this_row c_this_row v_first v_last a_row) [(c_this_row, .int)] sz X)) (va_Qv (fun (u : Int32 × Int32) => some u = some res) (gB (dC, dI) [(c_this_row, .int)] (va_A (WS_Decimal_trim h_this h_this_row c_this_row v_first v_last a_row) sz) (fun (u : Int32 × Int32) => (WS_Decimal_trim h_this h_this_row c_this_row u.1 u.2 a_row))) (va_A (WS_Decimal_trim h_this h_this_row c_this_row v_first v_last a_row) sz)) 0 0 (va_A (WS_Decimal_trim h_this h_this_row c_this_row v_first v_last a_row) sz) := by
  refine Met.ofW (cc := b_Decimal_trim) (maxL := 1) (ret := none) (by decide) rfl ?_
  intro p e s m args below meth c s₁ B hml hv
  obtain ⟨rfl, hsz, hP, hK, hD0, hX⟩ := hv
  subst hsz
  have cx : cxx p s m ([.ref h_this] : List Value).toArray meth c b_Decimal_trim 1 none R_Decimal := ⟨B.exec, B.bytes, B.returns, hml, findClass_of_methodNamed B.named, fun w9 hw => atoms_spec (ws := .code y_Decimal_trim b_Decimal_trim 1 none :: w0) B.pre w9 (List.mem_cons_of_mem _ hw), B.notSynchronized⟩
  have hD := hD0.self (sz := s.heap.size)
  generalize hAe : va_A (WS_Decimal_trim h_this h_this_row c_this_row v_first v_last a_row) s.heap.size = A at hD hX ⊢
  have hA : ∀ q : Nat, s.heap.size ≤ q → A q := fun q h => by rw [← hAe]; exact Or.inr h
  have hS : va_S A s.heap s.heap [] := va_S.rf
  have hl := lv_entry ([.ref h_this]) (n := 1) (Nat.le_of_ble_eq_true rfl)
  rw [lg_entry_eq]
  generalize (lg_sl ([.ref h_this]) ++ List.replicate (1 - (lg_sl ([.ref h_this])).length) Slot.unset).toArray = ls at hl ⊢
  have hl : lv_has ls 1 [(0, .ref h_this)] := hl
  exact s_Decimal_trim_e cx hK hA hX v_first v_last a_row s.heap [] ls hP hD hS hl hf
abbrev WS_Decimal_addAt (h_this : Nat) (h_this_row : Nat) (c_this_row : ClassId) (v_first : Int32) (v_last : Int32) (a_row : (Nat → Int32)) : va_W := [(h_this, .inr (3, [.ref h_this_row, .int v_first, .int v_last])), (h_this_row, .inl (c_this_row, 208, .inl a_row))]
def f_Decimal_addAt_65 (v_first : Int32) (v_last : Int32) (a_row : (Nat → Int32)) (y3 : Int32) (y4 : Int32) : Option (Int32 × Int32 × (Nat → Int32)) :=
  bi3 (f_Decimal_setLimb v_first v_last a_row y3 y4) fun v1 v2 a3 =>
  bi2 (f_Decimal_trim v1 v2 a3) fun v4 v5 =>
  some (v4, v5, a3)
def f_Decimal_addAt_22b (k22 : Int32 → Int32 → (Nat → Int32) → Int32 → Int32 → Int32 → Option (Int32 × Int32 × (Nat → Int32))) (v_first : Int32) (v_last : Int32) (a_row : (Nat → Int32)) (y3 : Int32) (y4 : Int32) (y5 : Int32) : Option (Int32 × Int32 × (Nat → Int32)) :=
  if (208 : Int32) ≤ y5 then
    f_Decimal_addAt_65 v_first v_last a_row y3 y4
  else
    if y4 < (1000000000 : Int32) then
      f_Decimal_addAt_65 v_first v_last a_row y3 y4
    else
      bi3 (f_Decimal_setLimb v_first v_last a_row y3 (y4 - (1000000000 : Int32))) fun v8 v9 a10 =>
      bd (y3 + (-1 : Int32)) fun x11 =>
      bi1 (f_Decimal_limb a10 x11) fun r12 =>
      bd (r12 + (1 : Int32)) fun x13 =>
      bd (y5 + (1 : Int32)) fun x14 =>
      k22 v8 v9 a10 x11 x13 x14
def f_Decimal_addAt_22 : Nat → Int32 → Int32 → (Nat → Int32) → Int32 → Int32 → Int32 → Option (Int32 × Int32 × (Nat → Int32))
  | 0 => fun _ _ _ _ _ _ => none
  | n + 1 => fun v_first v_last a_row y3 y4 y5 => f_Decimal_addAt_22b (f_Decimal_addAt_22 n) v_first v_last a_row y3 y4 y5
def f_Decimal_addAt (v_first : Int32) (v_last : Int32) (a_row : (Nat → Int32)) (p1 : Int32) (p2 : Int32) : Option (Int32 × Int32 × (Nat → Int32)) :=
  bi1 (f_Decimal_limbOf p1) fun r15 =>
  bi1 (f_Decimal_limb a_row r15) fun r16 =>
  bi1 (f_Decimal_unitOf p1) fun r17 =>
  bd (r16 + (p2 * r17)) fun x18 =>
  f_Decimal_addAt_22 fu v_first v_last a_row r15 x18 (0 : Int32)
set_option maxHeartbeats 4000000 in
set_option maxRecDepth 100000 in
theorem s_Decimal_addAt_65 {p : Program} {l : Launch} {e : Env} {s : State} {m : MethodId} {args : Array Value} {below : List Frame} {meth : Method} {c : Code} {dC : Nat → ClassId} {dI : Nat → Nat → Nat} {A : Nat → Prop} {X : SXT} {h_this : Nat} {h_this_row : Nat} {c_this_row : ClassId} {res : Int32 × Int32 × (Nat → Int32)}  (cx : cxx p s m args meth c b_Decimal_addAt 6 none R_Decimal) (hK : va_K (dC, dI) classes [(c_this_row, .int)] s) (hA : ∀ q, s.heap.size ≤ q → A q) (hX : SX X A s s.heap)  : ∀ (v_first : Int32) (v_last : Int32) (a_row : (Nat → Int32)) (y3 : Int32) (y4 : Int32) (H : Heap) (locs : List Loc) (ls : Array Slot), va_P (dC, dI) classes (WS_Decimal_addAt h_this h_this_row c_this_row v_first v_last a_row) H → va_D A (WS_Decimal_addAt h_this h_this_row c_this_row v_first v_last a_row) → va_S A s.heap H locs → lv_has ls 6 [(0, .ref h_this), (3, .int y3), (4, .int y4)] → f_Decimal_addAt_65 v_first v_last a_row y3 y4 = some res → W p l e ({ frames := 2, cells := 0, slots := 0, locals := 41 }) s m args below meth c H locs 0 0 (MQ below (va_Qv (fun (u : Int32 × Int32 × (Nat → Int32)) => some u = some res) (gB (dC, dI) [(c_this_row, .int)] A (fun (u : Int32 × Int32 × (Nat → Int32)) => (WS_Decimal_addAt h_this h_this_row c_this_row u.1 u.2.1 u.2.2))) A) args s 0 0 A) (F0 m 65 ls []) := by
  intro v_first v_last a_row y3 y4 H locs ls hP hD hS hl h
  obtain ⟨hx, hb, hr, hml, hown, ht, hlk⟩ := id cx
  refine lv_aload_n hx hb d_Decimal_addAt_65 rfl (lv_at hl 0 rfl) ?_
  refine lv_iload_n hx hb d_Decimal_addAt_66 rfl (lv_at hl 1 rfl) ?_
  refine lv_iload hx hb d_Decimal_addAt_67 (lv_at hl 2 rfl) ?_
  obtain ⟨v1, v2, a3, hf, h⟩ := bi3_x h
  refine clVv (D := (dC, dI)) (n := 2) (As := [.int y3, .int y4]) ⟨hx, hb, hml, hown, ht⟩ (c_Decimal_setLimb l dC dI X h_this h_this_row c_this_row H.size v_first v_last a_row y3 y4 (v1, v2, a3) hf) (gV q_110 q_111 q_112 q_113 q_114) (by decide +kernel) ⟨rfl, rfl, Nat.le_of_ble_eq_true rfl, Nat.le_of_ble_eq_true rfl⟩ hK hP hD hS hA hX [0, 1] [] [0] rfl (wr := []) rfl (by decide) (by decide) (by decide) rfl (va_recv hK hP (ci := 3) (q0 := 0) rfl rfl) rfl hl.1 rfl (lv_room (Nat.le_of_ble_eq_true rfl)) d_Decimal_addAt_69 ⟨Nat.zero_le _, Nat.zero_le _⟩ (fun u9 H locs h9 hP hD hS => ?_)
  cases h9
  have hP : va_P (dC, dI) classes (WS_Decimal_addAt h_this h_this_row c_this_row v1 v2 a3) H := hP.sub [0, 1] rfl
  have hD : va_D A (WS_Decimal_addAt h_this h_this_row c_this_row v1 v2 a3) := hD.sub [0, 1] (by decide) rfl
  refine lv_aload_n hx hb d_Decimal_addAt_72 rfl (lv_at hl 0 rfl) ?_
  obtain ⟨v4, v5, hf, h⟩ := bi2_x h
  refine clVv (D := (dC, dI)) (n := 0) (As := []) ⟨hx, hb, hml, hown, ht⟩ (c_Decimal_trim l dC dI X h_this h_this_row c_this_row H.size v1 v2 a3 (v4, v5) hf) (gV q_120 q_121 q_122 q_113 q_123) (by decide +kernel) ⟨rfl, rfl, Nat.le_of_ble_eq_true rfl, Nat.le_of_ble_eq_true rfl⟩ hK hP hD hS hA hX [0, 1] [] [0] rfl (wr := []) rfl (by decide) (by decide) (by decide) rfl (va_recv hK hP (ci := 3) (q0 := 0) rfl rfl) rfl hl.1 rfl (lv_room (Nat.le_of_ble_eq_true rfl)) d_Decimal_addAt_73 ⟨Nat.zero_le _, Nat.zero_le _⟩ (fun u9 H locs h9 hP hD hS => ?_)
  cases h9
  have hP : va_P (dC, dI) classes (WS_Decimal_addAt h_this h_this_row c_this_row v4 v5 a3) H := hP.sub [0, 1] rfl
  have hD : va_D A (WS_Decimal_addAt h_this h_this_row c_this_row v4 v5 a3) := hD.sub [0, 1] (by decide) rfl
  exact W.vret hx hb hr (fun t ht9 hW => ⟨⟨(v4, v5, a3), rfl, h, by rw [ht9]; exact hP, va_K.moved hW.alike hK, hD⟩, hS.F ht9⟩) hS.2.2 d_Decimal_addAt_76 hlk
set_option maxHeartbeats 4000000 in
set_option maxRecDepth 100000 in
theorem s_Decimal_addAt_22b {p : Program} {l : Launch} {e : Env} {s : State} {m : MethodId} {args : Array Value} {below : List Frame} {meth : Method} {c : Code} {dC : Nat → ClassId} {dI : Nat → Nat → Nat} {A : Nat → Prop} {X : SXT} {h_this : Nat} {h_this_row : Nat} {c_this_row : ClassId} {res : Int32 × Int32 × (Nat → Int32)} {k22 : Int32 → Int32 → (Nat → Int32) → Int32 → Int32 → Int32 → Option (Int32 × Int32 × (Nat → Int32))} (cx : cxx p s m args meth c b_Decimal_addAt 6 none R_Decimal) (hK : va_K (dC, dI) classes [(c_this_row, .int)] s) (hA : ∀ q, s.heap.size ≤ q → A q) (hX : SX X A s s.heap) (hk22 : ∀ (v_first : Int32) (v_last : Int32) (a_row : (Nat → Int32)) (y3 : Int32) (y4 : Int32) (y5 : Int32) (H : Heap) (locs : List Loc) (ls : Array Slot), va_P (dC, dI) classes (WS_Decimal_addAt h_this h_this_row c_this_row v_first v_last a_row) H → va_D A (WS_Decimal_addAt h_this h_this_row c_this_row v_first v_last a_row) → va_S A s.heap H locs → lv_has ls 6 [(0, .ref h_this), (3, .int y3), (4, .int y4), (5, .int y5)] → k22 v_first v_last a_row y3 y4 y5 = some res → W p l e ({ frames := 2, cells := 0, slots := 0, locals := 41 }) s m args below meth c H locs 0 0 (MQ below (va_Qv (fun (u : Int32 × Int32 × (Nat → Int32)) => some u = some res) (gB (dC, dI) [(c_this_row, .int)] A (fun (u : Int32 × Int32 × (Nat → Int32)) => (WS_Decimal_addAt h_this h_this_row c_this_row u.1 u.2.1 u.2.2))) A) args s 0 0 A) (F0 m 22 ls [])) : ∀ (v_first : Int32) (v_last : Int32) (a_row : (Nat → Int32)) (y3 : Int32) (y4 : Int32) (y5 : Int32) (H : Heap) (locs : List Loc) (ls : Array Slot), va_P (dC, dI) classes (WS_Decimal_addAt h_this h_this_row c_this_row v_first v_last a_row) H → va_D A (WS_Decimal_addAt h_this h_this_row c_this_row v_first v_last a_row) → va_S A s.heap H locs → lv_has ls 6 [(0, .ref h_this), (3, .int y3), (4, .int y4), (5, .int y5)] → f_Decimal_addAt_22b k22 v_first v_last a_row y3 y4 y5 = some res → W p l e ({ frames := 2, cells := 0, slots := 0, locals := 41 }) s m args below meth c H locs 0 0 (MQ below (va_Qv (fun (u : Int32 × Int32 × (Nat → Int32)) => some u = some res) (gB (dC, dI) [(c_this_row, .int)] A (fun (u : Int32 × Int32 × (Nat → Int32)) => (WS_Decimal_addAt h_this h_this_row c_this_row u.1 u.2.1 u.2.2))) A) args s 0 0 A) (F0 m 22 ls []) := by
  intro v_first v_last a_row y3 y4 y5 H locs ls hP hD hS hl h
  obtain ⟨hx, hb, hr, hml, hown, ht, hlk⟩ := id cx
  refine lv_iload hx hb d_Decimal_addAt_22 (lv_at hl 3 rfl) ?_
  refine lv_sipush (v := 208) hx hb d_Decimal_addAt_24 (by decide) ?_
  refine lv_icmp_ge (tgt := 65) hx hb d_Decimal_addAt_27 (by decide) (fun c6 => ?_) (fun c6 => ?_)
  · have h := if_t c6 h
    exact s_Decimal_addAt_65 cx hK hA hX v_first v_last a_row y3 y4 H locs ls hP hD hS (lv_sub hl [0, 1, 2] rfl) h
  · have h := if_f c6 h
    refine lv_iload hx hb d_Decimal_addAt_30 (lv_at hl 2 rfl) ?_
    refine lv_ldc (v := 1000000000) hx hb hown (ht _ q_124) d_Decimal_addAt_32 ?_
    refine lv_icmp_lt (tgt := 65) hx hb d_Decimal_addAt_34 (by decide) (fun c7 => ?_) (fun c7 => ?_)
    · have h := if_t c7 h
      exact s_Decimal_addAt_65 cx hK hA hX v_first v_last a_row y3 y4 H locs ls hP hD hS (lv_sub hl [0, 1, 2] rfl) h
    · have h := if_f c7 h
      refine lv_aload_n hx hb d_Decimal_addAt_37 rfl (lv_at hl 0 rfl) ?_
      refine lv_iload_n hx hb d_Decimal_addAt_38 rfl (lv_at hl 1 rfl) ?_
      refine lv_iload hx hb d_Decimal_addAt_39 (lv_at hl 2 rfl) ?_
      refine lv_ldc (v := 1000000000) hx hb hown (ht _ q_124) d_Decimal_addAt_41 ?_
      refine lv_isub hx hb d_Decimal_addAt_43 ?_
      obtain ⟨v8, v9, a10, hf, h⟩ := bi3_x h
      refine clVv (D := (dC, dI)) (n := 2) (As := [.int y3, .int (y4 - (1000000000 : Int32))]) ⟨hx, hb, hml, hown, ht⟩ (c_Decimal_setLimb l dC dI X h_this h_this_row c_this_row H.size v_first v_last a_row y3 (y4 - (1000000000 : Int32)) (v8, v9, a10) hf) (gV q_110 q_111 q_112 q_113 q_114) (by decide +kernel) ⟨rfl, rfl, Nat.le_of_ble_eq_true rfl, Nat.le_of_ble_eq_true rfl⟩ hK hP hD hS hA hX [0, 1] [] [0] rfl (wr := []) rfl (by decide) (by decide) (by decide) rfl (va_recv hK hP (ci := 3) (q0 := 0) rfl rfl) rfl hl.1 rfl (lv_room (Nat.le_of_ble_eq_true rfl)) d_Decimal_addAt_44 ⟨Nat.zero_le _, Nat.zero_le _⟩ (fun u9 H locs h9 hP hD hS => ?_)
      cases h9
      have hP : va_P (dC, dI) classes (WS_Decimal_addAt h_this h_this_row c_this_row v8 v9 a10) H := hP.sub [0, 1] rfl
      have hD : va_D A (WS_Decimal_addAt h_this h_this_row c_this_row v8 v9 a10) := hD.sub [0, 1] (by decide) rfl
      obtain ⟨x11, e_x11⟩ : ∃ y : Int32, y = y3 + (-1 : Int32) := ⟨_, rfl⟩
      refine lv_iinc (v := x11) (lv' := [(3, .int x11), (0, .ref h_this), (4, .int y4), (5, .int y5)]) hx hb d_Decimal_addAt_47 hl (k := 1) rfl (by rw [e_x11]; rfl) (by decide) rfl (fun ls hl => ?_)
      have h := bd_g e_x11 h
      refine lv_aload_n hx hb d_Decimal_addAt_50 rfl (lv_at hl 1 rfl) ?_
      refine lv_iload_n hx hb d_Decimal_addAt_51 rfl (lv_at hl 0 rfl) ?_
      obtain ⟨r12, hf, h⟩ := bi1_x h
      refine clVi (D := (dC, dI)) (n := 1) (As := [.int x11]) ⟨hx, hb, hml, hown, ht⟩ (c_Decimal_limb l dC dI X h_this h_this_row c_this_row H.size v8 v9 a10 x11 r12 hf) (gV q_116 q_117 q_118 q_113 q_119) (by decide +kernel) ⟨rfl, rfl, Nat.le_of_ble_eq_true rfl, Nat.le_of_ble_eq_true rfl⟩ hK hP hD hS hA hX [0, 1] [] [0] rfl (wr := []) rfl (by decide) (by decide) (by decide) rfl (va_recv hK hP (ci := 3) (q0 := 0) rfl rfl) rfl hl.1 rfl (lv_room (Nat.le_of_ble_eq_true rfl)) d_Decimal_addAt_52 ⟨Nat.zero_le _, Nat.zero_le _⟩ (fun r9 u9 H locs h9 hP hD hS => ?_)
      cases h9
      have hP : va_P (dC, dI) classes (WS_Decimal_addAt h_this h_this_row c_this_row v8 v9 a10) H := hP.sub [0, 1] rfl
      have hD : va_D A (WS_Decimal_addAt h_this h_this_row c_this_row v8 v9 a10) := hD.sub [0, 1] (by decide) rfl
      refine lv_iconst (v := 1) hx hb d_Decimal_addAt_55 (by decide) ?_
      refine lv_iadd hx hb d_Decimal_addAt_56 ?_
      refine lv_topi (fun x13 e_x13 => ?_)
      have h := bd_g e_x13 h
      refine lv_istore (lv' := [(4, .int x13), (3, .int x11), (0, .ref h_this), (5, .int y5)]) hx hb d_Decimal_addAt_57 hl (by decide) rfl (fun ls hl => ?_)
      obtain ⟨x14, e_x14⟩ : ∃ y : Int32, y = y5 + (1 : Int32) := ⟨_, rfl⟩
      refine lv_iinc (v := x14) (lv' := [(5, .int x14), (4, .int x13), (3, .int x11), (0, .ref h_this)]) hx hb d_Decimal_addAt_59 hl (k := 3) rfl (by rw [e_x14]; rfl) (by decide) rfl (fun ls hl => ?_)
      have h := bd_g e_x14 h
      refine lv_goto (tgt := 22) hx hb d_Decimal_addAt_62 (by decide) ?_
      exact hk22 v8 v9 a10 x11 x13 x14 H locs ls hP hD hS (lv_sub hl [3, 2, 1, 0] rfl) h
set_option maxHeartbeats 4000000 in
set_option maxRecDepth 100000 in
theorem s_Decimal_addAt_22 {p : Program} {l : Launch} {e : Env} {s : State} {m : MethodId} {args : Array Value} {below : List Frame} {meth : Method} {c : Code} {dC : Nat → ClassId} {dI : Nat → Nat → Nat} {A : Nat → Prop} {X : SXT} {h_this : Nat} {h_this_row : Nat} {c_this_row : ClassId} {res : Int32 × Int32 × (Nat → Int32)}  (cx : cxx p s m args meth c b_Decimal_addAt 6 none R_Decimal) (hK : va_K (dC, dI) classes [(c_this_row, .int)] s) (hA : ∀ q, s.heap.size ≤ q → A q) (hX : SX X A s s.heap)  : ∀ n : Nat, ∀ (v_first : Int32) (v_last : Int32) (a_row : (Nat → Int32)) (y3 : Int32) (y4 : Int32) (y5 : Int32) (H : Heap) (locs : List Loc) (ls : Array Slot), va_P (dC, dI) classes (WS_Decimal_addAt h_this h_this_row c_this_row v_first v_last a_row) H → va_D A (WS_Decimal_addAt h_this h_this_row c_this_row v_first v_last a_row) → va_S A s.heap H locs → lv_has ls 6 [(0, .ref h_this), (3, .int y3), (4, .int y4), (5, .int y5)] → f_Decimal_addAt_22 n v_first v_last a_row y3 y4 y5 = some res → W p l e ({ frames := 2, cells := 0, slots := 0, locals := 41 }) s m args below meth c H locs 0 0 (MQ below (va_Qv (fun (u : Int32 × Int32 × (Nat → Int32)) => some u = some res) (gB (dC, dI) [(c_this_row, .int)] A (fun (u : Int32 × Int32 × (Nat → Int32)) => (WS_Decimal_addAt h_this h_this_row c_this_row u.1 u.2.1 u.2.2))) A) args s 0 0 A) (F0 m 22 ls []) := by
  intro n
  induction n with
  | zero =>
    intro v_first v_last a_row y3 y4 y5 H locs ls hP hD hS hl h
    have h9 : (none : Option (Int32 × Int32 × (Nat → Int32))) = some res := h
    cases h9
  | succ n ih =>
    intro v_first v_last a_row y3 y4 y5 H locs ls hP hD hS hl h
    exact s_Decimal_addAt_22b cx hK hA hX ih v_first v_last a_row y3 y4 y5 H locs ls hP hD hS hl h
set_option maxHeartbeats 4000000 in
set_option maxRecDepth 100000 in
theorem s_Decimal_addAt_e {p : Program} {l : Launch} {e : Env} {s : State} {m : MethodId} {args : Array Value} {below : List Frame} {meth : Method} {c : Code} {dC : Nat → ClassId} {dI : Nat → Nat → Nat} {A : Nat → Prop} {X : SXT} {h_this : Nat} {h_this_row : Nat} {c_this_row : ClassId} {res : Int32 × Int32 × (Nat → Int32)} (cx : cxx p s m args meth c b_Decimal_addAt 6 none R_Decimal) (hK : va_K (dC, dI) classes [(c_this_row, .int)] s) (hA : ∀ q, s.heap.size ≤ q → A q) (hX : SX X A s s.heap) : ∀ (v_first : Int32) (v_last : Int32) (a_row : (Nat → Int32)) (p1 : Int32) (p2 : Int32) (H : Heap) (locs : List Loc) (ls : Array Slot), va_P (dC, dI) classes (WS_Decimal_addAt h_this h_this_row c_this_row v_first v_last a_row) H → va_D A (WS_Decimal_addAt h_this h_this_row c_this_row v_first v_last a_row) → va_S A s.heap H locs → lv_has ls 6 [(0, .ref h_this), (1, .int p1), (2, .int p2)] → f_Decimal_addAt v_first v_last a_row p1 p2 = some res → W p l e ({ frames := 2, cells := 0, slots := 0, locals := 41 }) s m args below meth c H locs 0 0 (MQ below (va_Qv (fun (u : Int32 × Int32 × (Nat → Int32)) => some u = some res) (gB (dC, dI) [(c_this_row, .int)] A (fun (u : Int32 × Int32 × (Nat → Int32)) => (WS_Decimal_addAt h_this h_this_row c_this_row u.1 u.2.1 u.2.2))) A) args s 0 0 A) (F0 m 0 ls []) := by
  intro v_first v_last a_row p1 p2 H locs ls hP hD hS hl h
  obtain ⟨hx, hb, hr, hml, hown, ht, hlk⟩ := id cx
  refine lv_iload_n hx hb d_Decimal_addAt_0 rfl (lv_at hl 1 rfl) ?_
  obtain ⟨r15, hf, h⟩ := bi1_x h
  refine clSi (D := (dC, dI)) (n := 1) (As := [.int p1]) ⟨hx, hb, hml, hown, ht⟩ (c_Decimal_limbOf l dC dI X  H.size p1 r15 hf) (gS q_125 q_126 q_113 q_127) (by decide +kernel) ⟨rfl, rfl, Nat.le_of_ble_eq_true rfl, Nat.le_of_ble_eq_true rfl⟩ hK hP hD hS hA hX [] [0, 1] [] rfl (wr := [(h_this, .inr (3, [.ref h_this_row, .int v_first, .int v_last])), (h_this_row, .inl (c_this_row, 208, .inl a_row))]) rfl (by decide) (by decide) (by decide) rfl rfl hl.1 rfl (lv_room (Nat.le_of_ble_eq_true rfl)) d_Decimal_addAt_1 ⟨Nat.zero_le _, Nat.zero_le _⟩ (fun r9 u9 H locs h9 hP hD hS => ?_)
  cases h9
  have hP : va_P (dC, dI) classes (WS_Decimal_addAt h_this h_this_row c_this_row v_first v_last a_row) H := hP.sub [0, 1] rfl
  have hD : va_D A (WS_Decimal_addAt h_this h_this_row c_this_row v_first v_last a_row) := hD.sub [0, 1] (by decide) rfl
  refine lv_istore_n (lv' := [(3, .int r15), (0, .ref h_this), (1, .int p1), (2, .int p2)]) hx hb d_Decimal_addAt_4 rfl hl (by decide) rfl (fun ls hl => ?_)
  refine lv_aload_n hx hb d_Decimal_addAt_5 rfl (lv_at hl 1 rfl) ?_
  refine lv_iload_n hx hb d_Decimal_addAt_6 rfl (lv_at hl 0 rfl) ?_
  obtain ⟨r16, hf, h⟩ := bi1_x h
  refine clVi (D := (dC, dI)) (n := 1) (As := [.int r15]) ⟨hx, hb, hml, hown, ht⟩ (c_Decimal_limb l dC dI X h_this h_this_row c_this_row H.size v_first v_last a_row r15 r16 hf) (gV q_116 q_117 q_118 q_113 q_119) (by decide +kernel) ⟨rfl, rfl, Nat.le_of_ble_eq_true rfl, Nat.le_of_ble_eq_true rfl⟩ hK hP hD hS hA hX [0, 1] [] [0] rfl (wr := []) rfl (by decide) (by decide) (by decide) rfl (va_recv hK hP (ci := 3) (q0 := 0) rfl rfl) rfl hl.1 rfl (lv_room (Nat.le_of_ble_eq_true rfl)) d_Decimal_addAt_7 ⟨Nat.zero_le _, Nat.zero_le _⟩ (fun r9 u9 H locs h9 hP hD hS => ?_)
  cases h9
  have hP : va_P (dC, dI) classes (WS_Decimal_addAt h_this h_this_row c_this_row v_first v_last a_row) H := hP.sub [0, 1] rfl
  have hD : va_D A (WS_Decimal_addAt h_this h_this_row c_this_row v_first v_last a_row) := hD.sub [0, 1] (by decide) rfl
  refine lv_iload_n hx hb d_Decimal_addAt_10 rfl (lv_at hl 3 rfl) ?_
  refine lv_iload_n hx hb d_Decimal_addAt_11 rfl (lv_at hl 2 rfl) ?_
  obtain ⟨r17, hf, h⟩ := bi1_x h
  refine clSi (D := (dC, dI)) (n := 1) (As := [.int p1]) ⟨hx, hb, hml, hown, ht⟩ (c_Decimal_unitOf l dC dI X  H.size p1 r17 hf) (gS q_128 q_129 q_113 q_130) (by decide +kernel) ⟨rfl, rfl, Nat.le_of_ble_eq_true rfl, Nat.le_of_ble_eq_true rfl⟩ hK hP hD hS hA hX [] [0, 1] [] rfl (wr := [(h_this, .inr (3, [.ref h_this_row, .int v_first, .int v_last])), (h_this_row, .inl (c_this_row, 208, .inl a_row))]) rfl (by decide) (by decide) (by decide) rfl rfl hl.1 rfl (lv_room (Nat.le_of_ble_eq_true rfl)) d_Decimal_addAt_12 ⟨Nat.zero_le _, Nat.zero_le _⟩ (fun r9 u9 H locs h9 hP hD hS => ?_)
  cases h9
  have hP : va_P (dC, dI) classes (WS_Decimal_addAt h_this h_this_row c_this_row v_first v_last a_row) H := hP.sub [0, 1] rfl
  have hD : va_D A (WS_Decimal_addAt h_this h_this_row c_this_row v_first v_last a_row) := hD.sub [0, 1] (by decide) rfl
  refine lv_imul hx hb d_Decimal_addAt_15 ?_
  refine lv_iadd hx hb d_Decimal_addAt_16 ?_
  refine lv_topi (fun x18 e_x18 => ?_)
  have h := bd_g e_x18 h
  refine lv_istore (lv' := [(4, .int x18), (3, .int r15), (0, .ref h_this), (1, .int p1), (2, .int p2)]) hx hb d_Decimal_addAt_17 hl (by decide) rfl (fun ls hl => ?_)
  refine lv_iconst (v := 0) hx hb d_Decimal_addAt_19 (by decide) ?_
  refine lv_istore (lv' := [(5, .int (0 : Int32)), (4, .int x18), (3, .int r15), (0, .ref h_this), (1, .int p1), (2, .int p2)]) hx hb d_Decimal_addAt_20 hl (by decide) rfl (fun ls hl => ?_)
  exact s_Decimal_addAt_22 cx hK hA hX fu v_first v_last a_row r15 x18 (0 : Int32) H locs ls hP hD hS (lv_sub hl [3, 2, 1, 0] rfl) h
set_option maxHeartbeats 4000000 in
set_option maxRecDepth 100000 in
theorem c_Decimal_addAt (l : Launch) (dC : Nat → ClassId) (dI : Nat → Nat → Nat) (X : SXT) (h_this : Nat) (h_this_row : Nat) (c_this_row : ClassId) (sz : Nat) (v_first : Int32) (v_last : Int32) (a_row : (Nat → Int32)) (p1 : Int32) (p2 : Int32) (res : Int32 × Int32 × (Nat → Int32)) (hf : f_Decimal_addAt v_first v_last a_row p1 p2 = some res) : Met l y_Decimal_addAt (.code y_Decimal_addAt b_Decimal_addAt 6 none :: w0) ({ frames := 2, cells := 0, slots := 0, locals := 41 }) (va_Pc [.ref h_this, .int p1, .int p2] (gP (dC, dI) (WS_Decimal_addAt h_this h_this_row c_this_row v_first v_last a_row) [(c_this_row, .int)] sz X)) (va_Qv (fun (u : Int32 × Int32 × (Nat → Int32)) => some u = some res) (gB (dC, dI) [(c_this_row, .int)] (va_A (WS_Decimal_addAt h_this h_this_row c_this_row v_first v_last a_row) sz) (fun (u : Int32 × Int32 × (Nat → Int32)) => (WS_Decimal_addAt h_this h_this_row c_this_row u.1 u.2.1 u.2.2))) (va_A (WS_Decimal_addAt h_this h_this_row c_this_row v_first v_last a_row) sz)) 0 0 (va_A (WS_Decimal_addAt h_this h_this_row c_this_row v_first v_last a_row) sz) := by
  refine Met.ofW (cc := b_Decimal_addAt) (maxL := 6) (ret := none) (by decide) rfl ?_
  intro p e s m args below meth c s₁ B hml hv
  obtain ⟨rfl, hsz, hP, hK, hD0, hX⟩ := hv
  subst hsz
  have cx : cxx p s m ([.ref h_this, .int p1, .int p2] : List Value).toArray meth c b_Decimal_addAt 6 none R_Decimal := ⟨B.exec, B.bytes, B.returns, hml, findClass_of_methodNamed B.named, fun w9 hw => atoms_spec (ws := .code y_Decimal_addAt b_Decimal_addAt 6 none :: w0) B.pre w9 (List.mem_cons_of_mem _ hw), B.notSynchronized⟩
  have hD := hD0.self (sz := s.heap.size)
  generalize hAe : va_A (WS_Decimal_addAt h_this h_this_row c_this_row v_first v_last a_row) s.heap.size = A at hD hX ⊢
  have hA : ∀ q : Nat, s.heap.size ≤ q → A q := fun q h => by rw [← hAe]; exact Or.inr h
  have hS : va_S A s.heap s.heap [] := va_S.rf
  have hl := lv_entry ([.ref h_this, .int p1, .int p2]) (n := 6) (Nat.le_of_ble_eq_true rfl)
  rw [lg_entry_eq]
  generalize (lg_sl ([.ref h_this, .int p1, .int p2]) ++ List.replicate (6 - (lg_sl ([.ref h_this, .int p1, .int p2])).length) Slot.unset).toArray = ls at hl ⊢
  have hl : lv_has ls 6 [(0, .ref h_this), (1, .int p1), (2, .int p2)] := hl
  exact s_Decimal_addAt_e cx hK hA hX v_first v_last a_row p1 p2 s.heap [] ls hP hD hS hl hf
abbrev WS_Numeral_putDigits (h_this : Nat) (h_this_tape : Nat) (h_this_tape_row : Nat) (h_p1 : Nat) (h_p1_row : Nat) (c_this_tape_row : ClassId) (c_p1_row : ClassId) (v_next : Int32) (v_negative : Int32) (v_sixteen : Int32) (v_hasPoint : Int32) (v_hasPower : Int32) (v_from : Int32) (v_to : Int32) (v_before : Int32) (v_digits : Int32) (v_power : Int32) (v_found : Int64) (v_tape_length : Int32) (a_tape_row : (Nat → Int32)) (v_p1_first : Int32) (v_p1_last : Int32) (a_p1_row : (Nat → Int32)) : va_W := [(h_this, .inr (2, [.ref h_this_tape, .int v_next, .int v_negative, .int v_sixteen, .int v_hasPoint, .int v_hasPower, .int v_from, .int v_to, .int v_before, .int v_digits, .int v_power, .long v_found])), (h_this_tape, .inr (1, [.ref h_this_tape_row, .int v_tape_length])), (h_this_tape_row, .inl (c_this_tape_row, 1200, .inl a_tape_row)), (h_p1, .inr (3, [.ref h_p1_row, .int v_p1_first, .int v_p1_last])), (h_p1_row, .inl (c_p1_row, 208, .inl a_p1_row))]
def f_Numeral_putDigits_77 (k21 : Int32 → Int32 → Int32 → Int32 → Int32 → (Nat → Int32) → Int32 → Int32 → (Nat → Int32) → Int32 → Int32 → Option (Int32 × Int32 × Int32 × (Nat → Int32))) (v_from : Int32) (v_to : Int32) (v_before : Int32) (v_power : Int32) (v_tape_length : Int32) (a_tape_row : (Nat → Int32)) (v_p1_first : Int32) (v_p1_last : Int32) (a_p1_row : (Nat → Int32)) (y2 : Int32) (y3 : Int32) : Option (Int32 × Int32 × Int32 × (Nat → Int32)) :=
  bd (y3 + (1 : Int32)) fun x1 =>
  k21 v_from v_to v_before v_power v_tape_length a_tape_row v_p1_first v_p1_last a_p1_row y2 x1
def f_Numeral_putDigits_69 (k21 : Int32 → Int32 → Int32 → Int32 → Int32 → (Nat → Int32) → Int32 → Int32 → (Nat → Int32) → Int32 → Int32 → Option (Int32 × Int32 × Int32 × (Nat → Int32))) (v_from : Int32) (v_to : Int32) (v_before : Int32) (v_power : Int32) (v_tape_length : Int32) (a_tape_row : (Nat → Int32)) (v_p1_first : Int32) (v_p1_last : Int32) (a_p1_row : (Nat → Int32)) (y2 : Int32) (y3 : Int32) (y4 : Int32) : Option (Int32 × Int32 × Int32 × (Nat → Int32)) :=
  if y4 < 0 then
    f_Numeral_putDigits_77 k21 v_from v_to v_before v_power v_tape_length a_tape_row v_p1_first v_p1_last a_p1_row y2 y3
  else
    bd (y2 + (-1 : Int32)) fun x3 =>
    f_Numeral_putDigits_77 k21 v_from v_to v_before v_power v_tape_length a_tape_row v_p1_first v_p1_last a_p1_row x3 y3
def f_Numeral_putDigits_57 (k21 : Int32 → Int32 → Int32 → Int32 → Int32 → (Nat → Int32) → Int32 → Int32 → (Nat → Int32) → Int32 → Int32 → Option (Int32 × Int32 × Int32 × (Nat → Int32))) (v_from : Int32) (v_to : Int32) (v_before : Int32) (v_power : Int32) (v_tape_length : Int32) (a_tape_row : (Nat → Int32)) (v_p1_first : Int32) (v_p1_last : Int32) (a_p1_row : (Nat → Int32)) (y2 : Int32) (y3 : Int32) (y4 : Int32) : Option (Int32 × Int32 × Int32 × (Nat → Int32)) :=
  if y4 ≤ 0 then
    f_Numeral_putDigits_69 k21 v_from v_to v_before v_power v_tape_length a_tape_row v_p1_first v_p1_last a_p1_row y2 y3 y4
  else
    bi3 (f_Decimal_addAt v_p1_first v_p1_last a_p1_row y2 y4) fun v5 v6 a7 =>
    f_Numeral_putDigits_69 k21 v_from v_to v_before v_power v_tape_length a_tape_row v5 v6 a7 y2 y3 y4
def f_Numeral_putDigits_21b (k21 : Int32 → Int32 → Int32 → Int32 → Int32 → (Nat → Int32) → Int32 → Int32 → (Nat → Int32) → Int32 → Int32 → Option (Int32 × Int32 × Int32 × (Nat → Int32))) (v_from : Int32) (v_to : Int32) (v_before : Int32) (v_power : Int32) (v_tape_length : Int32) (a_tape_row : (Nat → Int32)) (v_p1_first : Int32) (v_p1_last : Int32) (a_p1_row : (Nat → Int32)) (y2 : Int32) (y3 : Int32) : Option (Int32 × Int32 × Int32 × (Nat → Int32)) :=
  if v_to ≤ y3 then
    some ((1 : Int32), v_p1_first, v_p1_last, a_p1_row)
  else
    bi1 (f_Tape_at v_tape_length a_tape_row y3) fun r9 =>
    bi1 (f_Numeral_digitOf r9 (0 : Int32)) fun r10 =>
    if r10 ≤ 0 then
      f_Numeral_putDigits_57 k21 v_from v_to v_before v_power v_tape_length a_tape_row v_p1_first v_p1_last a_p1_row y2 y3 r10
    else
      if y2 ≤ (309 : Int32) then
        f_Numeral_putDigits_57 k21 v_from v_to v_before v_power v_tape_length a_tape_row v_p1_first v_p1_last a_p1_row y2 y3 r10
      else
        some ((0 : Int32), v_p1_first, v_p1_last, a_p1_row)
def f_Numeral_putDigits_21 : Nat → Int32 → Int32 → Int32 → Int32 → Int32 → (Nat → Int32) → Int32 → Int32 → (Nat → Int32) → Int32 → Int32 → Option (Int32 × Int32 × Int32 × (Nat → Int32))
  | 0 => fun _ _ _ _ _ _ _ _ _ _ _ => none
  | n + 1 => fun v_from v_to v_before v_power v_tape_length a_tape_row v_p1_first v_p1_last a_p1_row y2 y3 => f_Numeral_putDigits_21b (f_Numeral_putDigits_21 n) v_from v_to v_before v_power v_tape_length a_tape_row v_p1_first v_p1_last a_p1_row y2 y3
def f_Numeral_putDigits (v_from : Int32) (v_to : Int32) (v_before : Int32) (v_power : Int32) (v_tape_length : Int32) (a_tape_row : (Nat → Int32)) (v_p1_first : Int32) (v_p1_last : Int32) (a_p1_row : (Nat → Int32)) : Option (Int32 × Int32 × Int32 × (Nat → Int32)) :=
  bd ((v_before - (1 : Int32)) + v_power) fun x13 =>
  bi3 (f_Decimal_clear v_p1_first v_p1_last a_p1_row) fun v14 v15 a16 =>
  f_Numeral_putDigits_21 fu v_from v_to v_before v_power v_tape_length a_tape_row v14 v15 a16 x13 v_from
set_option maxHeartbeats 4000000 in
set_option maxRecDepth 100000 in
theorem s_Numeral_putDigits_77 {p : Program} {l : Launch} {e : Env} {s : State} {m : MethodId} {args : Array Value} {below : List Frame} {meth : Method} {c : Code} {dC : Nat → ClassId} {dI : Nat → Nat → Nat} {A : Nat → Prop} {X : SXT} {h_this : Nat} {h_this_tape : Nat} {h_this_tape_row : Nat} {h_p1 : Nat} {h_p1_row : Nat} {c_this_tape_row : ClassId} {c_p1_row : ClassId} {v_next : Int32} {v_negative : Int32} {v_sixteen : Int32} {v_hasPoint : Int32} {v_hasPower : Int32} {v_digits : Int32} {v_found : Int64} {res : Int32 × Int32 × Int32 × (Nat → Int32)} {k21 : Int32 → Int32 → Int32 → Int32 → Int32 → (Nat → Int32) → Int32 → Int32 → (Nat → Int32) → Int32 → Int32 → Option (Int32 × Int32 × Int32 × (Nat → Int32))} (cx : cxx p s m args meth c b_Numeral_putDigits 5 (some .boolean) R_Numeral) (hK : va_K (dC, dI) classes [(c_this_tape_row, .byte), (c_p1_row, .int)] s) (hA : ∀ q, s.heap.size ≤ q → A q) (hX : SX X A s s.heap) (hk21 : ∀ (v_from : Int32) (v_to : Int32) (v_before : Int32) (v_power : Int32) (v_tape_length : Int32) (a_tape_row : (Nat → Int32)) (v_p1_first : Int32) (v_p1_last : Int32) (a_p1_row : (Nat → Int32)) (y2 : Int32) (y3 : Int32) (H : Heap) (locs : List Loc) (ls : Array Slot), va_P (dC, dI) classes (WS_Numeral_putDigits h_this h_this_tape h_this_tape_row h_p1 h_p1_row c_this_tape_row c_p1_row v_next v_negative v_sixteen v_hasPoint v_hasPower v_from v_to v_before v_digits v_power v_found v_tape_length a_tape_row v_p1_first v_p1_last a_p1_row) H → va_D A (WS_Numeral_putDigits h_this h_this_tape h_this_tape_row h_p1 h_p1_row c_this_tape_row c_p1_row v_next v_negative v_sixteen v_hasPoint v_hasPower v_from v_to v_before v_digits v_power v_found v_tape_length a_tape_row v_p1_first v_p1_last a_p1_row) → va_S A s.heap H locs → lv_has ls 5 [(0, .ref h_this), (1, .ref h_p1), (2, .int y2), (3, .int y3)] → k21 v_from v_to v_before v_power v_tape_length a_tape_row v_p1_first v_p1_last a_p1_row y2 y3 = some res → W p l e ({ frames := 3, cells := 0, slots := 0, locals := 66 }) s m args below meth c H locs 0 0 (MQ below (va_Qi (fun (r : Int32) (u : Int32 × Int32 × (Nat → Int32)) => some (r, u) = some res) (gB (dC, dI) [(c_this_tape_row, .byte), (c_p1_row, .int)] A (fun (u : Int32 × Int32 × (Nat → Int32)) => (WS_Numeral_putDigits h_this h_this_tape h_this_tape_row h_p1 h_p1_row c_this_tape_row c_p1_row v_next v_negative v_sixteen v_hasPoint v_hasPower v_from v_to v_before v_digits v_power v_found v_tape_length a_tape_row u.1 u.2.1 u.2.2))) A) args s 0 0 A) (F0 m 21 ls [])) : ∀ (v_from : Int32) (v_to : Int32) (v_before : Int32) (v_power : Int32) (v_tape_length : Int32) (a_tape_row : (Nat → Int32)) (v_p1_first : Int32) (v_p1_last : Int32) (a_p1_row : (Nat → Int32)) (y2 : Int32) (y3 : Int32) (H : Heap) (locs : List Loc) (ls : Array Slot), va_P (dC, dI) classes (WS_Numeral_putDigits h_this h_this_tape h_this_tape_row h_p1 h_p1_row c_this_tape_row c_p1_row v_next v_negative v_sixteen v_hasPoint v_hasPower v_from v_to v_before v_digits v_power v_found v_tape_length a_tape_row v_p1_first v_p1_last a_p1_row) H → va_D A (WS_Numeral_putDigits h_this h_this_tape h_this_tape_row h_p1 h_p1_row c_this_tape_row c_p1_row v_next v_negative v_sixteen v_hasPoint v_hasPower v_from v_to v_before v_digits v_power v_found v_tape_length a_tape_row v_p1_first v_p1_last a_p1_row) → va_S A s.heap H locs → lv_has ls 5 [(0, .ref h_this), (1, .ref h_p1), (2, .int y2), (3, .int y3)] → f_Numeral_putDigits_77 k21 v_from v_to v_before v_power v_tape_length a_tape_row v_p1_first v_p1_last a_p1_row y2 y3 = some res → W p l e ({ frames := 3, cells := 0, slots := 0, locals := 66 }) s m args below meth c H locs 0 0 (MQ below (va_Qi (fun (r : Int32) (u : Int32 × Int32 × (Nat → Int32)) => some (r, u) = some res) (gB (dC, dI) [(c_this_tape_row, .byte), (c_p1_row, .int)] A (fun (u : Int32 × Int32 × (Nat → Int32)) => (WS_Numeral_putDigits h_this h_this_tape h_this_tape_row h_p1 h_p1_row c_this_tape_row c_p1_row v_next v_negative v_sixteen v_hasPoint v_hasPower v_from v_to v_before v_digits v_power v_found v_tape_length a_tape_row u.1 u.2.1 u.2.2))) A) args s 0 0 A) (F0 m 77 ls []) := by
  intro v_from v_to v_before v_power v_tape_length a_tape_row v_p1_first v_p1_last a_p1_row y2 y3 H locs ls hP hD hS hl h
  obtain ⟨hx, hb, hr, hml, hown, ht, hlk⟩ := id cx
  obtain ⟨x1, e_x1⟩ : ∃ y : Int32, y = y3 + (1 : Int32) := ⟨_, rfl⟩
  refine lv_iinc (v := x1) (lv' := [(3, .int x1), (0, .ref h_this), (1, .ref h_p1), (2, .int y2)]) hx hb d_Numeral_putDigits_77 hl (k := 3) rfl (by rw [e_x1]; rfl) (by decide) rfl (fun ls hl => ?_)
  have h := bd_g e_x1 h
  refine lv_goto (tgt := 21) hx hb d_Numeral_putDigits_80 (by decide) ?_
  exact hk21 v_from v_to v_before v_power v_tape_length a_tape_row v_p1_first v_p1_last a_p1_row y2 x1 H locs ls hP hD hS (lv_sub hl [1, 2, 3, 0] rfl) h
set_option maxHeartbeats 4000000 in
set_option maxRecDepth 100000 in
theorem s_Numeral_putDigits_69 {p : Program} {l : Launch} {e : Env} {s : State} {m : MethodId} {args : Array Value} {below : List Frame} {meth : Method} {c : Code} {dC : Nat → ClassId} {dI : Nat → Nat → Nat} {A : Nat → Prop} {X : SXT} {h_this : Nat} {h_this_tape : Nat} {h_this_tape_row : Nat} {h_p1 : Nat} {h_p1_row : Nat} {c_this_tape_row : ClassId} {c_p1_row : ClassId} {v_next : Int32} {v_negative : Int32} {v_sixteen : Int32} {v_hasPoint : Int32} {v_hasPower : Int32} {v_digits : Int32} {v_found : Int64} {res : Int32 × Int32 × Int32 × (Nat → Int32)} {k21 : Int32 → Int32 → Int32 → Int32 → Int32 → (Nat → Int32) → Int32 → Int32 → (Nat → Int32) → Int32 → Int32 → Option (Int32 × Int32 × Int32 × (Nat → Int32))} (cx : cxx p s m args meth c b_Numeral_putDigits 5 (some .boolean) R_Numeral) (hK : va_K (dC, dI) classes [(c_this_tape_row, .byte), (c_p1_row, .int)] s) (hA : ∀ q, s.heap.size ≤ q → A q) (hX : SX X A s s.heap) (hk21 : ∀ (v_from : Int32) (v_to : Int32) (v_before : Int32) (v_power : Int32) (v_tape_length : Int32) (a_tape_row : (Nat → Int32)) (v_p1_first : Int32) (v_p1_last : Int32) (a_p1_row : (Nat → Int32)) (y2 : Int32) (y3 : Int32) (H : Heap) (locs : List Loc) (ls : Array Slot), va_P (dC, dI) classes (WS_Numeral_putDigits h_this h_this_tape h_this_tape_row h_p1 h_p1_row c_this_tape_row c_p1_row v_next v_negative v_sixteen v_hasPoint v_hasPower v_from v_to v_before v_digits v_power v_found v_tape_length a_tape_row v_p1_first v_p1_last a_p1_row) H → va_D A (WS_Numeral_putDigits h_this h_this_tape h_this_tape_row h_p1 h_p1_row c_this_tape_row c_p1_row v_next v_negative v_sixteen v_hasPoint v_hasPower v_from v_to v_before v_digits v_power v_found v_tape_length a_tape_row v_p1_first v_p1_last a_p1_row) → va_S A s.heap H locs → lv_has ls 5 [(0, .ref h_this), (1, .ref h_p1), (2, .int y2), (3, .int y3)] → k21 v_from v_to v_before v_power v_tape_length a_tape_row v_p1_first v_p1_last a_p1_row y2 y3 = some res → W p l e ({ frames := 3, cells := 0, slots := 0, locals := 66 }) s m args below meth c H locs 0 0 (MQ below (va_Qi (fun (r : Int32) (u : Int32 × Int32 × (Nat → Int32)) => some (r, u) = some res) (gB (dC, dI) [(c_this_tape_row, .byte), (c_p1_row, .int)] A (fun (u : Int32 × Int32 × (Nat → Int32)) => (WS_Numeral_putDigits h_this h_this_tape h_this_tape_row h_p1 h_p1_row c_this_tape_row c_p1_row v_next v_negative v_sixteen v_hasPoint v_hasPower v_from v_to v_before v_digits v_power v_found v_tape_length a_tape_row u.1 u.2.1 u.2.2))) A) args s 0 0 A) (F0 m 21 ls [])) : ∀ (v_from : Int32) (v_to : Int32) (v_before : Int32) (v_power : Int32) (v_tape_length : Int32) (a_tape_row : (Nat → Int32)) (v_p1_first : Int32) (v_p1_last : Int32) (a_p1_row : (Nat → Int32)) (y2 : Int32) (y3 : Int32) (y4 : Int32) (H : Heap) (locs : List Loc) (ls : Array Slot), va_P (dC, dI) classes (WS_Numeral_putDigits h_this h_this_tape h_this_tape_row h_p1 h_p1_row c_this_tape_row c_p1_row v_next v_negative v_sixteen v_hasPoint v_hasPower v_from v_to v_before v_digits v_power v_found v_tape_length a_tape_row v_p1_first v_p1_last a_p1_row) H → va_D A (WS_Numeral_putDigits h_this h_this_tape h_this_tape_row h_p1 h_p1_row c_this_tape_row c_p1_row v_next v_negative v_sixteen v_hasPoint v_hasPower v_from v_to v_before v_digits v_power v_found v_tape_length a_tape_row v_p1_first v_p1_last a_p1_row) → va_S A s.heap H locs → lv_has ls 5 [(0, .ref h_this), (1, .ref h_p1), (2, .int y2), (3, .int y3), (4, .int y4)] → f_Numeral_putDigits_69 k21 v_from v_to v_before v_power v_tape_length a_tape_row v_p1_first v_p1_last a_p1_row y2 y3 y4 = some res → W p l e ({ frames := 3, cells := 0, slots := 0, locals := 66 }) s m args below meth c H locs 0 0 (MQ below (va_Qi (fun (r : Int32) (u : Int32 × Int32 × (Nat → Int32)) => some (r, u) = some res) (gB (dC, dI) [(c_this_tape_row, .byte), (c_p1_row, .int)] A (fun (u : Int32 × Int32 × (Nat → Int32)) => (WS_Numeral_putDigits h_this h_this_tape h_this_tape_row h_p1 h_p1_row c_this_tape_row c_p1_row v_next v_negative v_sixteen v_hasPoint v_hasPower v_from v_to v_before v_digits v_power v_found v_tape_length a_tape_row u.1 u.2.1 u.2.2))) A) args s 0 0 A) (F0 m 69 ls []) := by
  intro v_from v_to v_before v_power v_tape_length a_tape_row v_p1_first v_p1_last a_p1_row y2 y3 y4 H locs ls hP hD hS hl h
  obtain ⟨hx, hb, hr, hml, hown, ht, hlk⟩ := id cx
  refine lv_iload hx hb d_Numeral_putDigits_69 (lv_at hl 4 rfl) ?_
  refine lv_if_lt (tgt := 77) hx hb d_Numeral_putDigits_71 (by decide) (fun c2 => ?_) (fun c2 => ?_)
  · have h := if_t c2 h
    exact s_Numeral_putDigits_77 cx hK hA hX hk21 v_from v_to v_before v_power v_tape_length a_tape_row v_p1_first v_p1_last a_p1_row y2 y3 H locs ls hP hD hS (lv_sub hl [0, 1, 2, 3] rfl) h
  · have h := if_f c2 h
    obtain ⟨x3, e_x3⟩ : ∃ y : Int32, y = y2 + (-1 : Int32) := ⟨_, rfl⟩
    refine lv_iinc (v := x3) (lv' := [(2, .int x3), (0, .ref h_this), (1, .ref h_p1), (3, .int y3), (4, .int y4)]) hx hb d_Numeral_putDigits_74 hl (k := 2) rfl (by rw [e_x3]; rfl) (by decide) rfl (fun ls hl => ?_)
    have h := bd_g e_x3 h
    exact s_Numeral_putDigits_77 cx hK hA hX hk21 v_from v_to v_before v_power v_tape_length a_tape_row v_p1_first v_p1_last a_p1_row x3 y3 H locs ls hP hD hS (lv_sub hl [1, 2, 0, 3] rfl) h
set_option maxHeartbeats 4000000 in
set_option maxRecDepth 100000 in
theorem s_Numeral_putDigits_57 {p : Program} {l : Launch} {e : Env} {s : State} {m : MethodId} {args : Array Value} {below : List Frame} {meth : Method} {c : Code} {dC : Nat → ClassId} {dI : Nat → Nat → Nat} {A : Nat → Prop} {X : SXT} {h_this : Nat} {h_this_tape : Nat} {h_this_tape_row : Nat} {h_p1 : Nat} {h_p1_row : Nat} {c_this_tape_row : ClassId} {c_p1_row : ClassId} {v_next : Int32} {v_negative : Int32} {v_sixteen : Int32} {v_hasPoint : Int32} {v_hasPower : Int32} {v_digits : Int32} {v_found : Int64} {res : Int32 × Int32 × Int32 × (Nat → Int32)} {k21 : Int32 → Int32 → Int32 → Int32 → Int32 → (Nat → Int32) → Int32 → Int32 → (Nat → Int32) → Int32 → Int32 → Option (Int32 × Int32 × Int32 × (Nat → Int32))} (cx : cxx p s m args meth c b_Numeral_putDigits 5 (some .boolean) R_Numeral) (hK : va_K (dC, dI) classes [(c_this_tape_row, .byte), (c_p1_row, .int)] s) (hA : ∀ q, s.heap.size ≤ q → A q) (hX : SX X A s s.heap) (hk21 : ∀ (v_from : Int32) (v_to : Int32) (v_before : Int32) (v_power : Int32) (v_tape_length : Int32) (a_tape_row : (Nat → Int32)) (v_p1_first : Int32) (v_p1_last : Int32) (a_p1_row : (Nat → Int32)) (y2 : Int32) (y3 : Int32) (H : Heap) (locs : List Loc) (ls : Array Slot), va_P (dC, dI) classes (WS_Numeral_putDigits h_this h_this_tape h_this_tape_row h_p1 h_p1_row c_this_tape_row c_p1_row v_next v_negative v_sixteen v_hasPoint v_hasPower v_from v_to v_before v_digits v_power v_found v_tape_length a_tape_row v_p1_first v_p1_last a_p1_row) H → va_D A (WS_Numeral_putDigits h_this h_this_tape h_this_tape_row h_p1 h_p1_row c_this_tape_row c_p1_row v_next v_negative v_sixteen v_hasPoint v_hasPower v_from v_to v_before v_digits v_power v_found v_tape_length a_tape_row v_p1_first v_p1_last a_p1_row) → va_S A s.heap H locs → lv_has ls 5 [(0, .ref h_this), (1, .ref h_p1), (2, .int y2), (3, .int y3)] → k21 v_from v_to v_before v_power v_tape_length a_tape_row v_p1_first v_p1_last a_p1_row y2 y3 = some res → W p l e ({ frames := 3, cells := 0, slots := 0, locals := 66 }) s m args below meth c H locs 0 0 (MQ below (va_Qi (fun (r : Int32) (u : Int32 × Int32 × (Nat → Int32)) => some (r, u) = some res) (gB (dC, dI) [(c_this_tape_row, .byte), (c_p1_row, .int)] A (fun (u : Int32 × Int32 × (Nat → Int32)) => (WS_Numeral_putDigits h_this h_this_tape h_this_tape_row h_p1 h_p1_row c_this_tape_row c_p1_row v_next v_negative v_sixteen v_hasPoint v_hasPower v_from v_to v_before v_digits v_power v_found v_tape_length a_tape_row u.1 u.2.1 u.2.2))) A) args s 0 0 A) (F0 m 21 ls [])) : ∀ (v_from : Int32) (v_to : Int32) (v_before : Int32) (v_power : Int32) (v_tape_length : Int32) (a_tape_row : (Nat → Int32)) (v_p1_first : Int32) (v_p1_last : Int32) (a_p1_row : (Nat → Int32)) (y2 : Int32) (y3 : Int32) (y4 : Int32) (H : Heap) (locs : List Loc) (ls : Array Slot), va_P (dC, dI) classes (WS_Numeral_putDigits h_this h_this_tape h_this_tape_row h_p1 h_p1_row c_this_tape_row c_p1_row v_next v_negative v_sixteen v_hasPoint v_hasPower v_from v_to v_before v_digits v_power v_found v_tape_length a_tape_row v_p1_first v_p1_last a_p1_row) H → va_D A (WS_Numeral_putDigits h_this h_this_tape h_this_tape_row h_p1 h_p1_row c_this_tape_row c_p1_row v_next v_negative v_sixteen v_hasPoint v_hasPower v_from v_to v_before v_digits v_power v_found v_tape_length a_tape_row v_p1_first v_p1_last a_p1_row) → va_S A s.heap H locs → lv_has ls 5 [(0, .ref h_this), (1, .ref h_p1), (2, .int y2), (3, .int y3), (4, .int y4)] → f_Numeral_putDigits_57 k21 v_from v_to v_before v_power v_tape_length a_tape_row v_p1_first v_p1_last a_p1_row y2 y3 y4 = some res → W p l e ({ frames := 3, cells := 0, slots := 0, locals := 66 }) s m args below meth c H locs 0 0 (MQ below (va_Qi (fun (r : Int32) (u : Int32 × Int32 × (Nat → Int32)) => some (r, u) = some res) (gB (dC, dI) [(c_this_tape_row, .byte), (c_p1_row, .int)] A (fun (u : Int32 × Int32 × (Nat → Int32)) => (WS_Numeral_putDigits h_this h_this_tape h_this_tape_row h_p1 h_p1_row c_this_tape_row c_p1_row v_next v_negative v_sixteen v_hasPoint v_hasPower v_from v_to v_before v_digits v_power v_found v_tape_length a_tape_row u.1 u.2.1 u.2.2))) A) args s 0 0 A) (F0 m 57 ls []) := by
  intro v_from v_to v_before v_power v_tape_length a_tape_row v_p1_first v_p1_last a_p1_row y2 y3 y4 H locs ls hP hD hS hl h
  obtain ⟨hx, hb, hr, hml, hown, ht, hlk⟩ := id cx
  refine lv_iload hx hb d_Numeral_putDigits_57 (lv_at hl 4 rfl) ?_
  refine lv_if_le (tgt := 69) hx hb d_Numeral_putDigits_59 (by decide) (fun c4 => ?_) (fun c4 => ?_)
  · have h := if_t c4 h
    exact s_Numeral_putDigits_69 cx hK hA hX hk21 v_from v_to v_before v_power v_tape_length a_tape_row v_p1_first v_p1_last a_p1_row y2 y3 y4 H locs ls hP hD hS (lv_sub hl [0, 1, 2, 3, 4] rfl) h
  · have h := if_f c4 h
    refine lv_aload_n hx hb d_Numeral_putDigits_62 rfl (lv_at hl 1 rfl) ?_
    refine lv_iload_n hx hb d_Numeral_putDigits_63 rfl (lv_at hl 2 rfl) ?_
    refine lv_iload hx hb d_Numeral_putDigits_64 (lv_at hl 4 rfl) ?_
    obtain ⟨v5, v6, a7, hf, h⟩ := bi3_x h
    refine clVv (D := (dC, dI)) (n := 2) (As := [.int y2, .int y4]) ⟨hx, hb, hml, hown, ht⟩ (c_Decimal_addAt l dC dI X h_p1 h_p1_row c_p1_row H.size v_p1_first v_p1_last a_p1_row y2 y4 (v5, v6, a7) hf) (gV q_131 q_132 q_133 q_113 q_134) (by decide +kernel) ⟨rfl, rfl, Nat.le_of_ble_eq_true rfl, Nat.le_of_ble_eq_true rfl⟩ hK hP hD hS hA hX [3, 4] [0, 1, 2] [1] rfl (wr := [(h_this, .inr (2, [.ref h_this_tape, .int v_next, .int v_negative, .int v_sixteen, .int v_hasPoint, .int v_hasPower, .int v_from, .int v_to, .int v_before, .int v_digits, .int v_power, .long v_found])), (h_this_tape, .inr (1, [.ref h_this_tape_row, .int v_tape_length])), (h_this_tape_row, .inl (c_this_tape_row, 1200, .inl a_tape_row))]) rfl (by decide) (by decide) (by decide) rfl (va_recv hK hP (ci := 3) (q0 := 3) rfl rfl) rfl hl.1 rfl (lv_room (Nat.le_of_ble_eq_true rfl)) d_Numeral_putDigits_66 ⟨Nat.zero_le _, Nat.zero_le _⟩ (fun u9 H locs h9 hP hD hS => ?_)
    cases h9
    have hP : va_P (dC, dI) classes (WS_Numeral_putDigits h_this h_this_tape h_this_tape_row h_p1 h_p1_row c_this_tape_row c_p1_row v_next v_negative v_sixteen v_hasPoint v_hasPower v_from v_to v_before v_digits v_power v_found v_tape_length a_tape_row v5 v6 a7) H := hP.sub [0, 1, 2, 3, 4] rfl
    have hD : va_D A (WS_Numeral_putDigits h_this h_this_tape h_this_tape_row h_p1 h_p1_row c_this_tape_row c_p1_row v_next v_negative v_sixteen v_hasPoint v_hasPower v_from v_to v_before v_digits v_power v_found v_tape_length a_tape_row v5 v6 a7) := hD.sub [0, 1, 2, 3, 4] (by decide) rfl
    exact s_Numeral_putDigits_69 cx hK hA hX hk21 v_from v_to v_before v_power v_tape_length a_tape_row v5 v6 a7 y2 y3 y4 H locs ls hP hD hS (lv_sub hl [0, 1, 2, 3, 4] rfl) h
set_option maxHeartbeats 4000000 in
set_option maxRecDepth 100000 in
theorem s_Numeral_putDigits_21b {p : Program} {l : Launch} {e : Env} {s : State} {m : MethodId} {args : Array Value} {below : List Frame} {meth : Method} {c : Code} {dC : Nat → ClassId} {dI : Nat → Nat → Nat} {A : Nat → Prop} {X : SXT} {h_this : Nat} {h_this_tape : Nat} {h_this_tape_row : Nat} {h_p1 : Nat} {h_p1_row : Nat} {c_this_tape_row : ClassId} {c_p1_row : ClassId} {v_next : Int32} {v_negative : Int32} {v_sixteen : Int32} {v_hasPoint : Int32} {v_hasPower : Int32} {v_digits : Int32} {v_found : Int64} {res : Int32 × Int32 × Int32 × (Nat → Int32)} {k21 : Int32 → Int32 → Int32 → Int32 → Int32 → (Nat → Int32) → Int32 → Int32 → (Nat → Int32) → Int32 → Int32 → Option (Int32 × Int32 × Int32 × (Nat → Int32))} (cx : cxx p s m args meth c b_Numeral_putDigits 5 (some .boolean) R_Numeral) (hK : va_K (dC, dI) classes [(c_this_tape_row, .byte), (c_p1_row, .int)] s) (hA : ∀ q, s.heap.size ≤ q → A q) (hX : SX X A s s.heap) (hk21 : ∀ (v_from : Int32) (v_to : Int32) (v_before : Int32) (v_power : Int32) (v_tape_length : Int32) (a_tape_row : (Nat → Int32)) (v_p1_first : Int32) (v_p1_last : Int32) (a_p1_row : (Nat → Int32)) (y2 : Int32) (y3 : Int32) (H : Heap) (locs : List Loc) (ls : Array Slot), va_P (dC, dI) classes (WS_Numeral_putDigits h_this h_this_tape h_this_tape_row h_p1 h_p1_row c_this_tape_row c_p1_row v_next v_negative v_sixteen v_hasPoint v_hasPower v_from v_to v_before v_digits v_power v_found v_tape_length a_tape_row v_p1_first v_p1_last a_p1_row) H → va_D A (WS_Numeral_putDigits h_this h_this_tape h_this_tape_row h_p1 h_p1_row c_this_tape_row c_p1_row v_next v_negative v_sixteen v_hasPoint v_hasPower v_from v_to v_before v_digits v_power v_found v_tape_length a_tape_row v_p1_first v_p1_last a_p1_row) → va_S A s.heap H locs → lv_has ls 5 [(0, .ref h_this), (1, .ref h_p1), (2, .int y2), (3, .int y3)] → k21 v_from v_to v_before v_power v_tape_length a_tape_row v_p1_first v_p1_last a_p1_row y2 y3 = some res → W p l e ({ frames := 3, cells := 0, slots := 0, locals := 66 }) s m args below meth c H locs 0 0 (MQ below (va_Qi (fun (r : Int32) (u : Int32 × Int32 × (Nat → Int32)) => some (r, u) = some res) (gB (dC, dI) [(c_this_tape_row, .byte), (c_p1_row, .int)] A (fun (u : Int32 × Int32 × (Nat → Int32)) => (WS_Numeral_putDigits h_this h_this_tape h_this_tape_row h_p1 h_p1_row c_this_tape_row c_p1_row v_next v_negative v_sixteen v_hasPoint v_hasPower v_from v_to v_before v_digits v_power v_found v_tape_length a_tape_row u.1 u.2.1 u.2.2))) A) args s 0 0 A) (F0 m 21 ls [])) : ∀ (v_from : Int32) (v_to : Int32) (v_before : Int32) (v_power : Int32) (v_tape_length : Int32) (a_tape_row : (Nat → Int32)) (v_p1_first : Int32) (v_p1_last : Int32) (a_p1_row : (Nat → Int32)) (y2 : Int32) (y3 : Int32) (H : Heap) (locs : List Loc) (ls : Array Slot), va_P (dC, dI) classes (WS_Numeral_putDigits h_this h_this_tape h_this_tape_row h_p1 h_p1_row c_this_tape_row c_p1_row v_next v_negative v_sixteen v_hasPoint v_hasPower v_from v_to v_before v_digits v_power v_found v_tape_length a_tape_row v_p1_first v_p1_last a_p1_row) H → va_D A (WS_Numeral_putDigits h_this h_this_tape h_this_tape_row h_p1 h_p1_row c_this_tape_row c_p1_row v_next v_negative v_sixteen v_hasPoint v_hasPower v_from v_to v_before v_digits v_power v_found v_tape_length a_tape_row v_p1_first v_p1_last a_p1_row) → va_S A s.heap H locs → lv_has ls 5 [(0, .ref h_this), (1, .ref h_p1), (2, .int y2), (3, .int y3)] → f_Numeral_putDigits_21b k21 v_from v_to v_before v_power v_tape_length a_tape_row v_p1_first v_p1_last a_p1_row y2 y3 = some res → W p l e ({ frames := 3, cells := 0, slots := 0, locals := 66 }) s m args below meth c H locs 0 0 (MQ below (va_Qi (fun (r : Int32) (u : Int32 × Int32 × (Nat → Int32)) => some (r, u) = some res) (gB (dC, dI) [(c_this_tape_row, .byte), (c_p1_row, .int)] A (fun (u : Int32 × Int32 × (Nat → Int32)) => (WS_Numeral_putDigits h_this h_this_tape h_this_tape_row h_p1 h_p1_row c_this_tape_row c_p1_row v_next v_negative v_sixteen v_hasPoint v_hasPower v_from v_to v_before v_digits v_power v_found v_tape_length a_tape_row u.1 u.2.1 u.2.2))) A) args s 0 0 A) (F0 m 21 ls []) := by
  intro v_from v_to v_before v_power v_tape_length a_tape_row v_p1_first v_p1_last a_p1_row y2 y3 H locs ls hP hD hS hl h
  obtain ⟨hx, hb, hr, hml, hown, ht, hlk⟩ := id cx
  refine lv_iload_n hx hb d_Numeral_putDigits_21 rfl (lv_at hl 3 rfl) ?_
  refine lv_aload_n hx hb d_Numeral_putDigits_22 rfl (lv_at hl 0 rfl) ?_
  refine va_get (D := (dC, dI)) (ci := 2) (v := .int v_to) (C := R_Numeral) (T := F_Numeral) (N := 12) hx hb ht i_Numeral hown hK hP 0 rfl rfl 7 (by decide) (ht _ q_28) (fun _ h9 => h9) rfl d_Numeral_putDigits_23 ?_
  refine lv_icmp_ge (tgt := 83) hx hb d_Numeral_putDigits_26 (by decide) (fun c8 => ?_) (fun c8 => ?_)
  · have h := if_t c8 h
    refine lv_iconst (v := 1) hx hb d_Numeral_putDigits_83 (by decide) ?_
    exact W.zret (v := (1 : Int32)) hx hb hr rfl (fun t ht9 hW => ⟨⟨(1 : Int32), (v_p1_first, v_p1_last, a_p1_row), rfl, h, by rw [ht9]; exact hP, va_K.moved hW.alike hK, hD⟩, hS.F ht9⟩) hS.2.2 d_Numeral_putDigits_84 hlk
  · have h := if_f c8 h
    refine lv_aload_n hx hb d_Numeral_putDigits_29 rfl (lv_at hl 0 rfl) ?_
    refine va_get (D := (dC, dI)) (ci := 2) (v := .ref h_this_tape) (C := R_Numeral) (T := F_Numeral) (N := 12) hx hb ht i_Numeral hown hK hP 0 rfl rfl 0 (by decide) (ht _ q_17) (fun _ h9 => h9) rfl d_Numeral_putDigits_30 ?_
    refine lv_iload_n hx hb d_Numeral_putDigits_33 rfl (lv_at hl 3 rfl) ?_
    obtain ⟨r9, hf, h⟩ := bi1_x h
    refine clVi (D := (dC, dI)) (n := 1) (As := [.int y3]) ⟨hx, hb, hml, hown, ht⟩ (c_Tape_at l dC dI X h_this_tape h_this_tape_row c_this_tape_row H.size v_tape_length a_tape_row y3 r9 hf) (gV q_18 q_19 q_20 q_6 q_21) (by decide +kernel) ⟨rfl, rfl, Nat.le_of_ble_eq_true rfl, Nat.le_of_ble_eq_true rfl⟩ hK hP hD hS hA hX [1, 2] [0, 3, 4] [0] rfl (wr := [(h_this, .inr (2, [.ref h_this_tape, .int v_next, .int v_negative, .int v_sixteen, .int v_hasPoint, .int v_hasPower, .int v_from, .int v_to, .int v_before, .int v_digits, .int v_power, .long v_found])), (h_p1, .inr (3, [.ref h_p1_row, .int v_p1_first, .int v_p1_last])), (h_p1_row, .inl (c_p1_row, 208, .inl a_p1_row))]) rfl (by decide) (by decide) (by decide) rfl (va_recv hK hP (ci := 1) (q0 := 1) rfl rfl) rfl hl.1 rfl (lv_room (Nat.le_of_ble_eq_true rfl)) d_Numeral_putDigits_34 ⟨Nat.zero_le _, Nat.zero_le _⟩ (fun r9 u9 H locs h9 hP hD hS => ?_)
    cases h9
    have hP : va_P (dC, dI) classes (WS_Numeral_putDigits h_this h_this_tape h_this_tape_row h_p1 h_p1_row c_this_tape_row c_p1_row v_next v_negative v_sixteen v_hasPoint v_hasPower v_from v_to v_before v_digits v_power v_found v_tape_length a_tape_row v_p1_first v_p1_last a_p1_row) H := hP.sub [0, 3, 4, 1, 2] rfl
    have hD : va_D A (WS_Numeral_putDigits h_this h_this_tape h_this_tape_row h_p1 h_p1_row c_this_tape_row c_p1_row v_next v_negative v_sixteen v_hasPoint v_hasPower v_from v_to v_before v_digits v_power v_found v_tape_length a_tape_row v_p1_first v_p1_last a_p1_row) := hD.sub [0, 3, 4, 1, 2] (by decide) rfl
    refine lv_iconst (v := 0) hx hb d_Numeral_putDigits_37 (by decide) ?_
    obtain ⟨r10, hf, h⟩ := bi1_x h
    refine clSi (D := (dC, dI)) (n := 2) (As := [.int r9, .int (0 : Int32)]) ⟨hx, hb, hml, hown, ht⟩ (c_Numeral_digitOf l dC dI X  H.size r9 (0 : Int32) r10 hf) (gS q_30 q_31 q_24 q_32) (by decide +kernel) ⟨rfl, rfl, Nat.le_of_ble_eq_true rfl, Nat.le_of_ble_eq_true rfl⟩ hK hP hD hS hA hX [] [0, 1, 2, 3, 4] [] rfl (wr := [(h_this, .inr (2, [.ref h_this_tape, .int v_next, .int v_negative, .int v_sixteen, .int v_hasPoint, .int v_hasPower, .int v_from, .int v_to, .int v_before, .int v_digits, .int v_power, .long v_found])), (h_this_tape, .inr (1, [.ref h_this_tape_row, .int v_tape_length])), (h_this_tape_row, .inl (c_this_tape_row, 1200, .inl a_tape_row)), (h_p1, .inr (3, [.ref h_p1_row, .int v_p1_first, .int v_p1_last])), (h_p1_row, .inl (c_p1_row, 208, .inl a_p1_row))]) rfl (by decide) (by decide) (by decide) rfl rfl hl.1 rfl (lv_room (Nat.le_of_ble_eq_true rfl)) d_Numeral_putDigits_38 ⟨Nat.zero_le _, Nat.zero_le _⟩ (fun r9 u9 H locs h9 hP hD hS => ?_)
    cases h9
    have hP : va_P (dC, dI) classes (WS_Numeral_putDigits h_this h_this_tape h_this_tape_row h_p1 h_p1_row c_this_tape_row c_p1_row v_next v_negative v_sixteen v_hasPoint v_hasPower v_from v_to v_before v_digits v_power v_found v_tape_length a_tape_row v_p1_first v_p1_last a_p1_row) H := hP.sub [0, 1, 2, 3, 4] rfl
    have hD : va_D A (WS_Numeral_putDigits h_this h_this_tape h_this_tape_row h_p1 h_p1_row c_this_tape_row c_p1_row v_next v_negative v_sixteen v_hasPoint v_hasPower v_from v_to v_before v_digits v_power v_found v_tape_length a_tape_row v_p1_first v_p1_last a_p1_row) := hD.sub [0, 1, 2, 3, 4] (by decide) rfl
    refine lv_istore (lv' := [(4, .int r10), (0, .ref h_this), (1, .ref h_p1), (2, .int y2), (3, .int y3)]) hx hb d_Numeral_putDigits_41 hl (by decide) rfl (fun ls hl => ?_)
    refine lv_iload hx hb d_Numeral_putDigits_43 (lv_at hl 0 rfl) ?_
    refine lv_if_le (tgt := 57) hx hb d_Numeral_putDigits_45 (by decide) (fun c11 => ?_) (fun c11 => ?_)
    · have h := if_t c11 h
      exact s_Numeral_putDigits_57 cx hK hA hX hk21 v_from v_to v_before v_power v_tape_length a_tape_row v_p1_first v_p1_last a_p1_row y2 y3 r10 H locs ls hP hD hS (lv_sub hl [1, 2, 3, 4, 0] rfl) h
    · have h := if_f c11 h
      refine lv_iload_n hx hb d_Numeral_putDigits_48 rfl (lv_at hl 3 rfl) ?_
      refine lv_sipush (v := 309) hx hb d_Numeral_putDigits_49 (by decide) ?_
      refine lv_icmp_le (tgt := 57) hx hb d_Numeral_putDigits_52 (by decide) (fun c12 => ?_) (fun c12 => ?_)
      · have h := if_t c12 h
        exact s_Numeral_putDigits_57 cx hK hA hX hk21 v_from v_to v_before v_power v_tape_length a_tape_row v_p1_first v_p1_last a_p1_row y2 y3 r10 H locs ls hP hD hS (lv_sub hl [1, 2, 3, 4, 0] rfl) h
      · have h := if_f c12 h
        refine lv_iconst (v := 0) hx hb d_Numeral_putDigits_55 (by decide) ?_
        exact W.zret (v := (0 : Int32)) hx hb hr rfl (fun t ht9 hW => ⟨⟨(0 : Int32), (v_p1_first, v_p1_last, a_p1_row), rfl, h, by rw [ht9]; exact hP, va_K.moved hW.alike hK, hD⟩, hS.F ht9⟩) hS.2.2 d_Numeral_putDigits_56 hlk
set_option maxHeartbeats 4000000 in
set_option maxRecDepth 100000 in
theorem s_Numeral_putDigits_21 {p : Program} {l : Launch} {e : Env} {s : State} {m : MethodId} {args : Array Value} {below : List Frame} {meth : Method} {c : Code} {dC : Nat → ClassId} {dI : Nat → Nat → Nat} {A : Nat → Prop} {X : SXT} {h_this : Nat} {h_this_tape : Nat} {h_this_tape_row : Nat} {h_p1 : Nat} {h_p1_row : Nat} {c_this_tape_row : ClassId} {c_p1_row : ClassId} {v_next : Int32} {v_negative : Int32} {v_sixteen : Int32} {v_hasPoint : Int32} {v_hasPower : Int32} {v_digits : Int32} {v_found : Int64} {res : Int32 × Int32 × Int32 × (Nat → Int32)}  (cx : cxx p s m args meth c b_Numeral_putDigits 5 (some .boolean) R_Numeral) (hK : va_K (dC, dI) classes [(c_this_tape_row, .byte), (c_p1_row, .int)] s) (hA : ∀ q, s.heap.size ≤ q → A q) (hX : SX X A s s.heap)  : ∀ n : Nat, ∀ (v_from : Int32) (v_to : Int32) (v_before : Int32) (v_power : Int32) (v_tape_length : Int32) (a_tape_row : (Nat → Int32)) (v_p1_first : Int32) (v_p1_last : Int32) (a_p1_row : (Nat → Int32)) (y2 : Int32) (y3 : Int32) (H : Heap) (locs : List Loc) (ls : Array Slot), va_P (dC, dI) classes (WS_Numeral_putDigits h_this h_this_tape h_this_tape_row h_p1 h_p1_row c_this_tape_row c_p1_row v_next v_negative v_sixteen v_hasPoint v_hasPower v_from v_to v_before v_digits v_power v_found v_tape_length a_tape_row v_p1_first v_p1_last a_p1_row) H → va_D A (WS_Numeral_putDigits h_this h_this_tape h_this_tape_row h_p1 h_p1_row c_this_tape_row c_p1_row v_next v_negative v_sixteen v_hasPoint v_hasPower v_from v_to v_before v_digits v_power v_found v_tape_length a_tape_row v_p1_first v_p1_last a_p1_row) → va_S A s.heap H locs → lv_has ls 5 [(0, .ref h_this), (1, .ref h_p1), (2, .int y2), (3, .int y3)] → f_Numeral_putDigits_21 n v_from v_to v_before v_power v_tape_length a_tape_row v_p1_first v_p1_last a_p1_row y2 y3 = some res → W p l e ({ frames := 3, cells := 0, slots := 0, locals := 66 }) s m args below meth c H locs 0 0 (MQ below (va_Qi (fun (r : Int32) (u : Int32 × Int32 × (Nat → Int32)) => some (r, u) = some res) (gB (dC, dI) [(c_this_tape_row, .byte), (c_p1_row, .int)] A (fun (u : Int32 × Int32 × (Nat → Int32)) => (WS_Numeral_putDigits h_this h_this_tape h_this_tape_row h_p1 h_p1_row c_this_tape_row c_p1_row v_next v_negative v_sixteen v_hasPoint v_hasPower v_from v_to v_before v_digits v_power v_found v_tape_length a_tape_row u.1 u.2.1 u.2.2))) A) args s 0 0 A) (F0 m 21 ls []) := by
  intro n
  induction n with
  | zero =>
    intro v_from v_to v_before v_power v_tape_length a_tape_row v_p1_first v_p1_last a_p1_row y2 y3 H locs ls hP hD hS hl h
    have h9 : (none : Option (Int32 × Int32 × Int32 × (Nat → Int32))) = some res := h
    cases h9
  | succ n ih =>
    intro v_from v_to v_before v_power v_tape_length a_tape_row v_p1_first v_p1_last a_p1_row y2 y3 H locs ls hP hD hS hl h
    exact s_Numeral_putDigits_21b cx hK hA hX ih v_from v_to v_before v_power v_tape_length a_tape_row v_p1_first v_p1_last a_p1_row y2 y3 H locs ls hP hD hS hl h
set_option maxHeartbeats 4000000 in
set_option maxRecDepth 100000 in
theorem s_Numeral_putDigits_e {p : Program} {l : Launch} {e : Env} {s : State} {m : MethodId} {args : Array Value} {below : List Frame} {meth : Method} {c : Code} {dC : Nat → ClassId} {dI : Nat → Nat → Nat} {A : Nat → Prop} {X : SXT} {h_this : Nat} {h_this_tape : Nat} {h_this_tape_row : Nat} {h_p1 : Nat} {h_p1_row : Nat} {c_this_tape_row : ClassId} {c_p1_row : ClassId} {v_next : Int32} {v_negative : Int32} {v_sixteen : Int32} {v_hasPoint : Int32} {v_hasPower : Int32} {v_digits : Int32} {v_found : Int64} {res : Int32 × Int32 × Int32 × (Nat → Int32)} (cx : cxx p s m args meth c b_Numeral_putDigits 5 (some .boolean) R_Numeral) (hK : va_K (dC, dI) classes [(c_this_tape_row, .byte), (c_p1_row, .int)] s) (hA : ∀ q, s.heap.size ≤ q → A q) (hX : SX X A s s.heap) : ∀ (v_from : Int32) (v_to : Int32) (v_before : Int32) (v_power : Int32) (v_tape_length : Int32) (a_tape_row : (Nat → Int32)) (v_p1_first : Int32) (v_p1_last : Int32) (a_p1_row : (Nat → Int32)) (H : Heap) (locs : List Loc) (ls : Array Slot), va_P (dC, dI) classes (WS_Numeral_putDigits h_this h_this_tape h_this_tape_row h_p1 h_p1_row c_this_tape_row c_p1_row v_next v_negative v_sixteen v_hasPoint v_hasPower v_from v_to v_before v_digits v_power v_found v_tape_length a_tape_row v_p1_first v_p1_last a_p1_row) H → va_D A (WS_Numeral_putDigits h_this h_this_tape h_this_tape_row h_p1 h_p1_row c_this_tape_row c_p1_row v_next v_negative v_sixteen v_hasPoint v_hasPower v_from v_to v_before v_digits v_power v_found v_tape_length a_tape_row v_p1_first v_p1_last a_p1_row) → va_S A s.heap H locs → lv_has ls 5 [(0, .ref h_this), (1, .ref h_p1)] → f_Numeral_putDigits v_from v_to v_before v_power v_tape_length a_tape_row v_p1_first v_p1_last a_p1_row = some res → W p l e ({ frames := 3, cells := 0, slots := 0, locals := 66 }) s m args below meth c H locs 0 0 (MQ below (va_Qi (fun (r : Int32) (u : Int32 × Int32 × (Nat → Int32)) => some (r, u) = some res) (gB (dC, dI) [(c_this_tape_row, .byte), (c_p1_row, .int)] A (fun (u : Int32 × Int32 × (Nat → Int32)) => (WS_Numeral_putDigits h_this h_this_tape h_this_tape_row h_p1 h_p1_row c_this_tape_row c_p1_row v_next v_negative v_sixteen v_hasPoint v_hasPower v_from v_to v_before v_digits v_power v_found v_tape_length a_tape_row u.1 u.2.1 u.2.2))) A) args s 0 0 A) (F0 m 0 ls []) := by
  intro v_from v_to v_before v_power v_tape_length a_tape_row v_p1_first v_p1_last a_p1_row H locs ls hP hD hS hl h
  obtain ⟨hx, hb, hr, hml, hown, ht, hlk⟩ := id cx
  refine lv_aload_n hx hb d_Numeral_putDigits_0 rfl (lv_at hl 0 rfl) ?_
  refine va_get (D := (dC, dI)) (ci := 2) (v := .int v_before) (C := R_Numeral) (T := F_Numeral) (N := 12) hx hb ht i_Numeral hown hK hP 0 rfl rfl 8 (by decide) (ht _ q_29) (fun _ h9 => h9) rfl d_Numeral_putDigits_1 ?_
  refine lv_iconst (v := 1) hx hb d_Numeral_putDigits_4 (by decide) ?_
  refine lv_isub hx hb d_Numeral_putDigits_5 ?_
  refine lv_aload_n hx hb d_Numeral_putDigits_6 rfl (lv_at hl 0 rfl) ?_
  refine va_get (D := (dC, dI)) (ci := 2) (v := .int v_power) (C := R_Numeral) (T := F_Numeral) (N := 12) hx hb ht i_Numeral hown hK hP 0 rfl rfl 10 (by decide) (ht _ q_36) (fun _ h9 => h9) rfl d_Numeral_putDigits_7 ?_
  refine lv_iadd hx hb d_Numeral_putDigits_10 ?_
  refine lv_topi (fun x13 e_x13 => ?_)
  have h := bd_g e_x13 h
  refine lv_istore_n (lv' := [(2, .int x13), (0, .ref h_this), (1, .ref h_p1)]) hx hb d_Numeral_putDigits_11 rfl hl (by decide) rfl (fun ls hl => ?_)
  refine lv_aload_n hx hb d_Numeral_putDigits_12 rfl (lv_at hl 2 rfl) ?_
  obtain ⟨v14, v15, a16, hf, h⟩ := bi3_x h
  refine clVv (D := (dC, dI)) (n := 0) (As := []) ⟨hx, hb, hml, hown, ht⟩ (c_Decimal_clear l dC dI X h_p1 h_p1_row c_p1_row H.size v_p1_first v_p1_last a_p1_row (v14, v15, a16) hf) (gV q_135 q_136 q_137 q_113 q_138) (by decide +kernel) ⟨rfl, rfl, Nat.le_of_ble_eq_true rfl, Nat.le_of_ble_eq_true rfl⟩ hK hP hD hS hA hX [3, 4] [0, 1, 2] [1] rfl (wr := [(h_this, .inr (2, [.ref h_this_tape, .int v_next, .int v_negative, .int v_sixteen, .int v_hasPoint, .int v_hasPower, .int v_from, .int v_to, .int v_before, .int v_digits, .int v_power, .long v_found])), (h_this_tape, .inr (1, [.ref h_this_tape_row, .int v_tape_length])), (h_this_tape_row, .inl (c_this_tape_row, 1200, .inl a_tape_row))]) rfl (by decide) (by decide) (by decide) rfl (va_recv hK hP (ci := 3) (q0 := 3) rfl rfl) rfl hl.1 rfl (lv_room (Nat.le_of_ble_eq_true rfl)) d_Numeral_putDigits_13 ⟨Nat.zero_le _, Nat.zero_le _⟩ (fun u9 H locs h9 hP hD hS => ?_)
  cases h9
  have hP : va_P (dC, dI) classes (WS_Numeral_putDigits h_this h_this_tape h_this_tape_row h_p1 h_p1_row c_this_tape_row c_p1_row v_next v_negative v_sixteen v_hasPoint v_hasPower v_from v_to v_before v_digits v_power v_found v_tape_length a_tape_row v14 v15 a16) H := hP.sub [0, 1, 2, 3, 4] rfl
  have hD : va_D A (WS_Numeral_putDigits h_this h_this_tape h_this_tape_row h_p1 h_p1_row c_this_tape_row c_p1_row v_next v_negative v_sixteen v_hasPoint v_hasPower v_from v_to v_before v_digits v_power v_found v_tape_length a_tape_row v14 v15 a16) := hD.sub [0, 1, 2, 3, 4] (by decide) rfl
  refine lv_aload_n hx hb d_Numeral_putDigits_16 rfl (lv_at hl 1 rfl) ?_
  refine va_get (D := (dC, dI)) (ci := 2) (v := .int v_from) (C := R_Numeral) (T := F_Numeral) (N := 12) hx hb ht i_Numeral hown hK hP 0 rfl rfl 6 (by decide) (ht _ q_35) (fun _ h9 => h9) rfl d_Numeral_putDigits_17 ?_
  refine lv_istore_n (lv' := [(3, .int v_from), (2, .int x13), (0, .ref h_this), (1, .ref h_p1)]) hx hb d_Numeral_putDigits_20 rfl hl (by decide) rfl (fun ls hl => ?_)
  exact s_Numeral_putDigits_21 cx hK hA hX fu v_from v_to v_before v_power v_tape_length a_tape_row v14 v15 a16 x13 v_from H locs ls hP hD hS (lv_sub hl [2, 3, 1, 0] rfl) h
set_option maxHeartbeats 4000000 in
set_option maxRecDepth 100000 in
theorem c_Numeral_putDigits (l : Launch) (dC : Nat → ClassId) (dI : Nat → Nat → Nat) (X : SXT) (h_this : Nat) (h_this_tape : Nat) (h_this_tape_row : Nat) (h_p1 : Nat) (h_p1_row : Nat) (c_this_tape_row : ClassId) (c_p1_row : ClassId) (sz : Nat) (v_next : Int32) (v_negative : Int32) (v_sixteen : Int32) (v_hasPoint : Int32) (v_hasPower : Int32) (v_from : Int32) (v_to : Int32) (v_before : Int32) (v_digits : Int32) (v_power : Int32) (v_found : Int64) (v_tape_length : Int32) (a_tape_row : (Nat → Int32)) (v_p1_first : Int32) (v_p1_last : Int32) (a_p1_row : (Nat → Int32)) (res : Int32 × Int32 × Int32 × (Nat → Int32)) (hf : f_Numeral_putDigits v_from v_to v_before v_power v_tape_length a_tape_row v_p1_first v_p1_last a_p1_row = some res) : Met l y_Numeral_putDigits (.code y_Numeral_putDigits b_Numeral_putDigits 5 (some .boolean) :: w0) ({ frames := 3, cells := 0, slots := 0, locals := 66 }) (va_Pc [.ref h_this, .ref h_p1] (gP (dC, dI) (WS_Numeral_putDigits h_this h_this_tape h_this_tape_row h_p1 h_p1_row c_this_tape_row c_p1_row v_next v_negative v_sixteen v_hasPoint v_hasPower v_from v_to v_before v_digits v_power v_found v_tape_length a_tape_row v_p1_first v_p1_last a_p1_row) [(c_this_tape_row, .byte), (c_p1_row, .int)] sz X)) (va_Qi (fun (r : Int32) (u : Int32 × Int32 × (Nat → Int32)) => some (r, u) = some res) (gB (dC, dI) [(c_this_tape_row, .byte), (c_p1_row, .int)] (va_A (WS_Numeral_putDigits h_this h_this_tape h_this_tape_row h_p1 h_p1_row c_this_tape_row c_p1_row v_next v_negative v_sixteen v_hasPoint v_hasPower v_from v_to v_before v_digits v_power v_found v_tape_length a_tape_row v_p1_first v_p1_last a_p1_row) sz) (fun (u : Int32 × Int32 × (Nat → Int32)) => (WS_Numeral_putDigits h_this h_this_tape h_this_tape_row h_p1 h_p1_row c_this_tape_row c_p1_row v_next v_negative v_sixteen v_hasPoint v_hasPower v_from v_to v_before v_digits v_power v_found v_tape_length a_tape_row u.1 u.2.1 u.2.2))) (va_A (WS_Numeral_putDigits h_this h_this_tape h_this_tape_row h_p1 h_p1_row c_this_tape_row c_p1_row v_next v_negative v_sixteen v_hasPoint v_hasPower v_from v_to v_before v_digits v_power v_found v_tape_length a_tape_row v_p1_first v_p1_last a_p1_row) sz)) 0 0 (va_A (WS_Numeral_putDigits h_this h_this_tape h_this_tape_row h_p1 h_p1_row c_this_tape_row c_p1_row v_next v_negative v_sixteen v_hasPoint v_hasPower v_from v_to v_before v_digits v_power v_found v_tape_length a_tape_row v_p1_first v_p1_last a_p1_row) sz) := by
  refine Met.ofW (cc := b_Numeral_putDigits) (maxL := 5) (ret := (some .boolean)) (by decide) rfl ?_
  intro p e s m args below meth c s₁ B hml hv
  obtain ⟨rfl, hsz, hP, hK, hD0, hX⟩ := hv
  subst hsz
  have cx : cxx p s m ([.ref h_this, .ref h_p1] : List Value).toArray meth c b_Numeral_putDigits 5 (some .boolean) R_Numeral := ⟨B.exec, B.bytes, B.returns, hml, findClass_of_methodNamed B.named, fun w9 hw => atoms_spec (ws := .code y_Numeral_putDigits b_Numeral_putDigits 5 (some .boolean) :: w0) B.pre w9 (List.mem_cons_of_mem _ hw), B.notSynchronized⟩
  have hD := hD0.self (sz := s.heap.size)
  generalize hAe : va_A (WS_Numeral_putDigits h_this h_this_tape h_this_tape_row h_p1 h_p1_row c_this_tape_row c_p1_row v_next v_negative v_sixteen v_hasPoint v_hasPower v_from v_to v_before v_digits v_power v_found v_tape_length a_tape_row v_p1_first v_p1_last a_p1_row) s.heap.size = A at hD hX ⊢
  have hA : ∀ q : Nat, s.heap.size ≤ q → A q := fun q h => by rw [← hAe]; exact Or.inr h
  have hS : va_S A s.heap s.heap [] := va_S.rf
  have hl := lv_entry ([.ref h_this, .ref h_p1]) (n := 5) (Nat.le_of_ble_eq_true rfl)
  rw [lg_entry_eq]
  generalize (lg_sl ([.ref h_this, .ref h_p1]) ++ List.replicate (5 - (lg_sl ([.ref h_this, .ref h_p1])).length) Slot.unset).toArray = ls at hl ⊢
  have hl : lv_has ls 5 [(0, .ref h_this), (1, .ref h_p1)] := hl
  exact s_Numeral_putDigits_e cx hK hA hX v_from v_to v_before v_power v_tape_length a_tape_row v_p1_first v_p1_last a_p1_row s.heap [] ls hP hD hS hl hf
abbrev WS_Decimal_divide (h_this : Nat) (h_this_row : Nat) (c_this_row : ClassId) (v_first : Int32) (v_last : Int32) (a_row : (Nat → Int32)) : va_W := [(h_this, .inr (3, [.ref h_this_row, .int v_first, .int v_last])), (h_this_row, .inl (c_this_row, 208, .inl a_row))]
def f_Decimal_divide_87 (v_first : Int32) (v_last : Int32) (a_row : (Nat → Int32)) (y6 : Int32) : Option (Int32 × Int32 × (Nat → Int32)) :=
  bd (imx v_last (y6 - (1 : Int32))) fun x1 =>
  bi2 (f_Decimal_trim v_first x1 a_row) fun v2 v3 =>
  some (v2, v3, a_row)
def f_Decimal_divide_46 (k15 : Int32 → Int32 → (Nat → Int32) → Int32 → Int64 → Int64 → Int32 → Option (Int32 × Int32 × (Nat → Int32))) (v_first : Int32) (v_last : Int32) (a_row : (Nat → Int32)) (y1 : Int32) (y2 : Int64) (y4 : Int64) (y6 : Int32) : Option (Int32 × Int32 × (Nat → Int32)) :=
  ck (gin y6 208) <|
  bd ((y4 * (1000000000 : Int64)) + ((a_row y6.toNatClampNeg).toInt64)) fun x5 =>
  ck (gin y6 208) <|
  bd (upd a_row y6.toNatClampNeg ((lus x5 y1).toInt32)) fun a7 =>
  bd (x5 &&& y2) fun x8 =>
  bd (y6 + (1 : Int32)) fun x9 =>
  k15 v_first v_last a7 y1 y2 x8 x9
def f_Decimal_divide_15b (k15 : Int32 → Int32 → (Nat → Int32) → Int32 → Int64 → Int64 → Int32 → Option (Int32 × Int32 × (Nat → Int32))) (v_first : Int32) (v_last : Int32) (a_row : (Nat → Int32)) (y1 : Int32) (y2 : Int64) (y4 : Int64) (y6 : Int32) : Option (Int32 × Int32 × (Nat → Int32)) :=
  if y6 < 0 then
    f_Decimal_divide_87 v_first v_last a_row y6
  else
    if (208 : Int32) ≤ y6 then
      f_Decimal_divide_87 v_first v_last a_row y6
    else
      if y6 ≤ v_last then
        f_Decimal_divide_46 k15 v_first v_last a_row y1 y2 y4 y6
      else
        if y4 ≤ (0 : Int64) then
          f_Decimal_divide_87 v_first v_last a_row y6
        else
          f_Decimal_divide_46 k15 v_first v_last a_row y1 y2 y4 y6
def f_Decimal_divide_15 : Nat → Int32 → Int32 → (Nat → Int32) → Int32 → Int64 → Int64 → Int32 → Option (Int32 × Int32 × (Nat → Int32))
  | 0 => fun _ _ _ _ _ _ _ => none
  | n + 1 => fun v_first v_last a_row y1 y2 y4 y6 => f_Decimal_divide_15b (f_Decimal_divide_15 n) v_first v_last a_row y1 y2 y4 y6
def f_Decimal_divide (v_first : Int32) (v_last : Int32) (a_row : (Nat → Int32)) (p1 : Int32) : Option (Int32 × Int32 × (Nat → Int32)) :=
  bd ((lsl (1 : Int64) p1) - (1 : Int64)) fun x14 =>
  f_Decimal_divide_15 fu v_first v_last a_row p1 x14 (0 : Int64) v_first
set_option maxHeartbeats 4000000 in
set_option maxRecDepth 100000 in
theorem s_Decimal_divide_87 {p : Program} {l : Launch} {e : Env} {s : State} {m : MethodId} {args : Array Value} {below : List Frame} {meth : Method} {c : Code} {dC : Nat → ClassId} {dI : Nat → Nat → Nat} {A : Nat → Prop} {X : SXT} {h_this : Nat} {h_this_row : Nat} {c_this_row : ClassId} {res : Int32 × Int32 × (Nat → Int32)}  (cx : cxx p s m args meth c b_Decimal_divide 9 none R_Decimal) (hK : va_K (dC, dI) classes [(c_this_row, .int)] s) (hA : ∀ q, s.heap.size ≤ q → A q) (hX : SX X A s s.heap)  : ∀ (v_first : Int32) (v_last : Int32) (a_row : (Nat → Int32)) (y6 : Int32) (H : Heap) (locs : List Loc) (ls : Array Slot), va_P (dC, dI) classes (WS_Decimal_divide h_this h_this_row c_this_row v_first v_last a_row) H → va_D A (WS_Decimal_divide h_this h_this_row c_this_row v_first v_last a_row) → va_S A s.heap H locs → lv_has ls 9 [(0, .ref h_this), (6, .int y6)] → f_Decimal_divide_87 v_first v_last a_row y6 = some res → W p l e ({ frames := 2, cells := 0, slots := 0, locals := 41 }) s m args below meth c H locs 0 0 (MQ below (va_Qv (fun (u : Int32 × Int32 × (Nat → Int32)) => some u = some res) (gB (dC, dI) [(c_this_row, .int)] A (fun (u : Int32 × Int32 × (Nat → Int32)) => (WS_Decimal_divide h_this h_this_row c_this_row u.1 u.2.1 u.2.2))) A) args s 0 0 A) (F0 m 87 ls []) := by
  intro v_first v_last a_row y6 H locs ls hP hD hS hl h
  obtain ⟨hx, hb, hr, hml, hown, ht, hlk⟩ := id cx
  refine lv_aload_n hx hb d_Decimal_divide_87 rfl (lv_at hl 0 rfl) ?_
  refine lv_aload_n hx hb d_Decimal_divide_88 rfl (lv_at hl 0 rfl) ?_
  refine va_get (D := (dC, dI)) (ci := 3) (v := .int v_last) (C := R_Decimal) (T := F_Decimal) (N := 3) hx hb ht i_Decimal hown hK hP 0 rfl rfl 2 (by decide) (ht _ q_107) (fun _ h9 => h9) rfl d_Decimal_divide_89 ?_
  refine lv_iload hx hb d_Decimal_divide_92 (lv_at hl 1 rfl) ?_
  refine lv_iconst (v := 1) hx hb d_Decimal_divide_94 (by decide) ?_
  refine lv_isub hx hb d_Decimal_divide_95 ?_
  refine va_mmax hx hb (hml.trans hl.1.symm) hown (ht _ q_139) (ht _ q_101) (ht _ q_40) (ht _ q_102) (Nat.le_of_ble_eq_true rfl) (Nat.le_of_ble_eq_true rfl) (Nat.zero_le _) (Nat.zero_le _) d_Decimal_divide_96 ?_
  refine W.eq (g2 := F0 m 99 ls (.int (imx v_last (y6 - (1 : Int32))) :: .ref h_this :: [])) rfl ?_
  refine lv_topi (fun x1 e_x1 => ?_)
  have h := bd_g e_x1 h
  refine va_put (D := (dC, dI)) (ci := 3) (v := .int x1) (ty := .int) (C := R_Decimal) (T := F_Decimal) (N := 3) hx hb ht i_Decimal t_Decimal t_Decimal_ok n_Decimal hown hK hP hD hS 0 rfl rfl 2 (by decide) (ht _ q_107) (fun _ h9 => h9) rfl (t_Decimal_ok 2 (by decide)) rfl rfl (Nat.le_of_ble_eq_true rfl) d_Decimal_divide_99 (fun H locs hP hD hS => ?_)
  have hP : va_P (dC, dI) classes (WS_Decimal_divide h_this h_this_row c_this_row v_first x1 a_row) H := hP
  have hD : va_D A (WS_Decimal_divide h_this h_this_row c_this_row v_first x1 a_row) := hD
  refine lv_aload_n hx hb d_Decimal_divide_102 rfl (lv_at hl 0 rfl) ?_
  obtain ⟨v2, v3, hf, h⟩ := bi2_x h
  refine clVv (D := (dC, dI)) (n := 0) (As := []) ⟨hx, hb, hml, hown, ht⟩ (c_Decimal_trim l dC dI X h_this h_this_row c_this_row H.size v_first x1 a_row (v2, v3) hf) (gV q_120 q_121 q_122 q_113 q_123) (by decide +kernel) ⟨rfl, rfl, Nat.le_of_ble_eq_true rfl, Nat.le_of_ble_eq_true rfl⟩ hK hP hD hS hA hX [0, 1] [] [0] rfl (wr := []) rfl (by decide) (by decide) (by decide) rfl (va_recv hK hP (ci := 3) (q0 := 0) rfl rfl) rfl hl.1 rfl (lv_room (Nat.le_of_ble_eq_true rfl)) d_Decimal_divide_103 ⟨Nat.zero_le _, Nat.zero_le _⟩ (fun u9 H locs h9 hP hD hS => ?_)
  cases h9
  have hP : va_P (dC, dI) classes (WS_Decimal_divide h_this h_this_row c_this_row v2 v3 a_row) H := hP.sub [0, 1] rfl
  have hD : va_D A (WS_Decimal_divide h_this h_this_row c_this_row v2 v3 a_row) := hD.sub [0, 1] (by decide) rfl
  exact W.vret hx hb hr (fun t ht9 hW => ⟨⟨(v2, v3, a_row), rfl, h, by rw [ht9]; exact hP, va_K.moved hW.alike hK, hD⟩, hS.F ht9⟩) hS.2.2 d_Decimal_divide_106 hlk
set_option maxHeartbeats 4000000 in
set_option maxRecDepth 100000 in
theorem s_Decimal_divide_46 {p : Program} {l : Launch} {e : Env} {s : State} {m : MethodId} {args : Array Value} {below : List Frame} {meth : Method} {c : Code} {dC : Nat → ClassId} {dI : Nat → Nat → Nat} {A : Nat → Prop} {X : SXT} {h_this : Nat} {h_this_row : Nat} {c_this_row : ClassId} {res : Int32 × Int32 × (Nat → Int32)} {k15 : Int32 → Int32 → (Nat → Int32) → Int32 → Int64 → Int64 → Int32 → Option (Int32 × Int32 × (Nat → Int32))} (cx : cxx p s m args meth c b_Decimal_divide 9 none R_Decimal) (hK : va_K (dC, dI) classes [(c_this_row, .int)] s) (hA : ∀ q, s.heap.size ≤ q → A q) (hX : SX X A s s.heap) (hk15 : ∀ (v_first : Int32) (v_last : Int32) (a_row : (Nat → Int32)) (y1 : Int32) (y2 : Int64) (y4 : Int64) (y6 : Int32) (H : Heap) (locs : List Loc) (ls : Array Slot), va_P (dC, dI) classes (WS_Decimal_divide h_this h_this_row c_this_row v_first v_last a_row) H → va_D A (WS_Decimal_divide h_this h_this_row c_this_row v_first v_last a_row) → va_S A s.heap H locs → lv_has ls 9 [(0, .ref h_this), (1, .int y1), (2, .long y2), (4, .long y4), (6, .int y6)] → k15 v_first v_last a_row y1 y2 y4 y6 = some res → W p l e ({ frames := 2, cells := 0, slots := 0, locals := 41 }) s m args below meth c H locs 0 0 (MQ below (va_Qv (fun (u : Int32 × Int32 × (Nat → Int32)) => some u = some res) (gB (dC, dI) [(c_this_row, .int)] A (fun (u : Int32 × Int32 × (Nat → Int32)) => (WS_Decimal_divide h_this h_this_row c_this_row u.1 u.2.1 u.2.2))) A) args s 0 0 A) (F0 m 15 ls [])) : ∀ (v_first : Int32) (v_last : Int32) (a_row : (Nat → Int32)) (y1 : Int32) (y2 : Int64) (y4 : Int64) (y6 : Int32) (H : Heap) (locs : List Loc) (ls : Array Slot), va_P (dC, dI) classes (WS_Decimal_divide h_this h_this_row c_this_row v_first v_last a_row) H → va_D A (WS_Decimal_divide h_this h_this_row c_this_row v_first v_last a_row) → va_S A s.heap H locs → lv_has ls 9 [(0, .ref h_this), (1, .int y1), (2, .long y2), (4, .long y4), (6, .int y6)] → f_Decimal_divide_46 k15 v_first v_last a_row y1 y2 y4 y6 = some res → W p l e ({ frames := 2, cells := 0, slots := 0, locals := 41 }) s m args below meth c H locs 0 0 (MQ below (va_Qv (fun (u : Int32 × Int32 × (Nat → Int32)) => some u = some res) (gB (dC, dI) [(c_this_row, .int)] A (fun (u : Int32 × Int32 × (Nat → Int32)) => (WS_Decimal_divide h_this h_this_row c_this_row u.1 u.2.1 u.2.2))) A) args s 0 0 A) (F0 m 46 ls []) := by
  intro v_first v_last a_row y1 y2 y4 y6 H locs ls hP hD hS hl h
  obtain ⟨hx, hb, hr, hml, hown, ht, hlk⟩ := id cx
  refine lv_lload hx hb d_Decimal_divide_46 (lv_at hl 3 rfl) ?_
  refine lv_ldc2 (v := 1000000000) hx hb hown (ht _ q_140) d_Decimal_divide_48 ?_
  refine lv_lmul hx hb d_Decimal_divide_51 ?_
  refine lv_aload_n hx hb d_Decimal_divide_52 rfl (lv_at hl 0 rfl) ?_
  refine va_get (D := (dC, dI)) (ci := 3) (v := .ref h_this_row) (C := R_Decimal) (T := F_Decimal) (N := 3) hx hb ht i_Decimal hown hK hP 0 rfl rfl 0 (by decide) (ht _ q_108) (fun _ h9 => h9) rfl d_Decimal_divide_53 ?_
  refine lv_iload hx hb d_Decimal_divide_56 (lv_at hl 4 rfl) ?_
  obtain ⟨c4, h⟩ := ck_x h
  refine va_iald (D := (dC, dI)) hx hb hK hP 1 0 rfl rfl c4 d_Decimal_divide_58 ?_
  refine lv_i2l (v := (a_row y6.toNatClampNeg).toInt64) hx hb d_Decimal_divide_59 rfl ?_
  refine lv_ladd hx hb d_Decimal_divide_60 ?_
  refine lv_topl (fun x5 e_x5 => ?_)
  have h := bd_g e_x5 h
  refine lv_lstore (lv' := [(7, .long x5), (0, .ref h_this), (1, .int y1), (2, .long y2), (4, .long y4), (6, .int y6)]) hx hb d_Decimal_divide_61 hl (by decide) rfl (fun ls hl => ?_)
  refine lv_aload_n hx hb d_Decimal_divide_63 rfl (lv_at hl 1 rfl) ?_
  refine va_get (D := (dC, dI)) (ci := 3) (v := .ref h_this_row) (C := R_Decimal) (T := F_Decimal) (N := 3) hx hb ht i_Decimal hown hK hP 0 rfl rfl 0 (by decide) (ht _ q_108) (fun _ h9 => h9) rfl d_Decimal_divide_64 ?_
  refine lv_iload hx hb d_Decimal_divide_67 (lv_at hl 5 rfl) ?_
  refine lv_lload hx hb d_Decimal_divide_69 (lv_at hl 0 rfl) ?_
  refine lv_iload_n hx hb d_Decimal_divide_71 rfl (lv_at hl 2 rfl) ?_
  refine lv_lushr (v := lus x5 y1) hx hb d_Decimal_divide_72 rfl ?_
  refine lv_l2i (v := (lus x5 y1).toInt32) hx hb d_Decimal_divide_73 rfl ?_
  obtain ⟨c6, h⟩ := ck_x h
  refine va_iast (D := (dC, dI)) hx hb hK hP hD hS 1 0 rfl rfl c6 d_Decimal_divide_74 (fun H locs hP hD hS => ?_)
  obtain ⟨a7, e_a7⟩ : ∃ y, y = upd a_row y6.toNatClampNeg ((lus x5 y1).toInt32) := ⟨_, rfl⟩
  have hP : va_P (dC, dI) classes (WS_Decimal_divide h_this h_this_row c_this_row v_first v_last a7) H := by rw [e_a7]; exact hP
  have hD : va_D A (WS_Decimal_divide h_this h_this_row c_this_row v_first v_last a7) := by rw [e_a7]; exact hD
  have h := bd_g e_a7 h
  refine lv_lload hx hb d_Decimal_divide_75 (lv_at hl 0 rfl) ?_
  refine lv_lload_n hx hb d_Decimal_divide_77 rfl (lv_at hl 3 rfl) ?_
  refine lv_land hx hb d_Decimal_divide_78 ?_
  refine lv_topl (fun x8 e_x8 => ?_)
  have h := bd_g e_x8 h
  refine lv_lstore (lv' := [(4, .long x8), (7, .long x5), (0, .ref h_this), (1, .int y1), (2, .long y2), (6, .int y6)]) hx hb d_Decimal_divide_79 hl (by decide) rfl (fun ls hl => ?_)
  obtain ⟨x9, e_x9⟩ : ∃ y : Int32, y = y6 + (1 : Int32) := ⟨_, rfl⟩
  refine lv_iinc (v := x9) (lv' := [(6, .int x9), (4, .long x8), (7, .long x5), (0, .ref h_this), (1, .int y1), (2, .long y2)]) hx hb d_Decimal_divide_81 hl (k := 5) rfl (by rw [e_x9]; rfl) (by decide) rfl (fun ls hl => ?_)
  have h := bd_g e_x9 h
  refine lv_goto (tgt := 15) hx hb d_Decimal_divide_84 (by decide) ?_
  exact hk15 v_first v_last a7 y1 y2 x8 x9 H locs ls hP hD hS (lv_sub hl [3, 4, 5, 1, 0] rfl) h
set_option maxHeartbeats 4000000 in
set_option maxRecDepth 100000 in
theorem s_Decimal_divide_15b {p : Program} {l : Launch} {e : Env} {s : State} {m : MethodId} {args : Array Value} {below : List Frame} {meth : Method} {c : Code} {dC : Nat → ClassId} {dI : Nat → Nat → Nat} {A : Nat → Prop} {X : SXT} {h_this : Nat} {h_this_row : Nat} {c_this_row : ClassId} {res : Int32 × Int32 × (Nat → Int32)} {k15 : Int32 → Int32 → (Nat → Int32) → Int32 → Int64 → Int64 → Int32 → Option (Int32 × Int32 × (Nat → Int32))} (cx : cxx p s m args meth c b_Decimal_divide 9 none R_Decimal) (hK : va_K (dC, dI) classes [(c_this_row, .int)] s) (hA : ∀ q, s.heap.size ≤ q → A q) (hX : SX X A s s.heap) (hk15 : ∀ (v_first : Int32) (v_last : Int32) (a_row : (Nat → Int32)) (y1 : Int32) (y2 : Int64) (y4 : Int64) (y6 : Int32) (H : Heap) (locs : List Loc) (ls : Array Slot), va_P (dC, dI) classes (WS_Decimal_divide h_this h_this_row c_this_row v_first v_last a_row) H → va_D A (WS_Decimal_divide h_this h_this_row c_this_row v_first v_last a_row) → va_S A s.heap H locs → lv_has ls 9 [(0, .ref h_this), (1, .int y1), (2, .long y2), (4, .long y4), (6, .int y6)] → k15 v_first v_last a_row y1 y2 y4 y6 = some res → W p l e ({ frames := 2, cells := 0, slots := 0, locals := 41 }) s m args below meth c H locs 0 0 (MQ below (va_Qv (fun (u : Int32 × Int32 × (Nat → Int32)) => some u = some res) (gB (dC, dI) [(c_this_row, .int)] A (fun (u : Int32 × Int32 × (Nat → Int32)) => (WS_Decimal_divide h_this h_this_row c_this_row u.1 u.2.1 u.2.2))) A) args s 0 0 A) (F0 m 15 ls [])) : ∀ (v_first : Int32) (v_last : Int32) (a_row : (Nat → Int32)) (y1 : Int32) (y2 : Int64) (y4 : Int64) (y6 : Int32) (H : Heap) (locs : List Loc) (ls : Array Slot), va_P (dC, dI) classes (WS_Decimal_divide h_this h_this_row c_this_row v_first v_last a_row) H → va_D A (WS_Decimal_divide h_this h_this_row c_this_row v_first v_last a_row) → va_S A s.heap H locs → lv_has ls 9 [(0, .ref h_this), (1, .int y1), (2, .long y2), (4, .long y4), (6, .int y6)] → f_Decimal_divide_15b k15 v_first v_last a_row y1 y2 y4 y6 = some res → W p l e ({ frames := 2, cells := 0, slots := 0, locals := 41 }) s m args below meth c H locs 0 0 (MQ below (va_Qv (fun (u : Int32 × Int32 × (Nat → Int32)) => some u = some res) (gB (dC, dI) [(c_this_row, .int)] A (fun (u : Int32 × Int32 × (Nat → Int32)) => (WS_Decimal_divide h_this h_this_row c_this_row u.1 u.2.1 u.2.2))) A) args s 0 0 A) (F0 m 15 ls []) := by
  intro v_first v_last a_row y1 y2 y4 y6 H locs ls hP hD hS hl h
  obtain ⟨hx, hb, hr, hml, hown, ht, hlk⟩ := id cx
  refine lv_iload hx hb d_Decimal_divide_15 (lv_at hl 4 rfl) ?_
  refine lv_if_lt (tgt := 87) hx hb d_Decimal_divide_17 (by decide) (fun c10 => ?_) (fun c10 => ?_)
  · have h := if_t c10 h
    exact s_Decimal_divide_87 cx hK hA hX v_first v_last a_row y6 H locs ls hP hD hS (lv_sub hl [0, 4] rfl) h
  · have h := if_f c10 h
    refine lv_iload hx hb d_Decimal_divide_20 (lv_at hl 4 rfl) ?_
    refine lv_aload_n hx hb d_Decimal_divide_22 rfl (lv_at hl 0 rfl) ?_
    refine va_get (D := (dC, dI)) (ci := 3) (v := .ref h_this_row) (C := R_Decimal) (T := F_Decimal) (N := 3) hx hb ht i_Decimal hown hK hP 0 rfl rfl 0 (by decide) (ht _ q_108) (fun _ h9 => h9) rfl d_Decimal_divide_23 ?_
    refine va_alen (D := (dC, dI)) (v := 208) hx hb hK hP 1 0 rfl rfl rfl d_Decimal_divide_26 ?_
    refine lv_icmp_ge (tgt := 87) hx hb d_Decimal_divide_27 (by decide) (fun c11 => ?_) (fun c11 => ?_)
    · have h := if_t c11 h
      exact s_Decimal_divide_87 cx hK hA hX v_first v_last a_row y6 H locs ls hP hD hS (lv_sub hl [0, 4] rfl) h
    · have h := if_f c11 h
      refine lv_iload hx hb d_Decimal_divide_30 (lv_at hl 4 rfl) ?_
      refine lv_aload_n hx hb d_Decimal_divide_32 rfl (lv_at hl 0 rfl) ?_
      refine va_get (D := (dC, dI)) (ci := 3) (v := .int v_last) (C := R_Decimal) (T := F_Decimal) (N := 3) hx hb ht i_Decimal hown hK hP 0 rfl rfl 2 (by decide) (ht _ q_107) (fun _ h9 => h9) rfl d_Decimal_divide_33 ?_
      refine lv_icmp_le (tgt := 46) hx hb d_Decimal_divide_36 (by decide) (fun c12 => ?_) (fun c12 => ?_)
      · have h := if_t c12 h
        exact s_Decimal_divide_46 cx hK hA hX hk15 v_first v_last a_row y1 y2 y4 y6 H locs ls hP hD hS (lv_sub hl [0, 1, 2, 3, 4] rfl) h
      · have h := if_f c12 h
        refine lv_lload hx hb d_Decimal_divide_39 (lv_at hl 3 rfl) ?_
        refine lv_lconst (v := 0) hx hb d_Decimal_divide_41 (by decide) ?_
        refine W.lcmp hx hb d_Decimal_divide_42 ?_
        refine lv_if_le (tgt := 87) hx hb d_Decimal_divide_43 (by decide) (fun c13 => ?_) (fun c13 => ?_)
        · have c13 := (lg_cmp_le _ _).mp c13
          have h := if_t c13 h
          exact s_Decimal_divide_87 cx hK hA hX v_first v_last a_row y6 H locs ls hP hD hS (lv_sub hl [0, 4] rfl) h
        · have c13 := fun h9 => c13 ((lg_cmp_le _ _).mpr h9)
          have h := if_f c13 h
          exact s_Decimal_divide_46 cx hK hA hX hk15 v_first v_last a_row y1 y2 y4 y6 H locs ls hP hD hS (lv_sub hl [0, 1, 2, 3, 4] rfl) h
set_option maxHeartbeats 4000000 in
set_option maxRecDepth 100000 in
theorem s_Decimal_divide_15 {p : Program} {l : Launch} {e : Env} {s : State} {m : MethodId} {args : Array Value} {below : List Frame} {meth : Method} {c : Code} {dC : Nat → ClassId} {dI : Nat → Nat → Nat} {A : Nat → Prop} {X : SXT} {h_this : Nat} {h_this_row : Nat} {c_this_row : ClassId} {res : Int32 × Int32 × (Nat → Int32)}  (cx : cxx p s m args meth c b_Decimal_divide 9 none R_Decimal) (hK : va_K (dC, dI) classes [(c_this_row, .int)] s) (hA : ∀ q, s.heap.size ≤ q → A q) (hX : SX X A s s.heap)  : ∀ n : Nat, ∀ (v_first : Int32) (v_last : Int32) (a_row : (Nat → Int32)) (y1 : Int32) (y2 : Int64) (y4 : Int64) (y6 : Int32) (H : Heap) (locs : List Loc) (ls : Array Slot), va_P (dC, dI) classes (WS_Decimal_divide h_this h_this_row c_this_row v_first v_last a_row) H → va_D A (WS_Decimal_divide h_this h_this_row c_this_row v_first v_last a_row) → va_S A s.heap H locs → lv_has ls 9 [(0, .ref h_this), (1, .int y1), (2, .long y2), (4, .long y4), (6, .int y6)] → f_Decimal_divide_15 n v_first v_last a_row y1 y2 y4 y6 = some res → W p l e ({ frames := 2, cells := 0, slots := 0, locals := 41 }) s m args below meth c H locs 0 0 (MQ below (va_Qv (fun (u : Int32 × Int32 × (Nat → Int32)) => some u = some res) (gB (dC, dI) [(c_this_row, .int)] A (fun (u : Int32 × Int32 × (Nat → Int32)) => (WS_Decimal_divide h_this h_this_row c_this_row u.1 u.2.1 u.2.2))) A) args s 0 0 A) (F0 m 15 ls []) := by
  intro n
  induction n with
  | zero =>
    intro v_first v_last a_row y1 y2 y4 y6 H locs ls hP hD hS hl h
    have h9 : (none : Option (Int32 × Int32 × (Nat → Int32))) = some res := h
    cases h9
  | succ n ih =>
    intro v_first v_last a_row y1 y2 y4 y6 H locs ls hP hD hS hl h
    exact s_Decimal_divide_15b cx hK hA hX ih v_first v_last a_row y1 y2 y4 y6 H locs ls hP hD hS hl h
set_option maxHeartbeats 4000000 in
set_option maxRecDepth 100000 in
theorem s_Decimal_divide_e {p : Program} {l : Launch} {e : Env} {s : State} {m : MethodId} {args : Array Value} {below : List Frame} {meth : Method} {c : Code} {dC : Nat → ClassId} {dI : Nat → Nat → Nat} {A : Nat → Prop} {X : SXT} {h_this : Nat} {h_this_row : Nat} {c_this_row : ClassId} {res : Int32 × Int32 × (Nat → Int32)} (cx : cxx p s m args meth c b_Decimal_divide 9 none R_Decimal) (hK : va_K (dC, dI) classes [(c_this_row, .int)] s) (hA : ∀ q, s.heap.size ≤ q → A q) (hX : SX X A s s.heap) : ∀ (v_first : Int32) (v_last : Int32) (a_row : (Nat → Int32)) (p1 : Int32) (H : Heap) (locs : List Loc) (ls : Array Slot), va_P (dC, dI) classes (WS_Decimal_divide h_this h_this_row c_this_row v_first v_last a_row) H → va_D A (WS_Decimal_divide h_this h_this_row c_this_row v_first v_last a_row) → va_S A s.heap H locs → lv_has ls 9 [(0, .ref h_this), (1, .int p1)] → f_Decimal_divide v_first v_last a_row p1 = some res → W p l e ({ frames := 2, cells := 0, slots := 0, locals := 41 }) s m args below meth c H locs 0 0 (MQ below (va_Qv (fun (u : Int32 × Int32 × (Nat → Int32)) => some u = some res) (gB (dC, dI) [(c_this_row, .int)] A (fun (u : Int32 × Int32 × (Nat → Int32)) => (WS_Decimal_divide h_this h_this_row c_this_row u.1 u.2.1 u.2.2))) A) args s 0 0 A) (F0 m 0 ls []) := by
  intro v_first v_last a_row p1 H locs ls hP hD hS hl h
  obtain ⟨hx, hb, hr, hml, hown, ht, hlk⟩ := id cx
  refine lv_lconst (v := 1) hx hb d_Decimal_divide_0 (by decide) ?_
  refine lv_iload_n hx hb d_Decimal_divide_1 rfl (lv_at hl 1 rfl) ?_
  refine lv_lshl (v := lsl (1 : Int64) p1) hx hb d_Decimal_divide_2 rfl ?_
  refine lv_lconst (v := 1) hx hb d_Decimal_divide_3 (by decide) ?_
  refine lv_lsub hx hb d_Decimal_divide_4 ?_
  refine lv_topl (fun x14 e_x14 => ?_)
  have h := bd_g e_x14 h
  refine lv_lstore_n (lv' := [(2, .long x14), (0, .ref h_this), (1, .int p1)]) hx hb d_Decimal_divide_5 rfl hl (by decide) rfl (fun ls hl => ?_)
  refine lv_lconst (v := 0) hx hb d_Decimal_divide_6 (by decide) ?_
  refine lv_lstore (lv' := [(4, .long (0 : Int64)), (2, .long x14), (0, .ref h_this), (1, .int p1)]) hx hb d_Decimal_divide_7 hl (by decide) rfl (fun ls hl => ?_)
  refine lv_aload_n hx hb d_Decimal_divide_9 rfl (lv_at hl 2 rfl) ?_
  refine va_get (D := (dC, dI)) (ci := 3) (v := .int v_first) (C := R_Decimal) (T := F_Decimal) (N := 3) hx hb ht i_Decimal hown hK hP 0 rfl rfl 1 (by decide) (ht _ q_109) (fun _ h9 => h9) rfl d_Decimal_divide_10 ?_
  refine lv_istore (lv' := [(6, .int v_first), (4, .long (0 : Int64)), (2, .long x14), (0, .ref h_this), (1, .int p1)]) hx hb d_Decimal_divide_13 hl (by decide) rfl (fun ls hl => ?_)
  exact s_Decimal_divide_15 cx hK hA hX fu v_first v_last a_row p1 x14 (0 : Int64) v_first H locs ls hP hD hS (lv_sub hl [3, 4, 2, 1, 0] rfl) h
set_option maxHeartbeats 4000000 in
set_option maxRecDepth 100000 in
theorem c_Decimal_divide (l : Launch) (dC : Nat → ClassId) (dI : Nat → Nat → Nat) (X : SXT) (h_this : Nat) (h_this_row : Nat) (c_this_row : ClassId) (sz : Nat) (v_first : Int32) (v_last : Int32) (a_row : (Nat → Int32)) (p1 : Int32) (res : Int32 × Int32 × (Nat → Int32)) (hf : f_Decimal_divide v_first v_last a_row p1 = some res) : Met l y_Decimal_divide (.code y_Decimal_divide b_Decimal_divide 9 none :: w0) ({ frames := 2, cells := 0, slots := 0, locals := 41 }) (va_Pc [.ref h_this, .int p1] (gP (dC, dI) (WS_Decimal_divide h_this h_this_row c_this_row v_first v_last a_row) [(c_this_row, .int)] sz X)) (va_Qv (fun (u : Int32 × Int32 × (Nat → Int32)) => some u = some res) (gB (dC, dI) [(c_this_row, .int)] (va_A (WS_Decimal_divide h_this h_this_row c_this_row v_first v_last a_row) sz) (fun (u : Int32 × Int32 × (Nat → Int32)) => (WS_Decimal_divide h_this h_this_row c_this_row u.1 u.2.1 u.2.2))) (va_A (WS_Decimal_divide h_this h_this_row c_this_row v_first v_last a_row) sz)) 0 0 (va_A (WS_Decimal_divide h_this h_this_row c_this_row v_first v_last a_row) sz) := by
  refine Met.ofW (cc := b_Decimal_divide) (maxL := 9) (ret := none) (by decide) rfl ?_
  intro p e s m args below meth c s₁ B hml hv
  obtain ⟨rfl, hsz, hP, hK, hD0, hX⟩ := hv
  subst hsz
  have cx : cxx p s m ([.ref h_this, .int p1] : List Value).toArray meth c b_Decimal_divide 9 none R_Decimal := ⟨B.exec, B.bytes, B.returns, hml, findClass_of_methodNamed B.named, fun w9 hw => atoms_spec (ws := .code y_Decimal_divide b_Decimal_divide 9 none :: w0) B.pre w9 (List.mem_cons_of_mem _ hw), B.notSynchronized⟩
  have hD := hD0.self (sz := s.heap.size)
  generalize hAe : va_A (WS_Decimal_divide h_this h_this_row c_this_row v_first v_last a_row) s.heap.size = A at hD hX ⊢
  have hA : ∀ q : Nat, s.heap.size ≤ q → A q := fun q h => by rw [← hAe]; exact Or.inr h
  have hS : va_S A s.heap s.heap [] := va_S.rf
  have hl := lv_entry ([.ref h_this, .int p1]) (n := 9) (Nat.le_of_ble_eq_true rfl)
  rw [lg_entry_eq]
  generalize (lg_sl ([.ref h_this, .int p1]) ++ List.replicate (9 - (lg_sl ([.ref h_this, .int p1])).length) Slot.unset).toArray = ls at hl ⊢
  have hl : lv_has ls 9 [(0, .ref h_this), (1, .int p1)] := hl
  exact s_Decimal_divide_e cx hK hA hX v_first v_last a_row p1 s.heap [] ls hP hD hS hl hf

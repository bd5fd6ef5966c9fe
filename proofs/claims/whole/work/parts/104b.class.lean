abbrev WS_Tape_clear (g_this_row : Nat) (h_this : Nat)  (v_length : Int32) : va_W := [(h_this, .inr (1, [.ref g_this_row, .int v_length]))]
def f_Tape_clear (v_length : Int32) : Option (Int32) :=
  some (0 : Int32)
set_option maxHeartbeats 4000000 in
set_option maxRecDepth 100000 in
theorem s_Tape_clear_e {p : Program} {l : Launch} {e : Env} {s : State} {m : MethodId} {args : Array Value} {below : List Frame} {meth : Method} {c : Code} {dC : Nat → ClassId} {dI : Nat → Nat → Nat} {A : Nat → Prop} {X : SXT} {g_this_row : Nat} {h_this : Nat} {res : Int32} (cx : cxx p s m args meth c b_Tape_clear 1 none R_Tape) (hK : va_K (dC, dI) classes [] s) (hA : ∀ q, s.heap.size ≤ q → A q) (hX : SX X A s s.heap) : ∀ (v_length : Int32) (H : Heap) (locs : List Loc) (ls : Array Slot), va_P (dC, dI) classes (WS_Tape_clear g_this_row h_this v_length) H → va_D A (WS_Tape_clear g_this_row h_this v_length) → va_S A s.heap H locs → lv_has ls 1 [(0, .ref h_this)] → f_Tape_clear v_length = some res → W p l e ({ frames := 0, cells := 0, slots := 0, locals := 0 }) s m args below meth c H locs 0 0 (MQ below (va_Qv (fun (u : Int32) => some u = some res) (gB (dC, dI) [] A (fun (u : Int32) => (WS_Tape_clear g_this_row h_this u))) A) args s 0 0 A) (F0 m 0 ls []) := by
  intro v_length H locs ls hP hD hS hl h
  obtain ⟨hx, hb, hr, hml, hown, ht, hlk⟩ := id cx
  refine lv_aload_n hx hb d_Tape_clear_0 rfl (lv_at hl 0 rfl) ?_
  refine lv_iconst (v := 0) hx hb d_Tape_clear_1 (by decide) ?_
  refine va_put (D := (dC, dI)) (ci := 1) (v := .int (0 : Int32)) (ty := .int) (C := R_Tape) (T := F_Tape) (N := 2) hx hb ht i_Tape t_Tape t_Tape_ok n_Tape hown hK hP hD hS 0 rfl rfl 1 (by decide) (ht _ q_0) (fun _ h9 => h9) rfl (t_Tape_ok 1 (by decide)) rfl rfl (Nat.le_of_ble_eq_true rfl) d_Tape_clear_2 (fun H locs hP hD hS => ?_)
  have hP : va_P (dC, dI) classes (WS_Tape_clear g_this_row h_this (0 : Int32)) H := hP
  have hD : va_D A (WS_Tape_clear g_this_row h_this (0 : Int32)) := hD
  exact W.vret hx hb hr (fun t ht9 hW => ⟨⟨(0 : Int32), rfl, h, by rw [ht9]; exact hP, va_K.moved hW.alike hK, hD⟩, hS.F ht9⟩) hS.2.2 d_Tape_clear_5 hlk
set_option maxHeartbeats 4000000 in
set_option maxRecDepth 100000 in
theorem c_Tape_clear (l : Launch) (dC : Nat → ClassId) (dI : Nat → Nat → Nat) (X : SXT) (g_this_row : Nat) (h_this : Nat) (sz : Nat) (v_length : Int32) (res : Int32) (hf : f_Tape_clear v_length = some res) : Met l y_Tape_clear (.code y_Tape_clear b_Tape_clear 1 none :: w0) ({ frames := 0, cells := 0, slots := 0, locals := 0 }) (va_Pc [.ref h_this] (gP (dC, dI) (WS_Tape_clear g_this_row h_this v_length) [] sz X)) (va_Qv (fun (u : Int32) => some u = some res) (gB (dC, dI) [] (va_A (WS_Tape_clear g_this_row h_this v_length) sz) (fun (u : Int32) => (WS_Tape_clear g_this_row h_this u))) (va_A (WS_Tape_clear g_this_row h_this v_length) sz)) 0 0 (va_A (WS_Tape_clear g_this_row h_this v_length) sz) := by
  refine Met.ofW (cc := b_Tape_clear) (maxL := 1) (ret := none) (by decide) rfl ?_
  intro p e s m args below meth c s₁ B hml hv
  obtain ⟨rfl, hsz, hP, hK, hD0, hX⟩ := hv
  subst hsz
  have cx : cxx p s m ([.ref h_this] : List Value).toArray meth c b_Tape_clear 1 none R_Tape := ⟨B.exec, B.bytes, B.returns, hml, findClass_of_methodNamed B.named, fun w9 hw => atoms_spec (ws := .code y_Tape_clear b_Tape_clear 1 none :: w0) B.pre w9 (List.mem_cons_of_mem _ hw), B.notSynchronized⟩
  have hD := hD0.self (sz := s.heap.size)
  generalize hAe : va_A (WS_Tape_clear g_this_row h_this v_length) s.heap.size = A at hD hX ⊢
  have hA : ∀ q : Nat, s.heap.size ≤ q → A q := fun q h => by rw [← hAe]; exact Or.inr h
  have hS : va_S A s.heap s.heap [] := va_S.rf
  have hl := lv_entry ([.ref h_this]) (n := 1) (Nat.le_of_ble_eq_true rfl)
  rw [lg_entry_eq]
  generalize (lg_sl ([.ref h_this]) ++ List.replicate (1 - (lg_sl ([.ref h_this])).length) Slot.unset).toArray = ls at hl ⊢
  have hl : lv_has ls 1 [(0, .ref h_this)] := hl
  exact s_Tape_clear_e cx hK hA hX v_length s.heap [] ls hP hD hS hl hf
abbrev WS_N_read (g_this_exact : Nat) (g_this_again : Nat) (g_this_page : Nat) (g_this_writer : Nat) (h_this : Nat) (h_this_numeral : Nat) (h_this_room : Nat) (h_this_size : Nat) (h_this_tape : Nat) (h_this_room_row : Nat) (h_this_tape_row : Nat) (c_this_room_row : ClassId) (c_this_tape_row : ClassId) (v_valueKind : Int32) (v_valueNumber : Int64) (v_valueExponent : Int32) (v_numeral_next : Int32) (v_numeral_negative : Int32) (v_numeral_sixteen : Int32) (v_numeral_hasPoint : Int32) (v_numeral_hasPower : Int32) (v_numeral_from : Int32) (v_numeral_to : Int32) (v_numeral_before : Int32) (v_numeral_digits : Int32) (v_numeral_power : Int32) (v_numeral_found : Int64) (v_room_first : Int32) (v_room_last : Int32) (v_size_factor : Int64) (v_size_power : Int32) (v_size_infinite : Int32) (v_tape_length : Int32) (a_room_row : (Nat → Int32)) (a_tape_row : (Nat → Int32)) : va_W := [(h_this, .inr (0, [.ref h_this_tape, .ref h_this_numeral, .ref h_this_room, .ref g_this_exact, .ref h_this_size, .ref g_this_again, .ref g_this_page, .ref g_this_writer, .int v_valueKind, .long v_valueNumber, .int v_valueExponent])), (h_this_numeral, .inr (2, [.ref h_this_tape, .int v_numeral_next, .int v_numeral_negative, .int v_numeral_sixteen, .int v_numeral_hasPoint, .int v_numeral_hasPower, .int v_numeral_from, .int v_numeral_to, .int v_numeral_before, .int v_numeral_digits, .int v_numeral_power, .long v_numeral_found])), (h_this_room, .inr (3, [.ref h_this_room_row, .int v_room_first, .int v_room_last])), (h_this_size, .inr (4, [.long v_size_factor, .int v_size_power, .int v_size_infinite])), (h_this_tape, .inr (1, [.ref h_this_tape_row, .int v_tape_length])), (h_this_room_row, .inl (c_this_room_row, 208, .inl a_room_row)), (h_this_tape_row, .inl (c_this_tape_row, 1200, .inl a_tape_row))]
def f_N_read_17 (v_valueKind : Int32) (v_valueNumber : Int64) (v_valueExponent : Int32) (v_numeral_next : Int32) (v_numeral_negative : Int32) (v_numeral_sixteen : Int32) (v_numeral_hasPoint : Int32) (v_numeral_hasPower : Int32) (v_numeral_from : Int32) (v_numeral_to : Int32) (v_numeral_before : Int32) (v_numeral_digits : Int32) (v_numeral_power : Int32) (v_numeral_found : Int64) (v_room_first : Int32) (v_room_last : Int32) (v_size_factor : Int64) (v_size_power : Int32) (v_size_infinite : Int32) (v_tape_length : Int32) (a_room_row : (Nat → Int32)) (a_tape_row : (Nat → Int32)) (y1 : Int32) : Option (Int32 × Int32 × Int64 × Int32 × Int32 × Int32 × Int32 × Int32 × Int32 × Int32 × Int32 × Int32 × Int32 × Int32 × Int64 × Int32 × Int32 × Int64 × Int32 × Int32 × Int32 × (Nat → Int32)) :=
  bi1 (f_Tape_clear v_tape_length) fun v1 =>
  if y1 = (-1 : Int32) then
    some (v_valueKind, v_valueKind, v_valueNumber, v_valueExponent, v_numeral_next, v_numeral_negative, v_numeral_sixteen, v_numeral_hasPoint, v_numeral_hasPower, v_numeral_from, v_numeral_to, v_numeral_before, v_numeral_digits, v_numeral_power, v_numeral_found, v_room_first, v_room_last, v_size_factor, v_size_power, v_size_infinite, v1, a_room_row)
  else
    some ((-100 : Int32) - y1, v_valueKind, v_valueNumber, v_valueExponent, v_numeral_next, v_numeral_negative, v_numeral_sixteen, v_numeral_hasPoint, v_numeral_hasPower, v_numeral_from, v_numeral_to, v_numeral_before, v_numeral_digits, v_numeral_power, v_numeral_found, v_room_first, v_room_last, v_size_factor, v_size_power, v_size_infinite, v1, a_room_row)
def f_N_read (v_valueKind : Int32) (v_valueNumber : Int64) (v_valueExponent : Int32) (v_numeral_next : Int32) (v_numeral_negative : Int32) (v_numeral_sixteen : Int32) (v_numeral_hasPoint : Int32) (v_numeral_hasPower : Int32) (v_numeral_from : Int32) (v_numeral_to : Int32) (v_numeral_before : Int32) (v_numeral_digits : Int32) (v_numeral_power : Int32) (v_numeral_found : Int64) (v_room_first : Int32) (v_room_last : Int32) (v_size_factor : Int64) (v_size_power : Int32) (v_size_infinite : Int32) (v_tape_length : Int32) (a_room_row : (Nat → Int32)) (a_tape_row : (Nat → Int32)) : Option (Int32 × Int32 × Int64 × Int32 × Int32 × Int32 × Int32 × Int32 × Int32 × Int32 × Int32 × Int32 × Int32 × Int32 × Int64 × Int32 × Int32 × Int64 × Int32 × Int32 × Int32 × (Nat → Int32)) :=
  bi11 (f_Numeral_scan v_numeral_next v_numeral_negative v_numeral_sixteen v_numeral_hasPoint v_numeral_hasPower v_numeral_from v_numeral_to v_numeral_before v_numeral_digits v_numeral_power v_tape_length a_tape_row) fun r3 v4 v5 v6 v7 v8 v9 v10 v11 v12 v13 =>
  if r3 = (-1 : Int32) then
    bi10 (f_N_takeNumeral v_valueKind v_valueNumber v_valueExponent v5 v6 v7 v8 v9 v10 v11 v12 v13 v_numeral_found v_room_first v_room_last v_size_factor v_size_power v_size_infinite v_tape_length a_room_row a_tape_row) fun v15 v16 v17 v18 v19 v20 v21 v22 v23 a24 =>
    f_N_read_17 v15 v16 v17 v4 v5 v6 v7 v8 v9 v10 v11 v12 v13 v18 v19 v20 v21 v22 v23 v_tape_length a24 a_tape_row r3
  else
    f_N_read_17 v_valueKind v_valueNumber v_valueExponent v4 v5 v6 v7 v8 v9 v10 v11 v12 v13 v_numeral_found v_room_first v_room_last v_size_factor v_size_power v_size_infinite v_tape_length a_room_row a_tape_row r3
set_option maxHeartbeats 4000000 in
set_option maxRecDepth 100000 in
theorem s_N_read_17 {p : Program} {l : Launch} {e : Env} {s : State} {m : MethodId} {args : Array Value} {below : List Frame} {meth : Method} {c : Code} {dC : Nat → ClassId} {dI : Nat → Nat → Nat} {A : Nat → Prop} {X : SXT} {g_this_exact : Nat} {g_this_again : Nat} {g_this_page : Nat} {g_this_writer : Nat} {h_this : Nat} {h_this_numeral : Nat} {h_this_room : Nat} {h_this_size : Nat} {h_this_tape : Nat} {h_this_room_row : Nat} {h_this_tape_row : Nat} {c_this_room_row : ClassId} {c_this_tape_row : ClassId} {res : Int32 × Int32 × Int64 × Int32 × Int32 × Int32 × Int32 × Int32 × Int32 × Int32 × Int32 × Int32 × Int32 × Int32 × Int64 × Int32 × Int32 × Int64 × Int32 × Int32 × Int32 × (Nat → Int32)}  (cx : cxx p s m args meth c b_N_read 2 (some .int) R_N) (hK : va_K (dC, dI) classes [(c_this_room_row, .int), (c_this_tape_row, .byte)] s) (hA : ∀ q, s.heap.size ≤ q → A q) (hX : SX X A s s.heap)  : ∀ (v_valueKind : Int32) (v_valueNumber : Int64) (v_valueExponent : Int32) (v_numeral_next : Int32) (v_numeral_negative : Int32) (v_numeral_sixteen : Int32) (v_numeral_hasPoint : Int32) (v_numeral_hasPower : Int32) (v_numeral_from : Int32) (v_numeral_to : Int32) (v_numeral_before : Int32) (v_numeral_digits : Int32) (v_numeral_power : Int32) (v_numeral_found : Int64) (v_room_first : Int32) (v_room_last : Int32) (v_size_factor : Int64) (v_size_power : Int32) (v_size_infinite : Int32) (v_tape_length : Int32) (a_room_row : (Nat → Int32)) (a_tape_row : (Nat → Int32)) (y1 : Int32) (H : Heap) (locs : List Loc) (ls : Array Slot), va_P (dC, dI) classes (WS_N_read g_this_exact g_this_again g_this_page g_this_writer h_this h_this_numeral h_this_room h_this_size h_this_tape h_this_room_row h_this_tape_row c_this_room_row c_this_tape_row v_valueKind v_valueNumber v_valueExponent v_numeral_next v_numeral_negative v_numeral_sixteen v_numeral_hasPoint v_numeral_hasPower v_numeral_from v_numeral_to v_numeral_before v_numeral_digits v_numeral_power v_numeral_found v_room_first v_room_last v_size_factor v_size_power v_size_infinite v_tape_length a_room_row a_tape_row) H → va_D A (WS_N_read g_this_exact g_this_again g_this_page g_this_writer h_this h_this_numeral h_this_room h_this_size h_this_tape h_this_room_row h_this_tape_row c_this_room_row c_this_tape_row v_valueKind v_valueNumber v_valueExponent v_numeral_next v_numeral_negative v_numeral_sixteen v_numeral_hasPoint v_numeral_hasPower v_numeral_from v_numeral_to v_numeral_before v_numeral_digits v_numeral_power v_numeral_found v_room_first v_room_last v_size_factor v_size_power v_size_infinite v_tape_length a_room_row a_tape_row) → va_S A s.heap H locs → lv_has ls 2 [(0, .ref h_this), (1, .int y1)] → f_N_read_17 v_valueKind v_valueNumber v_valueExponent v_numeral_next v_numeral_negative v_numeral_sixteen v_numeral_hasPoint v_numeral_hasPower v_numeral_from v_numeral_to v_numeral_before v_numeral_digits v_numeral_power v_numeral_found v_room_first v_room_last v_size_factor v_size_power v_size_infinite v_tape_length a_room_row a_tape_row y1 = some res → W p l e ({ frames := 8, cells := 0, slots := 0, locals := 193 }) s m args below meth c H locs 0 0 (MQ below (va_Qi (fun (r : Int32) (u : Int32 × Int64 × Int32 × Int32 × Int32 × Int32 × Int32 × Int32 × Int32 × Int32 × Int32 × Int32 × Int32 × Int64 × Int32 × Int32 × Int64 × Int32 × Int32 × Int32 × (Nat → Int32)) => some (r, u) = some res) (gB (dC, dI) [(c_this_room_row, .int), (c_this_tape_row, .byte)] A (fun (u : Int32 × Int64 × Int32 × Int32 × Int32 × Int32 × Int32 × Int32 × Int32 × Int32 × Int32 × Int32 × Int32 × Int64 × Int32 × Int32 × Int64 × Int32 × Int32 × Int32 × (Nat → Int32)) => (WS_N_read g_this_exact g_this_again g_this_page g_this_writer h_this h_this_numeral h_this_room h_this_size h_this_tape h_this_room_row h_this_tape_row c_this_room_row c_this_tape_row u.1 u.2.1 u.2.2.1 u.2.2.2.1 u.2.2.2.2.1 u.2.2.2.2.2.1 u.2.2.2.2.2.2.1 u.2.2.2.2.2.2.2.1 u.2.2.2.2.2.2.2.2.1 u.2.2.2.2.2.2.2.2.2.1 u.2.2.2.2.2.2.2.2.2.2.1 u.2.2.2.2.2.2.2.2.2.2.2.1 u.2.2.2.2.2.2.2.2.2.2.2.2.1 u.2.2.2.2.2.2.2.2.2.2.2.2.2.1 u.2.2.2.2.2.2.2.2.2.2.2.2.2.2.1 u.2.2.2.2.2.2.2.2.2.2.2.2.2.2.2.1 u.2.2.2.2.2.2.2.2.2.2.2.2.2.2.2.2.1 u.2.2.2.2.2.2.2.2.2.2.2.2.2.2.2.2.2.1 u.2.2.2.2.2.2.2.2.2.2.2.2.2.2.2.2.2.2.1 u.2.2.2.2.2.2.2.2.2.2.2.2.2.2.2.2.2.2.2.1 u.2.2.2.2.2.2.2.2.2.2.2.2.2.2.2.2.2.2.2.2 a_tape_row))) A) args s 0 0 A) (F0 m 17 ls []) := by
  intro v_valueKind v_valueNumber v_valueExponent v_numeral_next v_numeral_negative v_numeral_sixteen v_numeral_hasPoint v_numeral_hasPower v_numeral_from v_numeral_to v_numeral_before v_numeral_digits v_numeral_power v_numeral_found v_room_first v_room_last v_size_factor v_size_power v_size_infinite v_tape_length a_room_row a_tape_row y1 H locs ls hP hD hS hl h
  obtain ⟨hx, hb, hr, hml, hown, ht, hlk⟩ := id cx
  refine lv_aload_n hx hb d_N_read_17 rfl (lv_at hl 0 rfl) ?_
  refine va_get (D := (dC, dI)) (ci := 0) (v := .ref h_this_tape) (C := R_N) (T := F_N) (N := 11) hx hb ht i_N hown hK hP 0 rfl rfl 0 (by decide) (ht _ q_2) (fun _ h9 => h9) rfl d_N_read_18 ?_
  obtain ⟨v1, hf, h⟩ := bi1_x h
  refine clVv (D := (dC, dI)) (n := 0) (As := []) ⟨hx, hb, hml, hown, ht⟩ (c_Tape_clear l dC dI X h_this_tape_row h_this_tape H.size v_tape_length v1 hf) (gV q_215 q_216 q_217 q_6 q_218) (by decide +kernel) ⟨rfl, rfl, Nat.le_of_ble_eq_true rfl, Nat.le_of_ble_eq_true rfl⟩ hK hP hD hS hA hX [4] [0, 1, 2, 3, 5, 6] [] rfl (wr := [(h_this, .inr (0, [.ref h_this_tape, .ref h_this_numeral, .ref h_this_room, .ref g_this_exact, .ref h_this_size, .ref g_this_again, .ref g_this_page, .ref g_this_writer, .int v_valueKind, .long v_valueNumber, .int v_valueExponent])), (h_this_numeral, .inr (2, [.ref h_this_tape, .int v_numeral_next, .int v_numeral_negative, .int v_numeral_sixteen, .int v_numeral_hasPoint, .int v_numeral_hasPower, .int v_numeral_from, .int v_numeral_to, .int v_numeral_before, .int v_numeral_digits, .int v_numeral_power, .long v_numeral_found])), (h_this_room, .inr (3, [.ref h_this_room_row, .int v_room_first, .int v_room_last])), (h_this_size, .inr (4, [.long v_size_factor, .int v_size_power, .int v_size_infinite])), (h_this_room_row, .inl (c_this_room_row, 208, .inl a_room_row)), (h_this_tape_row, .inl (c_this_tape_row, 1200, .inl a_tape_row))]) rfl (by decide) (by decide) (by decide) rfl (va_recv hK hP (ci := 1) (q0 := 4) rfl rfl) rfl hl.1 rfl (lv_room (Nat.le_of_ble_eq_true rfl)) d_N_read_21 ⟨Nat.zero_le _, Nat.zero_le _⟩ (fun u9 H locs h9 hP hD hS => ?_)
  cases h9
  have hP : va_P (dC, dI) classes (WS_N_read g_this_exact g_this_again g_this_page g_this_writer h_this h_this_numeral h_this_room h_this_size h_this_tape h_this_room_row h_this_tape_row c_this_room_row c_this_tape_row v_valueKind v_valueNumber v_valueExponent v_numeral_next v_numeral_negative v_numeral_sixteen v_numeral_hasPoint v_numeral_hasPower v_numeral_from v_numeral_to v_numeral_before v_numeral_digits v_numeral_power v_numeral_found v_room_first v_room_last v_size_factor v_size_power v_size_infinite v1 a_room_row a_tape_row) H := hP.sub [0, 1, 2, 3, 6, 4, 5] rfl
  have hD : va_D A (WS_N_read g_this_exact g_this_again g_this_page g_this_writer h_this h_this_numeral h_this_room h_this_size h_this_tape h_this_room_row h_this_tape_row c_this_room_row c_this_tape_row v_valueKind v_valueNumber v_valueExponent v_numeral_next v_numeral_negative v_numeral_sixteen v_numeral_hasPoint v_numeral_hasPower v_numeral_from v_numeral_to v_numeral_before v_numeral_digits v_numeral_power v_numeral_found v_room_first v_room_last v_size_factor v_size_power v_size_infinite v1 a_room_row a_tape_row) := hD.sub [0, 1, 2, 3, 6, 4, 5] (by decide) rfl
  refine lv_iload_n hx hb d_N_read_24 rfl (lv_at hl 1 rfl) ?_
  refine lv_iconst (v := -1) hx hb d_N_read_25 (by decide) ?_
  refine lv_icmp_ne (tgt := 36) hx hb d_N_read_26 (by decide) (fun c2 => ?_) (fun c2 => ?_)
  · have h := if_f c2 h
    refine lv_bipush (v := -100) hx hb d_N_read_36 (by decide) ?_
    refine lv_iload_n hx hb d_N_read_38 rfl (lv_at hl 1 rfl) ?_
    refine lv_isub hx hb d_N_read_39 ?_
    exact W.iret (v := ((-100 : Int32) - y1)) hx hb hr (fun t ht9 hW => ⟨⟨((-100 : Int32) - y1), (v_valueKind, v_valueNumber, v_valueExponent, v_numeral_next, v_numeral_negative, v_numeral_sixteen, v_numeral_hasPoint, v_numeral_hasPower, v_numeral_from, v_numeral_to, v_numeral_before, v_numeral_digits, v_numeral_power, v_numeral_found, v_room_first, v_room_last, v_size_factor, v_size_power, v_size_infinite, v1, a_room_row), rfl, h, by rw [ht9]; exact hP, va_K.moved hW.alike hK, hD⟩, hS.F ht9⟩) hS.2.2 d_N_read_40 hlk
  · have h := if_t c2 h
    refine lv_aload_n hx hb d_N_read_29 rfl (lv_at hl 0 rfl) ?_
    refine va_get (D := (dC, dI)) (ci := 0) (v := .int v_valueKind) (C := R_N) (T := F_N) (N := 11) hx hb ht i_N hown hK hP 0 rfl rfl 8 (by decide) (ht _ q_67) (fun _ h9 => h9) rfl d_N_read_30 ?_
    refine lv_goto (tgt := 40) hx hb d_N_read_33 (by decide) ?_
    exact W.iret (v := v_valueKind) hx hb hr (fun t ht9 hW => ⟨⟨v_valueKind, (v_valueKind, v_valueNumber, v_valueExponent, v_numeral_next, v_numeral_negative, v_numeral_sixteen, v_numeral_hasPoint, v_numeral_hasPower, v_numeral_from, v_numeral_to, v_numeral_before, v_numeral_digits, v_numeral_power, v_numeral_found, v_room_first, v_room_last, v_size_factor, v_size_power, v_size_infinite, v1, a_room_row), rfl, h, by rw [ht9]; exact hP, va_K.moved hW.alike hK, hD⟩, hS.F ht9⟩) hS.2.2 d_N_read_40 hlk
set_option maxHeartbeats 4000000 in
set_option maxRecDepth 100000 in
theorem s_N_read_e {p : Program} {l : Launch} {e : Env} {s : State} {m : MethodId} {args : Array Value} {below : List Frame} {meth : Method} {c : Code} {dC : Nat → ClassId} {dI : Nat → Nat → Nat} {A : Nat → Prop} {X : SXT} {g_this_exact : Nat} {g_this_again : Nat} {g_this_page : Nat} {g_this_writer : Nat} {h_this : Nat} {h_this_numeral : Nat} {h_this_room : Nat} {h_this_size : Nat} {h_this_tape : Nat} {h_this_room_row : Nat} {h_this_tape_row : Nat} {c_this_room_row : ClassId} {c_this_tape_row : ClassId} {res : Int32 × Int32 × Int64 × Int32 × Int32 × Int32 × Int32 × Int32 × Int32 × Int32 × Int32 × Int32 × Int32 × Int32 × Int64 × Int32 × Int32 × Int64 × Int32 × Int32 × Int32 × (Nat → Int32)} (cx : cxx p s m args meth c b_N_read 2 (some .int) R_N) (hK : va_K (dC, dI) classes [(c_this_room_row, .int), (c_this_tape_row, .byte)] s) (hA : ∀ q, s.heap.size ≤ q → A q) (hX : SX X A s s.heap) : ∀ (v_valueKind : Int32) (v_valueNumber : Int64) (v_valueExponent : Int32) (v_numeral_next : Int32) (v_numeral_negative : Int32) (v_numeral_sixteen : Int32) (v_numeral_hasPoint : Int32) (v_numeral_hasPower : Int32) (v_numeral_from : Int32) (v_numeral_to : Int32) (v_numeral_before : Int32) (v_numeral_digits : Int32) (v_numeral_power : Int32) (v_numeral_found : Int64) (v_room_first : Int32) (v_room_last : Int32) (v_size_factor : Int64) (v_size_power : Int32) (v_size_infinite : Int32) (v_tape_length : Int32) (a_room_row : (Nat → Int32)) (a_tape_row : (Nat → Int32)) (H : Heap) (locs : List Loc) (ls : Array Slot), va_P (dC, dI) classes (WS_N_read g_this_exact g_this_again g_this_page g_this_writer h_this h_this_numeral h_this_room h_this_size h_this_tape h_this_room_row h_this_tape_row c_this_room_row c_this_tape_row v_valueKind v_valueNumber v_valueExponent v_numeral_next v_numeral_negative v_numeral_sixteen v_numeral_hasPoint v_numeral_hasPower v_numeral_from v_numeral_to v_numeral_before v_numeral_digits v_numeral_power v_numeral_found v_room_first v_room_last v_size_factor v_size_power v_size_infinite v_tape_length a_room_row a_tape_row) H → va_D A (WS_N_read g_this_exact g_this_again g_this_page g_this_writer h_this h_this_numeral h_this_room h_this_size h_this_tape h_this_room_row h_this_tape_row c_this_room_row c_this_tape_row v_valueKind v_valueNumber v_valueExponent v_numeral_next v_numeral_negative v_numeral_sixteen v_numeral_hasPoint v_numeral_hasPower v_numeral_from v_numeral_to v_numeral_before v_numeral_digits v_numeral_power v_numeral_found v_room_first v_room_last v_size_factor v_size_power v_size_infinite v_tape_length a_room_row a_tape_row) → va_S A s.heap H locs → lv_has ls 2 [(0, .ref h_this)] → f_N_read v_valueKind v_valueNumber v_valueExponent v_numeral_next v_numeral_negative v_numeral_sixteen v_numeral_hasPoint v_numeral_hasPower v_numeral_from v_numeral_to v_numeral_before v_numeral_digits v_numeral_power v_numeral_found v_room_first v_room_last v_size_factor v_size_power v_size_infinite v_tape_length a_room_row a_tape_row = some res → W p l e ({ frames := 8, cells := 0, slots := 0, locals := 193 }) s m args below meth c H locs 0 0 (MQ below (va_Qi (fun (r : Int32) (u : Int32 × Int64 × Int32 × Int32 × Int32 × Int32 × Int32 × Int32 × Int32 × Int32 × Int32 × Int32 × Int32 × Int64 × Int32 × Int32 × Int64 × Int32 × Int32 × Int32 × (Nat → Int32)) => some (r, u) = some res) (gB (dC, dI) [(c_this_room_row, .int), (c_this_tape_row, .byte)] A (fun (u : Int32 × Int64 × Int32 × Int32 × Int32 × Int32 × Int32 × Int32 × Int32 × Int32 × Int32 × Int32 × Int32 × Int64 × Int32 × Int32 × Int64 × Int32 × Int32 × Int32 × (Nat → Int32)) => (WS_N_read g_this_exact g_this_again g_this_page g_this_writer h_this h_this_numeral h_this_room h_this_size h_this_tape h_this_room_row h_this_tape_row c_this_room_row c_this_tape_row u.1 u.2.1 u.2.2.1 u.2.2.2.1 u.2.2.2.2.1 u.2.2.2.2.2.1 u.2.2.2.2.2.2.1 u.2.2.2.2.2.2.2.1 u.2.2.2.2.2.2.2.2.1 u.2.2.2.2.2.2.2.2.2.1 u.2.2.2.2.2.2.2.2.2.2.1 u.2.2.2.2.2.2.2.2.2.2.2.1 u.2.2.2.2.2.2.2.2.2.2.2.2.1 u.2.2.2.2.2.2.2.2.2.2.2.2.2.1 u.2.2.2.2.2.2.2.2.2.2.2.2.2.2.1 u.2.2.2.2.2.2.2.2.2.2.2.2.2.2.2.1 u.2.2.2.2.2.2.2.2.2.2.2.2.2.2.2.2.1 u.2.2.2.2.2.2.2.2.2.2.2.2.2.2.2.2.2.1 u.2.2.2.2.2.2.2.2.2.2.2.2.2.2.2.2.2.2.1 u.2.2.2.2.2.2.2.2.2.2.2.2.2.2.2.2.2.2.2.1 u.2.2.2.2.2.2.2.2.2.2.2.2.2.2.2.2.2.2.2.2 a_tape_row))) A) args s 0 0 A) (F0 m 0 ls []) := by
  intro v_valueKind v_valueNumber v_valueExponent v_numeral_next v_numeral_negative v_numeral_sixteen v_numeral_hasPoint v_numeral_hasPower v_numeral_from v_numeral_to v_numeral_before v_numeral_digits v_numeral_power v_numeral_found v_room_first v_room_last v_size_factor v_size_power v_size_infinite v_tape_length a_room_row a_tape_row H locs ls hP hD hS hl h
  obtain ⟨hx, hb, hr, hml, hown, ht, hlk⟩ := id cx
  refine lv_aload_n hx hb d_N_read_0 rfl (lv_at hl 0 rfl) ?_
  refine va_get (D := (dC, dI)) (ci := 0) (v := .ref h_this_numeral) (C := R_N) (T := F_N) (N := 11) hx hb ht i_N hown hK hP 0 rfl rfl 1 (by decide) (ht _ q_193) (fun _ h9 => h9) rfl d_N_read_1 ?_
  obtain ⟨r3, v4, v5, v6, v7, v8, v9, v10, v11, v12, v13, hf, h⟩ := bi11_x h
  refine clVi (D := (dC, dI)) (n := 0) (As := []) ⟨hx, hb, hml, hown, ht⟩ (c_Numeral_scan l dC dI X h_this_numeral h_this_tape h_this_tape_row c_this_tape_row H.size v_numeral_next v_numeral_negative v_numeral_sixteen v_numeral_hasPoint v_numeral_hasPower v_numeral_from v_numeral_to v_numeral_before v_numeral_digits v_numeral_power v_numeral_found v_tape_length a_tape_row (r3, v4, v5, v6, v7, v8, v9, v10, v11, v12, v13) hf) (gV q_219 q_220 q_221 q_24 q_222) (by decide +kernel) ⟨rfl, rfl, Nat.le_of_ble_eq_true rfl, Nat.le_of_ble_eq_true rfl⟩ hK hP hD hS hA hX [1, 4, 6] [0, 2, 3, 5] [1] rfl (wr := [(h_this, .inr (0, [.ref h_this_tape, .ref h_this_numeral, .ref h_this_room, .ref g_this_exact, .ref h_this_size, .ref g_this_again, .ref g_this_page, .ref g_this_writer, .int v_valueKind, .long v_valueNumber, .int v_valueExponent])), (h_this_room, .inr (3, [.ref h_this_room_row, .int v_room_first, .int v_room_last])), (h_this_size, .inr (4, [.long v_size_factor, .int v_size_power, .int v_size_infinite])), (h_this_room_row, .inl (c_this_room_row, 208, .inl a_room_row))]) rfl (by decide) (by decide) (by decide) rfl (va_recv hK hP (ci := 2) (q0 := 1) rfl rfl) rfl hl.1 rfl (lv_room (Nat.le_of_ble_eq_true rfl)) d_N_read_4 ⟨Nat.zero_le _, Nat.zero_le _⟩ (fun r9 u9 H locs h9 hP hD hS => ?_)
  cases h9
  have hP : va_P (dC, dI) classes (WS_N_read g_this_exact g_this_again g_this_page g_this_writer h_this h_this_numeral h_this_room h_this_size h_this_tape h_this_room_row h_this_tape_row c_this_room_row c_this_tape_row v_valueKind v_valueNumber v_valueExponent v4 v5 v6 v7 v8 v9 v10 v11 v12 v13 v_numeral_found v_room_first v_room_last v_size_factor v_size_power v_size_infinite v_tape_length a_room_row a_tape_row) H := hP.sub [0, 4, 1, 2, 5, 3, 6] rfl
  have hD : va_D A (WS_N_read g_this_exact g_this_again g_this_page g_this_writer h_this h_this_numeral h_this_room h_this_size h_this_tape h_this_room_row h_this_tape_row c_this_room_row c_this_tape_row v_valueKind v_valueNumber v_valueExponent v4 v5 v6 v7 v8 v9 v10 v11 v12 v13 v_numeral_found v_room_first v_room_last v_size_factor v_size_power v_size_infinite v_tape_length a_room_row a_tape_row) := hD.sub [0, 4, 1, 2, 5, 3, 6] (by decide) rfl
  refine lv_istore_n (lv' := [(1, .int r3), (0, .ref h_this)]) hx hb d_N_read_7 rfl hl (by decide) rfl (fun ls hl => ?_)
  refine lv_iload_n hx hb d_N_read_8 rfl (lv_at hl 0 rfl) ?_
  refine lv_iconst (v := -1) hx hb d_N_read_9 (by decide) ?_
  refine lv_icmp_ne (tgt := 17) hx hb d_N_read_10 (by decide) (fun c14 => ?_) (fun c14 => ?_)
  · have h := if_f c14 h
    exact s_N_read_17 cx hK hA hX v_valueKind v_valueNumber v_valueExponent v4 v5 v6 v7 v8 v9 v10 v11 v12 v13 v_numeral_found v_room_first v_room_last v_size_factor v_size_power v_size_infinite v_tape_length a_room_row a_tape_row r3 H locs ls hP hD hS (lv_sub hl [1, 0] rfl) h
  · have h := if_t c14 h
    refine lv_aload_n hx hb d_N_read_13 rfl (lv_at hl 1 rfl) ?_
    obtain ⟨v15, v16, v17, v18, v19, v20, v21, v22, v23, a24, hf, h⟩ := bi10_x h
    refine clVv (D := (dC, dI)) (n := 0) (As := []) ⟨hx, hb, hml, hown, ht⟩ (c_N_takeNumeral l dC dI X g_this_exact g_this_again g_this_page g_this_writer h_this h_this_numeral h_this_room h_this_size h_this_tape h_this_room_row h_this_tape_row c_this_room_row c_this_tape_row H.size v_valueKind v_valueNumber v_valueExponent v4 v5 v6 v7 v8 v9 v10 v11 v12 v13 v_numeral_found v_room_first v_room_last v_size_factor v_size_power v_size_infinite v_tape_length a_room_row a_tape_row (v15, v16, v17, v18, v19, v20, v21, v22, v23, a24) hf) (gV q_223 q_224 q_225 q_86 q_226) (by decide +kernel) ⟨rfl, rfl, Nat.le_of_ble_eq_true rfl, Nat.le_of_ble_eq_true rfl⟩ hK hP hD hS hA hX [0, 1, 2, 3, 4, 5, 6] [] [0, 1] rfl (wr := []) rfl (by decide) (by decide) (by decide) rfl (va_recv hK hP (ci := 0) (q0 := 0) rfl rfl) rfl hl.1 rfl (lv_room (Nat.le_of_ble_eq_true rfl)) d_N_read_14 ⟨Nat.zero_le _, Nat.zero_le _⟩ (fun u9 H locs h9 hP hD hS => ?_)
    cases h9
    have hP : va_P (dC, dI) classes (WS_N_read g_this_exact g_this_again g_this_page g_this_writer h_this h_this_numeral h_this_room h_this_size h_this_tape h_this_room_row h_this_tape_row c_this_room_row c_this_tape_row v15 v16 v17 v4 v5 v6 v7 v8 v9 v10 v11 v12 v13 v18 v19 v20 v21 v22 v23 v_tape_length a24 a_tape_row) H := hP.sub [0, 1, 2, 3, 4, 5, 6] rfl
    have hD : va_D A (WS_N_read g_this_exact g_this_again g_this_page g_this_writer h_this h_this_numeral h_this_room h_this_size h_this_tape h_this_room_row h_this_tape_row c_this_room_row c_this_tape_row v15 v16 v17 v4 v5 v6 v7 v8 v9 v10 v11 v12 v13 v18 v19 v20 v21 v22 v23 v_tape_length a24 a_tape_row) := hD.sub [0, 1, 2, 3, 4, 5, 6] (by decide) rfl
    exact s_N_read_17 cx hK hA hX v15 v16 v17 v4 v5 v6 v7 v8 v9 v10 v11 v12 v13 v18 v19 v20 v21 v22 v23 v_tape_length a24 a_tape_row r3 H locs ls hP hD hS (lv_sub hl [1, 0] rfl) h
set_option maxHeartbeats 4000000 in
set_option maxRecDepth 100000 in
theorem c_N_read (l : Launch) (dC : Nat → ClassId) (dI : Nat → Nat → Nat) (X : SXT) (g_this_exact : Nat) (g_this_again : Nat) (g_this_page : Nat) (g_this_writer : Nat) (h_this : Nat) (h_this_numeral : Nat) (h_this_room : Nat) (h_this_size : Nat) (h_this_tape : Nat) (h_this_room_row : Nat) (h_this_tape_row : Nat) (c_this_room_row : ClassId) (c_this_tape_row : ClassId) (sz : Nat) (v_valueKind : Int32) (v_valueNumber : Int64) (v_valueExponent : Int32) (v_numeral_next : Int32) (v_numeral_negative : Int32) (v_numeral_sixteen : Int32) (v_numeral_hasPoint : Int32) (v_numeral_hasPower : Int32) (v_numeral_from : Int32) (v_numeral_to : Int32) (v_numeral_before : Int32) (v_numeral_digits : Int32) (v_numeral_power : Int32) (v_numeral_found : Int64) (v_room_first : Int32) (v_room_last : Int32) (v_size_factor : Int64) (v_size_power : Int32) (v_size_infinite : Int32) (v_tape_length : Int32) (a_room_row : (Nat → Int32)) (a_tape_row : (Nat → Int32)) (res : Int32 × Int32 × Int64 × Int32 × Int32 × Int32 × Int32 × Int32 × Int32 × Int32 × Int32 × Int32 × Int32 × Int32 × Int64 × Int32 × Int32 × Int64 × Int32 × Int32 × Int32 × (Nat → Int32)) (hf : f_N_read v_valueKind v_valueNumber v_valueExponent v_numeral_next v_numeral_negative v_numeral_sixteen v_numeral_hasPoint v_numeral_hasPower v_numeral_from v_numeral_to v_numeral_before v_numeral_digits v_numeral_power v_numeral_found v_room_first v_room_last v_size_factor v_size_power v_size_infinite v_tape_length a_room_row a_tape_row = some res) : Met l y_N_read (.code y_N_read b_N_read 2 (some .int) :: w0) ({ frames := 8, cells := 0, slots := 0, locals := 193 }) (va_Pc [.ref h_this] (gP (dC, dI) (WS_N_read g_this_exact g_this_again g_this_page g_this_writer h_this h_this_numeral h_this_room h_this_size h_this_tape h_this_room_row h_this_tape_row c_this_room_row c_this_tape_row v_valueKind v_valueNumber v_valueExponent v_numeral_next v_numeral_negative v_numeral_sixteen v_numeral_hasPoint v_numeral_hasPower v_numeral_from v_numeral_to v_numeral_before v_numeral_digits v_numeral_power v_numeral_found v_room_first v_room_last v_size_factor v_size_power v_size_infinite v_tape_length a_room_row a_tape_row) [(c_this_room_row, .int), (c_this_tape_row, .byte)] sz X)) (va_Qi (fun (r : Int32) (u : Int32 × Int64 × Int32 × Int32 × Int32 × Int32 × Int32 × Int32 × Int32 × Int32 × Int32 × Int32 × Int32 × Int64 × Int32 × Int32 × Int64 × Int32 × Int32 × Int32 × (Nat → Int32)) => some (r, u) = some res) (gB (dC, dI) [(c_this_room_row, .int), (c_this_tape_row, .byte)] (va_A (WS_N_read g_this_exact g_this_again g_this_page g_this_writer h_this h_this_numeral h_this_room h_this_size h_this_tape h_this_room_row h_this_tape_row c_this_room_row c_this_tape_row v_valueKind v_valueNumber v_valueExponent v_numeral_next v_numeral_negative v_numeral_sixteen v_numeral_hasPoint v_numeral_hasPower v_numeral_from v_numeral_to v_numeral_before v_numeral_digits v_numeral_power v_numeral_found v_room_first v_room_last v_size_factor v_size_power v_size_infinite v_tape_length a_room_row a_tape_row) sz) (fun (u : Int32 × Int64 × Int32 × Int32 × Int32 × Int32 × Int32 × Int32 × Int32 × Int32 × Int32 × Int32 × Int32 × Int64 × Int32 × Int32 × Int64 × Int32 × Int32 × Int32 × (Nat → Int32)) => (WS_N_read g_this_exact g_this_again g_this_page g_this_writer h_this h_this_numeral h_this_room h_this_size h_this_tape h_this_room_row h_this_tape_row c_this_room_row c_this_tape_row u.1 u.2.1 u.2.2.1 u.2.2.2.1 u.2.2.2.2.1 u.2.2.2.2.2.1 u.2.2.2.2.2.2.1 u.2.2.2.2.2.2.2.1 u.2.2.2.2.2.2.2.2.1 u.2.2.2.2.2.2.2.2.2.1 u.2.2.2.2.2.2.2.2.2.2.1 u.2.2.2.2.2.2.2.2.2.2.2.1 u.2.2.2.2.2.2.2.2.2.2.2.2.1 u.2.2.2.2.2.2.2.2.2.2.2.2.2.1 u.2.2.2.2.2.2.2.2.2.2.2.2.2.2.1 u.2.2.2.2.2.2.2.2.2.2.2.2.2.2.2.1 u.2.2.2.2.2.2.2.2.2.2.2.2.2.2.2.2.1 u.2.2.2.2.2.2.2.2.2.2.2.2.2.2.2.2.2.1 u.2.2.2.2.2.2.2.2.2.2.2.2.2.2.2.2.2.2.1 u.2.2.2.2.2.2.2.2.2.2.2.2.2.2.2.2.2.2.2.1 u.2.2.2.2.2.2.2.2.2.2.2.2.2.2.2.2.2.2.2.2 a_tape_row))) (va_A (WS_N_read g_this_exact g_this_again g_this_page g_this_writer h_this h_this_numeral h_this_room h_this_size h_this_tape h_this_room_row h_this_tape_row c_this_room_row c_this_tape_row v_valueKind v_valueNumber v_valueExponent v_numeral_next v_numeral_negative v_numeral_sixteen v_numeral_hasPoint v_numeral_hasPower v_numeral_from v_numeral_to v_numeral_before v_numeral_digits v_numeral_power v_numeral_found v_room_first v_room_last v_size_factor v_size_power v_size_infinite v_tape_length a_room_row a_tape_row) sz)) 0 0 (va_A (WS_N_read g_this_exact g_this_again g_this_page g_this_writer h_this h_this_numeral h_this_room h_this_size h_this_tape h_this_room_row h_this_tape_row c_this_room_row c_this_tape_row v_valueKind v_valueNumber v_valueExponent v_numeral_next v_numeral_negative v_numeral_sixteen v_numeral_hasPoint v_numeral_hasPower v_numeral_from v_numeral_to v_numeral_before v_numeral_digits v_numeral_power v_numeral_found v_room_first v_room_last v_size_factor v_size_power v_size_infinite v_tape_length a_room_row a_tape_row) sz) := by
  refine Met.ofW (cc := b_N_read) (maxL := 2) (ret := (some .int)) (by decide) rfl ?_
  intro p e s m args below meth c s₁ B hml hv
  obtain ⟨rfl, hsz, hP, hK, hD0, hX⟩ := hv
  subst hsz
  have cx : cxx p s m ([.ref h_this] : List Value).toArray meth c b_N_read 2 (some .int) R_N := ⟨B.exec, B.bytes, B.returns, hml, findClass_of_methodNamed B.named, fun w9 hw => atoms_spec (ws := .code y_N_read b_N_read 2 (some .int) :: w0) B.pre w9 (List.mem_cons_of_mem _ hw), B.notSynchronized⟩
  have hD := hD0.self (sz := s.heap.size)
  generalize hAe : va_A (WS_N_read g_this_exact g_this_again g_this_page g_this_writer h_this h_this_numeral h_this_room h_this_size h_this_tape h_this_room_row h_this_tape_row c_this_room_row c_this_tape_row v_valueKind v_valueNumber v_valueExponent v_numeral_next v_numeral_negative v_numeral_sixteen v_numeral_hasPoint v_numeral_hasPower v_numeral_from v_numeral_to v_numeral_before v_numeral_digits v_numeral_power v_numeral_found v_room_first v_room_last v_size_factor v_size_power v_size_infinite v_tape_length a_room_row a_tape_row) s.heap.size = A at hD hX ⊢
  have hA : ∀ q : Nat, s.heap.size ≤ q → A q := fun q h => by rw [← hAe]; exact Or.inr h
  have hS : va_S A s.heap s.heap [] := va_S.rf
  have hl := lv_entry ([.ref h_this]) (n := 2) (Nat.le_of_ble_eq_true rfl)
  rw [lg_entry_eq]
  generalize (lg_sl ([.ref h_this]) ++ List.replicate (2 - (lg_sl ([.ref h_this])).length) Slot.unset).toArray = ls at hl ⊢
  have hl : lv_has ls 2 [(0, .ref h_this)] := hl
  exact s_N_read_e cx hK hA hX v_valueKind v_valueNumber v_valueExponent v_numeral_next v_numeral_negative v_numeral_sixteen v_numeral_hasPoint v_numeral_hasPower v_numeral_from v_numeral_to v_numeral_before v_numeral_digits v_numeral_power v_numeral_found v_room_first v_room_last v_size_factor v_size_power v_size_infinite v_tape_length a_room_row a_tape_row s.heap [] ls hP hD hS hl hf
abbrev WS_N_whole (g_this_tape : Nat) (g_this_numeral : Nat) (g_this_room : Nat) (g_this_exact : Nat) (g_this_size : Nat) (g_this_again : Nat) (g_this_page : Nat) (g_this_writer : Nat) (h_this : Nat)  (v_valueKind : Int32) (v_valueNumber : Int64) (v_valueExponent : Int32) : va_W := [(h_this, .inr (0, [.ref g_this_tape, .ref g_this_numeral, .ref g_this_room, .ref g_this_exact, .ref g_this_size, .ref g_this_again, .ref g_this_page, .ref g_this_writer, .int v_valueKind, .long v_valueNumber, .int v_valueExponent]))]
def f_N_whole (v_valueKind : Int32) (v_valueNumber : Int64) (v_valueExponent : Int32) (p1 : Int64) : Option (Int32 × Int64 × Int32) :=
  bi3 (f_N_setValue v_valueKind v_valueNumber v_valueExponent (1 : Int32) p1 (0 : Int32)) fun v1 v2 v3 =>
  some (v1, v2, v3)
set_option maxHeartbeats 4000000 in
set_option maxRecDepth 100000 in
theorem s_N_whole_e {p : Program} {l : Launch} {e : Env} {s : State} {m : MethodId} {args : Array Value} {below : List Frame} {meth : Method} {c : Code} {dC : Nat → ClassId} {dI : Nat → Nat → Nat} {A : Nat → Prop} {X : SXT} {g_this_tape : Nat} {g_this_numeral : Nat} {g_this_room : Nat} {g_this_exact : Nat} {g_this_size : Nat} {g_this_again : Nat} {g_this_page : Nat} {g_this_writer : Nat} {h_this : Nat} {res : Int32 × Int64 × Int32} (cx : cxx p s m args meth c b_N_whole 3 none R_N) (hK : va_K (dC, dI) classes [] s) (hA : ∀ q, s.heap.size ≤ q → A q) (hX : SX X A s s.heap) : ∀ (v_valueKind : Int32) (v_valueNumber : Int64) (v_valueExponent : Int32) (p1 : Int64) (H : Heap) (locs : List Loc) (ls : Array Slot), va_P (dC, dI) classes (WS_N_whole g_this_tape g_this_numeral g_this_room g_this_exact g_this_size g_this_again g_this_page g_this_writer h_this v_valueKind v_valueNumber v_valueExponent) H → va_D A (WS_N_whole g_this_tape g_this_numeral g_this_room g_this_exact g_this_size g_this_again g_this_page g_this_writer h_this v_valueKind v_valueNumber v_valueExponent) → va_S A s.heap H locs → lv_has ls 3 [(0, .ref h_this), (1, .long p1)] → f_N_whole v_valueKind v_valueNumber v_valueExponent p1 = some res → W p l e ({ frames := 1, cells := 0, slots := 0, locals := 24 }) s m args below meth c H locs 0 0 (MQ below (va_Qv (fun (u : Int32 × Int64 × Int32) => some u = some res) (gB (dC, dI) [] A (fun (u : Int32 × Int64 × Int32) => (WS_N_whole g_this_tape g_this_numeral g_this_room g_this_exact g_this_size g_this_again g_this_page g_this_writer h_this u.1 u.2.1 u.2.2))) A) args s 0 0 A) (F0 m 0 ls []) := by
  intro v_valueKind v_valueNumber v_valueExponent p1 H locs ls hP hD hS hl h
  obtain ⟨hx, hb, hr, hml, hown, ht, hlk⟩ := id cx
  refine lv_aload_n hx hb d_N_whole_0 rfl (lv_at hl 0 rfl) ?_
  refine lv_iconst (v := 1) hx hb d_N_whole_1 (by decide) ?_
  refine lv_lload_n hx hb d_N_whole_2 rfl (lv_at hl 1 rfl) ?_
  refine lv_iconst (v := 0) hx hb d_N_whole_3 (by decide) ?_
  obtain ⟨v1, v2, v3, hf, h⟩ := bi3_x h
  refine clVv (D := (dC, dI)) (n := 3) (As := [.int (1 : Int32), .long p1, .int (0 : Int32)]) ⟨hx, hb, hml, hown, ht⟩ (c_N_setValue l dC dI X g_this_tape g_this_numeral g_this_room g_this_exact g_this_size g_this_again g_this_page g_this_writer h_this H.size v_valueKind v_valueNumber v_valueExponent (1 : Int32) p1 (0 : Int32) (v1, v2, v3) hf) (gV q_181 q_182 q_183 q_86 q_184) (by decide +kernel) ⟨rfl, rfl, Nat.le_of_ble_eq_true rfl, Nat.le_of_ble_eq_true rfl⟩ hK hP hD hS hA hX [0] [] [] rfl (wr := []) rfl (by decide) (by decide) (by decide) rfl (va_recv hK hP (ci := 0) (q0 := 0) rfl rfl) rfl hl.1 rfl (lv_room (Nat.le_of_ble_eq_true rfl)) d_N_whole_4 ⟨Nat.zero_le _, Nat.zero_le _⟩ (fun u9 H locs h9 hP hD hS => ?_)
  cases h9
  have hP : va_P (dC, dI) classes (WS_N_whole g_this_tape g_this_numeral g_this_room g_this_exact g_this_size g_this_again g_this_page g_this_writer h_this v1 v2 v3) H := hP.sub [0] rfl
  have hD : va_D A (WS_N_whole g_this_tape g_this_numeral g_this_room g_this_exact g_this_size g_this_again g_this_page g_this_writer h_this v1 v2 v3) := hD.sub [0] (by decide) rfl
  exact W.vret hx hb hr (fun t ht9 hW => ⟨⟨(v1, v2, v3), rfl, h, by rw [ht9]; exact hP, va_K.moved hW.alike hK, hD⟩, hS.F ht9⟩) hS.2.2 d_N_whole_7 hlk
set_option maxHeartbeats 4000000 in
set_option maxRecDepth 100000 in
theorem c_N_whole (l : Launch) (dC : Nat → ClassId) (dI : Nat → Nat → Nat) (X : SXT) (g_this_tape : Nat) (g_this_numeral : Nat) (g_this_room : Nat) (g_this_exact : Nat) (g_this_size : Nat) (g_this_again : Nat) (g_this_page : Nat) (g_this_writer : Nat) (h_this : Nat) (sz : Nat) (v_valueKind : Int32) (v_valueNumber : Int64) (v_valueExponent : Int32) (p1 : Int64) (res : Int32 × Int64 × Int32) (hf : f_N_whole v_valueKind v_valueNumber v_valueExponent p1 = some res) : Met l y_N_whole (.code y_N_whole b_N_whole 3 none :: w0) ({ frames := 1, cells := 0, slots := 0, locals := 24 }) (va_Pc [.ref h_this, .long p1] (gP (dC, dI) (WS_N_whole g_this_tape g_this_numeral g_this_room g_this_exact g_this_size g_this_again g_this_page g_this_writer h_this v_valueKind v_valueNumber v_valueExponent) [] sz X)) (va_Qv (fun (u : Int32 × Int64 × Int32) => some u = some res) (gB (dC, dI) [] (va_A (WS_N_whole g_this_tape g_this_numeral g_this_room g_this_exact g_this_size g_this_again g_this_page g_this_writer h_this v_valueKind v_valueNumber v_valueExponent) sz) (fun (u : Int32 × Int64 × Int32) => (WS_N_whole g_this_tape g_this_numeral g_this_room g_this_exact g_this_size g_this_again g_this_page g_this_writer h_this u.1 u.2.1 u.2.2))) (va_A (WS_N_whole g_this_tape g_this_numeral g_this_room g_this_exact g_this_size g_this_again g_this_page g_this_writer h_this v_valueKind v_valueNumber v_valueExponent) sz)) 0 0 (va_A (WS_N_whole g_this_tape g_this_numeral g_this_room g_this_exact g_this_size g_this_again g_this_page g_this_writer h_this v_valueKind v_valueNumber v_valueExponent) sz) := by
  refine Met.ofW (cc := b_N_whole) (maxL := 3) (ret := none) (by decide) rfl ?_
  intro p e s m args below meth c s₁ B hml hv
  obtain ⟨rfl, hsz, hP, hK, hD0, hX⟩ := hv
  subst hsz
  have cx : cxx p s m ([.ref h_this, .long p1] : List Value).toArray meth c b_N_whole 3 none R_N := ⟨B.exec, B.bytes, B.returns, hml, findClass_of_methodNamed B.named, fun w9 hw => atoms_spec (ws := .code y_N_whole b_N_whole 3 none :: w0) B.pre w9 (List.mem_cons_of_mem _ hw), B.notSynchronized⟩
  have hD := hD0.self (sz := s.heap.size)
  generalize hAe : va_A (WS_N_whole g_this_tape g_this_numeral g_this_room g_this_exact g_this_size g_this_again g_this_page g_this_writer h_this v_valueKind v_valueNumber v_valueExponent) s.heap.size = A at hD hX ⊢
  have hA : ∀ q : Nat, s.heap.size ≤ q → A q := fun q h => by rw [← hAe]; exact Or.inr h
  have hS : va_S A s.heap s.heap [] := va_S.rf
  have hl := lv_entry ([.ref h_this, .long p1]) (n := 3) (Nat.le_of_ble_eq_true rfl)
  rw [lg_entry_eq]
  generalize (lg_sl ([.ref h_this, .long p1]) ++ List.replicate (3 - (lg_sl ([.ref h_this, .long p1])).length) Slot.unset).toArray = ls at hl ⊢
  have hl : lv_has ls 3 [(0, .ref h_this), (1, .long p1)] := hl
  exact s_N_whole_e cx hK hA hX v_valueKind v_valueNumber v_valueExponent p1 s.heap [] ls hP hD hS hl hf
abbrev WS_N_real (g_this_tape : Nat) (g_this_numeral : Nat) (g_this_room : Nat) (g_this_exact : Nat) (g_this_again : Nat) (g_this_page : Nat) (g_this_writer : Nat) (h_this : Nat) (h_this_size : Nat)  (v_valueKind : Int32) (v_valueNumber : Int64) (v_valueExponent : Int32) (v_size_factor : Int64) (v_size_power : Int32) (v_size_infinite : Int32) : va_W := [(h_this, .inr (0, [.ref g_this_tape, .ref g_this_numeral, .ref g_this_room, .ref g_this_exact, .ref h_this_size, .ref g_this_again, .ref g_this_page, .ref g_this_writer, .int v_valueKind, .long v_valueNumber, .int v_valueExponent])), (h_this_size, .inr (4, [.long v_size_factor, .int v_size_power, .int v_size_infinite]))]
def f_N_real_65 (v_valueKind : Int32) (v_valueNumber : Int64) (v_valueExponent : Int32) (v_size_factor : Int64) (v_size_power : Int32) (v_size_infinite : Int32) (z1 : Int32) : Option (Int32 × Int32 × Int64 × Int32 × Int64 × Int32 × Int32) :=
  bi3 (f_N_takeSize v_valueKind v_valueNumber v_valueExponent v_size_factor v_size_power v_size_infinite z1) fun v1 v2 v3 =>
  some (v1, v1, v2, v3, v_size_factor, v_size_power, v_size_infinite)
def f_N_real_48 (v_valueKind : Int32) (v_valueNumber : Int64) (v_valueExponent : Int32) (v_size_factor : Int64) (v_size_power : Int32) (v_size_infinite : Int32) (y1 : Int64) (y3 : Int32) (z1 : Int64) : Option (Int32 × Int32 × Int64 × Int32 × Int64 × Int32 × Int32) :=
  bi3 (f_Size_setNearest v_size_factor v_size_power v_size_infinite z1 (0 : Int32) y3) fun v4 v5 v6 =>
  if (0 : Int64) ≤ y1 then
    f_N_real_65 v_valueKind v_valueNumber v_valueExponent v4 v5 v6 (0 : Int32)
  else
    f_N_real_65 v_valueKind v_valueNumber v_valueExponent v4 v5 v6 (1 : Int32)
def f_N_real (v_valueKind : Int32) (v_valueNumber : Int64) (v_valueExponent : Int32) (v_size_factor : Int64) (v_size_power : Int32) (v_size_infinite : Int32) (p1 : Int64) (p3 : Int32) : Option (Int32 × Int32 × Int64 × Int32 × Int64 × Int32 × Int32) :=
  if p1 < (-9007199254740992 : Int64) then
    some ((-1 : Int32), v_valueKind, v_valueNumber, v_valueExponent, v_size_factor, v_size_power, v_size_infinite)
  else
    if (9007199254740992 : Int64) < p1 then
      some ((-1 : Int32), v_valueKind, v_valueNumber, v_valueExponent, v_size_factor, v_size_power, v_size_infinite)
    else
      if p3 < (-1200 : Int32) then
        some ((-1 : Int32), v_valueKind, v_valueNumber, v_valueExponent, v_size_factor, v_size_power, v_size_infinite)
      else
        if p3 ≤ (1200 : Int32) then
          if (0 : Int64) ≤ p1 then
            f_N_real_48 v_valueKind v_valueNumber v_valueExponent v_size_factor v_size_power v_size_infinite p1 p3 p1
          else
            f_N_real_48 v_valueKind v_valueNumber v_valueExponent v_size_factor v_size_power v_size_infinite p1 p3 (-p1)
        else
          some ((-1 : Int32), v_valueKind, v_valueNumber, v_valueExponent, v_size_factor, v_size_power, v_size_infinite)
set_option maxHeartbeats 4000000 in
set_option maxRecDepth 100000 in
theorem s_N_real_65 {p : Program} {l : Launch} {e : Env} {s : State} {m : MethodId} {args : Array Value} {below : List Frame} {meth : Method} {c : Code} {dC : Nat → ClassId} {dI : Nat → Nat → Nat} {A : Nat → Prop} {X : SXT} {g_this_tape : Nat} {g_this_numeral : Nat} {g_this_room : Nat} {g_this_exact : Nat} {g_this_again : Nat} {g_this_page : Nat} {g_this_writer : Nat} {h_this : Nat} {h_this_size : Nat} {res : Int32 × Int32 × Int64 × Int32 × Int64 × Int32 × Int32}  (cx : cxx p s m args meth c b_N_real 4 (some .int) R_N) (hK : va_K (dC, dI) classes [] s) (hA : ∀ q, s.heap.size ≤ q → A q) (hX : SX X A s s.heap)  : ∀ (v_valueKind : Int32) (v_valueNumber : Int64) (v_valueExponent : Int32) (v_size_factor : Int64) (v_size_power : Int32) (v_size_infinite : Int32) (z1 : Int32) (H : Heap) (locs : List Loc) (ls : Array Slot), va_P (dC, dI) classes (WS_N_real g_this_tape g_this_numeral g_this_room g_this_exact g_this_again g_this_page g_this_writer h_this h_this_size v_valueKind v_valueNumber v_valueExponent v_size_factor v_size_power v_size_infinite) H → va_D A (WS_N_real g_this_tape g_this_numeral g_this_room g_this_exact g_this_again g_this_page g_this_writer h_this h_this_size v_valueKind v_valueNumber v_valueExponent v_size_factor v_size_power v_size_infinite) → va_S A s.heap H locs → lv_has ls 4 [(0, .ref h_this)] → f_N_real_65 v_valueKind v_valueNumber v_valueExponent v_size_factor v_size_power v_size_infinite z1 = some res → W p l e ({ frames := 5, cells := 0, slots := 0, locals := 120 }) s m args below meth c H locs 0 0 (MQ below (va_Qi (fun (r : Int32) (u : Int32 × Int64 × Int32 × Int64 × Int32 × Int32) => some (r, u) = some res) (gB (dC, dI) [] A (fun (u : Int32 × Int64 × Int32 × Int64 × Int32 × Int32) => (WS_N_real g_this_tape g_this_numeral g_this_room g_this_exact g_this_again g_this_page g_this_writer h_this h_this_size u.1 u.2.1 u.2.2.1 u.2.2.2.1 u.2.2.2.2.1 u.2.2.2.2.2))) A) args s 0 0 A) (F0 m 65 ls [.int z1, .ref h_this]) := by
  intro v_valueKind v_valueNumber v_valueExponent v_size_factor v_size_power v_size_infinite z1 H locs ls hP hD hS hl h
  obtain ⟨hx, hb, hr, hml, hown, ht, hlk⟩ := id cx
  obtain ⟨v1, v2, v3, hf, h⟩ := bi3_x h
  refine clVv (D := (dC, dI)) (n := 1) (As := [.int z1]) ⟨hx, hb, hml, hown, ht⟩ (c_N_takeSize l dC dI X g_this_tape g_this_numeral g_this_room g_this_exact g_this_again g_this_page g_this_writer h_this h_this_size H.size v_valueKind v_valueNumber v_valueExponent v_size_factor v_size_power v_size_infinite z1 (v1, v2, v3) hf) (gV q_207 q_208 q_209 q_86 q_210) (by decide +kernel) ⟨rfl, rfl, Nat.le_of_ble_eq_true rfl, Nat.le_of_ble_eq_true rfl⟩ hK hP hD hS hA hX [0, 1] [] [] rfl (wr := []) rfl (by decide) (by decide) (by decide) rfl (va_recv hK hP (ci := 0) (q0 := 0) rfl rfl) rfl hl.1 rfl (lv_room (Nat.le_of_ble_eq_true rfl)) d_N_real_65 ⟨Nat.zero_le _, Nat.zero_le _⟩ (fun u9 H locs h9 hP hD hS => ?_)
  cases h9
  have hP : va_P (dC, dI) classes (WS_N_real g_this_tape g_this_numeral g_this_room g_this_exact g_this_again g_this_page g_this_writer h_this h_this_size v1 v2 v3 v_size_factor v_size_power v_size_infinite) H := hP.sub [0, 1] rfl
  have hD : va_D A (WS_N_real g_this_tape g_this_numeral g_this_room g_this_exact g_this_again g_this_page g_this_writer h_this h_this_size v1 v2 v3 v_size_factor v_size_power v_size_infinite) := hD.sub [0, 1] (by decide) rfl
  refine lv_aload_n hx hb d_N_real_68 rfl (lv_at hl 0 rfl) ?_
  refine va_get (D := (dC, dI)) (ci := 0) (v := .int v1) (C := R_N) (T := F_N) (N := 11) hx hb ht i_N hown hK hP 0 rfl rfl 8 (by decide) (ht _ q_67) (fun _ h9 => h9) rfl d_N_real_69 ?_
  exact W.iret (v := v1) hx hb hr (fun t ht9 hW => ⟨⟨v1, (v1, v2, v3, v_size_factor, v_size_power, v_size_infinite), rfl, h, by rw [ht9]; exact hP, va_K.moved hW.alike hK, hD⟩, hS.F ht9⟩) hS.2.2 d_N_real_72 hlk
set_option maxHeartbeats 4000000 in
set_option maxRecDepth 100000 in
theorem s_N_real_48 {p : Program} {l : Launch} {e : Env} {s : State} {m : MethodId} {args : Array Value} {below : List Frame} {meth : Method} {c : Code} {dC : Nat → ClassId} {dI : Nat → Nat → Nat} {A : Nat → Prop} {X : SXT} {g_this_tape : Nat} {g_this_numeral : Nat} {g_this_room : Nat} {g_this_exact : Nat} {g_this_again : Nat} {g_this_page : Nat} {g_this_writer : Nat} {h_this : Nat} {h_this_size : Nat} {res : Int32 × Int32 × Int64 × Int32 × Int64 × Int32 × Int32}  (cx : cxx p s m args meth c b_N_real 4 (some .int) R_N) (hK : va_K (dC, dI) classes [] s) (hA : ∀ q, s.heap.size ≤ q → A q) (hX : SX X A s s.heap)  : ∀ (v_valueKind : Int32) (v_valueNumber : Int64) (v_valueExponent : Int32) (v_size_factor : Int64) (v_size_power : Int32) (v_size_infinite : Int32) (y1 : Int64) (y3 : Int32) (z1 : Int64) (H : Heap) (locs : List Loc) (ls : Array Slot), va_P (dC, dI) classes (WS_N_real g_this_tape g_this_numeral g_this_room g_this_exact g_this_again g_this_page g_this_writer h_this h_this_size v_valueKind v_valueNumber v_valueExponent v_size_factor v_size_power v_size_infinite) H → va_D A (WS_N_real g_this_tape g_this_numeral g_this_room g_this_exact g_this_again g_this_page g_this_writer h_this h_this_size v_valueKind v_valueNumber v_valueExponent v_size_factor v_size_power v_size_infinite) → va_S A s.heap H locs → lv_has ls 4 [(0, .ref h_this), (1, .long y1), (3, .int y3)] → f_N_real_48 v_valueKind v_valueNumber v_valueExponent v_size_factor v_size_power v_size_infinite y1 y3 z1 = some res → W p l e ({ frames := 5, cells := 0, slots := 0, locals := 120 }) s m args below meth c H locs 0 0 (MQ below (va_Qi (fun (r : Int32) (u : Int32 × Int64 × Int32 × Int64 × Int32 × Int32) => some (r, u) = some res) (gB (dC, dI) [] A (fun (u : Int32 × Int64 × Int32 × Int64 × Int32 × Int32) => (WS_N_real g_this_tape g_this_numeral g_this_room g_this_exact g_this_again g_this_page g_this_writer h_this h_this_size u.1 u.2.1 u.2.2.1 u.2.2.2.1 u.2.2.2.2.1 u.2.2.2.2.2))) A) args s 0 0 A) (F0 m 48 ls [.long z1, .ref h_this_size]) := by
  intro v_valueKind v_valueNumber v_valueExponent v_size_factor v_size_power v_size_infinite y1 y3 z1 H locs ls hP hD hS hl h
  obtain ⟨hx, hb, hr, hml, hown, ht, hlk⟩ := id cx
  refine lv_iconst (v := 0) hx hb d_N_real_48 (by decide) ?_
  refine lv_iload_n hx hb d_N_real_49 rfl (lv_at hl 2 rfl) ?_
  obtain ⟨v4, v5, v6, hf, h⟩ := bi3_x h
  refine clVv (D := (dC, dI)) (n := 3) (As := [.long z1, .int (0 : Int32), .int y3]) ⟨hx, hb, hml, hown, ht⟩ (c_Size_setNearest l dC dI X h_this_size H.size v_size_factor v_size_power v_size_infinite z1 (0 : Int32) y3 (v4, v5, v6) hf) (gV q_227 q_104 q_105 q_91 q_106) (by decide +kernel) ⟨rfl, rfl, Nat.le_of_ble_eq_true rfl, Nat.le_of_ble_eq_true rfl⟩ hK hP hD hS hA hX [1] [0] [] rfl (wr := [(h_this, .inr (0, [.ref g_this_tape, .ref g_this_numeral, .ref g_this_room, .ref g_this_exact, .ref h_this_size, .ref g_this_again, .ref g_this_page, .ref g_this_writer, .int v_valueKind, .long v_valueNumber, .int v_valueExponent]))]) rfl (by decide) (by decide) (by decide) rfl (va_recv hK hP (ci := 4) (q0 := 1) rfl rfl) rfl hl.1 rfl (lv_room (Nat.le_of_ble_eq_true rfl)) d_N_real_50 ⟨Nat.zero_le _, Nat.zero_le _⟩ (fun u9 H locs h9 hP hD hS => ?_)
  cases h9
  have hP : va_P (dC, dI) classes (WS_N_real g_this_tape g_this_numeral g_this_room g_this_exact g_this_again g_this_page g_this_writer h_this h_this_size v_valueKind v_valueNumber v_valueExponent v4 v5 v6) H := hP.sub [0, 1] rfl
  have hD : va_D A (WS_N_real g_this_tape g_this_numeral g_this_room g_this_exact g_this_again g_this_page g_this_writer h_this h_this_size v_valueKind v_valueNumber v_valueExponent v4 v5 v6) := hD.sub [0, 1] (by decide) rfl
  refine lv_aload_n hx hb d_N_real_53 rfl (lv_at hl 0 rfl) ?_
  refine lv_lload_n hx hb d_N_real_54 rfl (lv_at hl 1 rfl) ?_
  refine lv_lconst (v := 0) hx hb d_N_real_55 (by decide) ?_
  refine W.lcmp hx hb d_N_real_56 ?_
  refine lv_if_ge (tgt := 64) hx hb d_N_real_57 (by decide) (fun c7 => ?_) (fun c7 => ?_)
  · have c7 := (lg_cmp_ge _ _).mp c7
    have h := if_t c7 h
    refine lv_iconst (v := 0) hx hb d_N_real_64 (by decide) ?_
    exact s_N_real_65 cx hK hA hX v_valueKind v_valueNumber v_valueExponent v4 v5 v6 (0 : Int32) H locs ls hP hD hS (lv_sub hl [0] rfl) h
  · have c7 := fun h9 => c7 ((lg_cmp_ge _ _).mpr h9)
    have h := if_f c7 h
    refine lv_iconst (v := 1) hx hb d_N_real_60 (by decide) ?_
    refine lv_goto (tgt := 65) hx hb d_N_real_61 (by decide) ?_
    exact s_N_real_65 cx hK hA hX v_valueKind v_valueNumber v_valueExponent v4 v5 v6 (1 : Int32) H locs ls hP hD hS (lv_sub hl [0] rfl) h
set_option maxHeartbeats 4000000 in
set_option maxRecDepth 100000 in
theorem s_N_real_e {p : Program} {l : Launch} {e : Env} {s : State} {m : MethodId} {args : Array Value} {below : List Frame} {meth : Method} {c : Code} {dC : Nat → ClassId} {dI : Nat → Nat → Nat} {A : Nat → Prop} {X : SXT} {g_this_tape : Nat} {g_this_numeral : Nat} {g_this_room : Nat} {g_this_exact : Nat} {g_this_again : Nat} {g_this_page : Nat} {g_this_writer : Nat} {h_this : Nat} {h_this_size : Nat} {res : Int32 × Int32 × Int64 × Int32 × Int64 × Int32 × Int32} (cx : cxx p s m args meth c b_N_real 4 (some .int) R_N) (hK : va_K (dC, dI) classes [] s) (hA : ∀ q, s.heap.size ≤ q → A q) (hX : SX X A s s.heap) : ∀ (v_valueKind : Int32) (v_valueNumber : Int64) (v_valueExponent : Int32) (v_size_factor : Int64) (v_size_power : Int32) (v_size_infinite : Int32) (p1 : Int64) (p3 : Int32) (H : Heap) (locs : List Loc) (ls : Array Slot), va_P (dC, dI) classes (WS_N_real g_this_tape g_this_numeral g_this_room g_this_exact g_this_again g_this_page g_this_writer h_this h_this_size v_valueKind v_valueNumber v_valueExponent v_size_factor v_size_power v_size_infinite) H → va_D A (WS_N_real g_this_tape g_this_numeral g_this_room g_this_exact g_this_again g_this_page g_this_writer h_this h_this_size v_valueKind v_valueNumber v_valueExponent v_size_factor v_size_power v_size_infinite) → va_S A s.heap H locs → lv_has ls 4 [(0, .ref h_this), (1, .long p1), (3, .int p3)] → f_N_real v_valueKind v_valueNumber v_valueExponent v_size_factor v_size_power v_size_infinite p1 p3 = some res → W p l e ({ frames := 5, cells := 0, slots := 0, locals := 120 }) s m args below meth c H locs 0 0 (MQ below (va_Qi (fun (r : Int32) (u : Int32 × Int64 × Int32 × Int64 × Int32 × Int32) => some (r, u) = some res) (gB (dC, dI) [] A (fun (u : Int32 × Int64 × Int32 × Int64 × Int32 × Int32) => (WS_N_real g_this_tape g_this_numeral g_this_room g_this_exact g_this_again g_this_page g_this_writer h_this h_this_size u.1 u.2.1 u.2.2.1 u.2.2.2.1 u.2.2.2.2.1 u.2.2.2.2.2))) A) args s 0 0 A) (F0 m 0 ls []) := by
  intro v_valueKind v_valueNumber v_valueExponent v_size_factor v_size_power v_size_infinite p1 p3 H locs ls hP hD hS hl h
  obtain ⟨hx, hb, hr, hml, hown, ht, hlk⟩ := id cx
  refine lv_lload_n hx hb d_N_real_0 rfl (lv_at hl 1 rfl) ?_
  refine lv_ldc2 (v := -9007199254740992) hx hb hown (ht _ q_228) d_N_real_1 ?_
  refine W.lcmp hx hb d_N_real_4 ?_
  refine lv_if_lt (tgt := 30) hx hb d_N_real_5 (by decide) (fun c8 => ?_) (fun c8 => ?_)
  · have c8 := (lg_cmp_lt _ _).mp c8
    have h := if_t c8 h
    refine lv_iconst (v := -1) hx hb d_N_real_30 (by decide) ?_
    exact W.iret (v := (-1 : Int32)) hx hb hr (fun t ht9 hW => ⟨⟨(-1 : Int32), (v_valueKind, v_valueNumber, v_valueExponent, v_size_factor, v_size_power, v_size_infinite), rfl, h, by rw [ht9]; exact hP, va_K.moved hW.alike hK, hD⟩, hS.F ht9⟩) hS.2.2 d_N_real_31 hlk
  · have c8 := fun h9 => c8 ((lg_cmp_lt _ _).mpr h9)
    have h := if_f c8 h
    refine lv_lload_n hx hb d_N_real_8 rfl (lv_at hl 1 rfl) ?_
    refine lv_ldc2 (v := 9007199254740992) hx hb hown (ht _ q_229) d_N_real_9 ?_
    refine W.lcmp hx hb d_N_real_12 ?_
    refine lv_if_gt (tgt := 30) hx hb d_N_real_13 (by decide) (fun c9 => ?_) (fun c9 => ?_)
    · have c9 := (lg_cmp_gt _ _).mp c9
      have h := if_t c9 h
      refine lv_iconst (v := -1) hx hb d_N_real_30 (by decide) ?_
      exact W.iret (v := (-1 : Int32)) hx hb hr (fun t ht9 hW => ⟨⟨(-1 : Int32), (v_valueKind, v_valueNumber, v_valueExponent, v_size_factor, v_size_power, v_size_infinite), rfl, h, by rw [ht9]; exact hP, va_K.moved hW.alike hK, hD⟩, hS.F ht9⟩) hS.2.2 d_N_real_31 hlk
    · have c9 := fun h9 => c9 ((lg_cmp_gt _ _).mpr h9)
      have h := if_f c9 h
      refine lv_iload_n hx hb d_N_real_16 rfl (lv_at hl 2 rfl) ?_
      refine lv_sipush (v := -1200) hx hb d_N_real_17 (by decide) ?_
      refine lv_icmp_lt (tgt := 30) hx hb d_N_real_20 (by decide) (fun c10 => ?_) (fun c10 => ?_)
      · have h := if_t c10 h
        refine lv_iconst (v := -1) hx hb d_N_real_30 (by decide) ?_
        exact W.iret (v := (-1 : Int32)) hx hb hr (fun t ht9 hW => ⟨⟨(-1 : Int32), (v_valueKind, v_valueNumber, v_valueExponent, v_size_factor, v_size_power, v_size_infinite), rfl, h, by rw [ht9]; exact hP, va_K.moved hW.alike hK, hD⟩, hS.F ht9⟩) hS.2.2 d_N_real_31 hlk
      · have h := if_f c10 h
        refine lv_iload_n hx hb d_N_real_23 rfl (lv_at hl 2 rfl) ?_
        refine lv_sipush (v := 1200) hx hb d_N_real_24 (by decide) ?_
        refine lv_icmp_le (tgt := 32) hx hb d_N_real_27 (by decide) (fun c11 => ?_) (fun c11 => ?_)
        · have h := if_t c11 h
          refine lv_aload_n hx hb d_N_real_32 rfl (lv_at hl 0 rfl) ?_
          refine va_get (D := (dC, dI)) (ci := 0) (v := .ref h_this_size) (C := R_N) (T := F_N) (N := 11) hx hb ht i_N hown hK hP 0 rfl rfl 4 (by decide) (ht _ q_176) (fun _ h9 => h9) rfl d_N_real_33 ?_
          refine lv_lload_n hx hb d_N_real_36 rfl (lv_at hl 1 rfl) ?_
          refine lv_lconst (v := 0) hx hb d_N_real_37 (by decide) ?_
          refine W.lcmp hx hb d_N_real_38 ?_
          refine lv_if_ge (tgt := 47) hx hb d_N_real_39 (by decide) (fun c12 => ?_) (fun c12 => ?_)
          · have c12 := (lg_cmp_ge _ _).mp c12
            have h := if_t c12 h
            refine lv_lload_n hx hb d_N_real_47 rfl (lv_at hl 1 rfl) ?_
            exact s_N_real_48 cx hK hA hX v_valueKind v_valueNumber v_valueExponent v_size_factor v_size_power v_size_infinite p1 p3 p1 H locs ls hP hD hS (lv_sub hl [0, 1, 2] rfl) h
          · have c12 := fun h9 => c12 ((lg_cmp_ge _ _).mpr h9)
            have h := if_f c12 h
            refine lv_lload_n hx hb d_N_real_42 rfl (lv_at hl 1 rfl) ?_
            refine lv_lneg hx hb d_N_real_43 ?_
            refine lv_goto (tgt := 48) hx hb d_N_real_44 (by decide) ?_
            exact s_N_real_48 cx hK hA hX v_valueKind v_valueNumber v_valueExponent v_size_factor v_size_power v_size_infinite p1 p3 (-p1) H locs ls hP hD hS (lv_sub hl [0, 1, 2] rfl) h
        · have h := if_f c11 h
          refine lv_iconst (v := -1) hx hb d_N_real_30 (by decide) ?_
          exact W.iret (v := (-1 : Int32)) hx hb hr (fun t ht9 hW => ⟨⟨(-1 : Int32), (v_valueKind, v_valueNumber, v_valueExponent, v_size_factor, v_size_power, v_size_infinite), rfl, h, by rw [ht9]; exact hP, va_K.moved hW.alike hK, hD⟩, hS.F ht9⟩) hS.2.2 d_N_real_31 hlk
set_option maxHeartbeats 4000000 in
set_option maxRecDepth 100000 in
theorem c_N_real (l : Launch) (dC : Nat → ClassId) (dI : Nat → Nat → Nat) (X : SXT) (g_this_tape : Nat) (g_this_numeral : Nat) (g_this_room : Nat) (g_this_exact : Nat) (g_this_again : Nat) (g_this_page : Nat) (g_this_writer : Nat) (h_this : Nat) (h_this_size : Nat) (sz : Nat) (v_valueKind : Int32) (v_valueNumber : Int64) (v_valueExponent : Int32) (v_size_factor : Int64) (v_size_power : Int32) (v_size_infinite : Int32) (p1 : Int64) (p3 : Int32) (res : Int32 × Int32 × Int64 × Int32 × Int64 × Int32 × Int32) (hf : f_N_real v_valueKind v_valueNumber v_valueExponent v_size_factor v_size_power v_size_infinite p1 p3 = some res) : Met l y_N_real (.code y_N_real b_N_real 4 (some .int) :: w0) ({ frames := 5, cells := 0, slots := 0, locals := 120 }) (va_Pc [.ref h_this, .long p1, .int p3] (gP (dC, dI) (WS_N_real g_this_tape g_this_numeral g_this_room g_this_exact g_this_again g_this_page g_this_writer h_this h_this_size v_valueKind v_valueNumber v_valueExponent v_size_factor v_size_power v_size_infinite) [] sz X)) (va_Qi (fun (r : Int32) (u : Int32 × Int64 × Int32 × Int64 × Int32 × Int32) => some (r, u) = some res) (gB (dC, dI) [] (va_A (WS_N_real g_this_tape g_this_numeral g_this_room g_this_exact g_this_again g_this_page g_this_writer h_this h_this_size v_valueKind v_valueNumber v_valueExponent v_size_factor v_size_power v_size_infinite) sz) (fun (u : Int32 × Int64 × Int32 × Int64 × Int32 × Int32) => (WS_N_real g_this_tape g_this_numeral g_this_room g_this_exact g_this_again g_this_page g_this_writer h_this h_this_size u.1 u.2.1 u.2.2.1 u.2.2.2.1 u.2.2.2.2.1 u.2.2.2.2.2))) (va_A (WS_N_real g_this_tape g_this_numeral g_this_room g_this_exact g_this_again g_this_page g_this_writer h_this h_this_size v_valueKind v_valueNumber v_valueExponent v_size_factor v_size_power v_size_infinite) sz)) 0 0 (va_A (WS_N_real g_this_tape g_this_numeral g_this_room g_this_exact g_this_again g_this_page g_this_writer h_this h_this_size v_valueKind v_valueNumber v_valueExponent v_size_factor v_size_power v_size_infinite) sz) := by
  refine Met.ofW (cc := b_N_real) (maxL := 4) (ret := (some .int)) (by decide) rfl ?_
  intro p e s m args below meth c s₁ B hml hv
  obtain ⟨rfl, hsz, hP, hK, hD0, hX⟩ := hv
  subst hsz
  have cx : cxx p s m ([.ref h_this, .long p1, .int p3] : List Value).toArray meth c b_N_real 4 (some .int) R_N := ⟨B.exec, B.bytes, B.returns, hml, findClass_of_methodNamed B.named, fun w9 hw => atoms_spec (ws := .code y_N_real b_N_real 4 (some .int) :: w0) B.pre w9 (List.mem_cons_of_mem _ hw), B.notSynchronized⟩
  have hD := hD0.self (sz := s.heap.size)
  generalize hAe : va_A (WS_N_real g_this_tape g_this_numeral g_this_room g_this_exact g_this_again g_this_page g_this_writer h_this h_this_size v_valueKind v_valueNumber v_valueExponent v_size_factor v_size_power v_size_infinite) s.heap.size = A at hD hX ⊢
  have hA : ∀ q : Nat, s.heap.size ≤ q → A q := fun q h => by rw [← hAe]; exact Or.inr h
  have hS : va_S A s.heap s.heap [] := va_S.rf
  have hl := lv_entry ([.ref h_this, .long p1, .int p3]) (n := 4) (Nat.le_of_ble_eq_true rfl)
  rw [lg_entry_eq]
  generalize (lg_sl ([.ref h_this, .long p1, .int p3]) ++ List.replicate (4 - (lg_sl ([.ref h_this, .long p1, .int p3])).length) Slot.unset).toArray = ls at hl ⊢
  have hl : lv_has ls 4 [(0, .ref h_this), (1, .long p1), (3, .int p3)] := hl
  exact s_N_real_e cx hK hA hX v_valueKind v_valueNumber v_valueExponent v_size_factor v_size_power v_size_infinite p1 p3 s.heap [] ls hP hD hS hl hf
abbrev WS_N_special (g_this_tape : Nat) (g_this_numeral : Nat) (g_this_room : Nat) (g_this_exact : Nat) (g_this_size : Nat) (g_this_again : Nat) (g_this_page : Nat) (g_this_writer : Nat) (h_this : Nat)  (v_valueKind : Int32) (v_valueNumber : Int64) (v_valueExponent : Int32) : va_W := [(h_this, .inr (0, [.ref g_this_tape, .ref g_this_numeral, .ref g_this_room, .ref g_this_exact, .ref g_this_size, .ref g_this_again, .ref g_this_page, .ref g_this_writer, .int v_valueKind, .long v_valueNumber, .int v_valueExponent]))]
def f_N_special (v_valueKind : Int32) (v_valueNumber : Int64) (v_valueExponent : Int32) (p1 : Int32) : Option (Int32 × Int32 × Int64 × Int32) :=
  if p1 < (3 : Int32) then
    some ((0 : Int32), v_valueKind, v_valueNumber, v_valueExponent)
  else
    if p1 ≤ (5 : Int32) then
      bi3 (f_N_setValue v_valueKind v_valueNumber v_valueExponent p1 (0 : Int64) (0 : Int32)) fun v3 v4 v5 =>
      some ((1 : Int32), v3, v4, v5)
    else
      some ((0 : Int32), v_valueKind, v_valueNumber, v_valueExponent)
set_option maxHeartbeats 4000000 in
set_option maxRecDepth 100000 in
theorem s_N_special_e {p : Program} {l : Launch} {e : Env} {s : State} {m : MethodId} {args : Array Value} {below : List Frame} {meth : Method} {c : Code} {dC : Nat → ClassId} {dI : Nat → Nat → Nat} {A : Nat → Prop} {X : SXT} {g_this_tape : Nat} {g_this_numeral : Nat} {g_this_room : Nat} {g_this_exact : Nat} {g_this_size : Nat} {g_this_again : Nat} {g_this_page : Nat} {g_this_writer : Nat} {h_this : Nat} {res : Int32 × Int32 × Int64 × Int32} (cx : cxx p s m args meth c b_N_special 2 (some .boolean) R_N) (hK : va_K (dC, dI) classes [] s) (hA : ∀ q, s.heap.size ≤ q → A q) (hX : SX X A s s.heap) : ∀ (v_valueKind : Int32) (v_valueNumber : Int64) (v_valueExponent : Int32) (p1 : Int32) (H : Heap) (locs : List Loc) (ls : Array Slot), va_P (dC, dI) classes (WS_N_special g_this_tape g_this_numeral g_this_room g_this_exact g_this_size g_this_again g_this_page g_this_writer h_this v_valueKind v_valueNumber v_valueExponent) H → va_D A (WS_N_special g_this_tape g_this_numeral g_this_room g_this_exact g_this_size g_this_again g_this_page g_this_writer h_this v_valueKind v_valueNumber v_valueExponent) → va_S A s.heap H locs → lv_has ls 2 [(0, .ref h_this), (1, .int p1)] → f_N_special v_valueKind v_valueNumber v_valueExponent p1 = some res → W p l e ({ frames := 1, cells := 0, slots := 0, locals := 24 }) s m args below meth c H locs 0 0 (MQ below (va_Qi (fun (r : Int32) (u : Int32 × Int64 × Int32) => some (r, u) = some res) (gB (dC, dI) [] A (fun (u : Int32 × Int64 × Int32) => (WS_N_special g_this_tape g_this_numeral g_this_room g_this_exact g_this_size g_this_again g_this_page g_this_writer h_this u.1 u.2.1 u.2.2))) A) args s 0 0 A) (F0 m 0 ls []) := by
  intro v_valueKind v_valueNumber v_valueExponent p1 H locs ls hP hD hS hl h
  obtain ⟨hx, hb, hr, hml, hown, ht, hlk⟩ := id cx
  refine lv_iload_n hx hb d_N_special_0 rfl (lv_at hl 1 rfl) ?_
  refine lv_iconst (v := 3) hx hb d_N_special_1 (by decide) ?_
  refine lv_icmp_lt (tgt := 10) hx hb d_N_special_2 (by decide) (fun c1 => ?_) (fun c1 => ?_)
  · have h := if_t c1 h
    refine lv_iconst (v := 0) hx hb d_N_special_10 (by decide) ?_
    exact W.zret (v := (0 : Int32)) hx hb hr rfl (fun t ht9 hW => ⟨⟨(0 : Int32), (v_valueKind, v_valueNumber, v_valueExponent), rfl, h, by rw [ht9]; exact hP, va_K.moved hW.alike hK, hD⟩, hS.F ht9⟩) hS.2.2 d_N_special_11 hlk
  · have h := if_f c1 h
    refine lv_iload_n hx hb d_N_special_5 rfl (lv_at hl 1 rfl) ?_
    refine lv_iconst (v := 5) hx hb d_N_special_6 (by decide) ?_
    refine lv_icmp_le (tgt := 12) hx hb d_N_special_7 (by decide) (fun c2 => ?_) (fun c2 => ?_)
    · have h := if_t c2 h
      refine lv_aload_n hx hb d_N_special_12 rfl (lv_at hl 0 rfl) ?_
      refine lv_iload_n hx hb d_N_special_13 rfl (lv_at hl 1 rfl) ?_
      refine lv_lconst (v := 0) hx hb d_N_special_14 (by decide) ?_
      refine lv_iconst (v := 0) hx hb d_N_special_15 (by decide) ?_
      obtain ⟨v3, v4, v5, hf, h⟩ := bi3_x h
      refine clVv (D := (dC, dI)) (n := 3) (As := [.int p1, .long (0 : Int64), .int (0 : Int32)]) ⟨hx, hb, hml, hown, ht⟩ (c_N_setValue l dC dI X g_this_tape g_this_numeral g_this_room g_this_exact g_this_size g_this_again g_this_page g_this_writer h_this H.size v_valueKind v_valueNumber v_valueExponent p1 (0 : Int64) (0 : Int32) (v3, v4, v5) hf) (gV q_181 q_182 q_183 q_86 q_184) (by decide +kernel) ⟨rfl, rfl, Nat.le_of_ble_eq_true rfl, Nat.le_of_ble_eq_true rfl⟩ hK hP hD hS hA hX [0] [] [] rfl (wr := []) rfl (by decide) (by decide) (by decide) rfl (va_recv hK hP (ci := 0) (q0 := 0) rfl rfl) rfl hl.1 rfl (lv_room (Nat.le_of_ble_eq_true rfl)) d_N_special_16 ⟨Nat.zero_le _, Nat.zero_le _⟩ (fun u9 H locs h9 hP hD hS => ?_)
      cases h9
      have hP : va_P (dC, dI) classes (WS_N_special g_this_tape g_this_numeral g_this_room g_this_exact g_this_size g_this_again g_this_page g_this_writer h_this v3 v4 v5) H := hP.sub [0] rfl
      have hD : va_D A (WS_N_special g_this_tape g_this_numeral g_this_room g_this_exact g_this_size g_this_again g_this_page g_this_writer h_this v3 v4 v5) := hD.sub [0] (by decide) rfl
      refine lv_iconst (v := 1) hx hb d_N_special_19 (by decide) ?_
      exact W.zret (v := (1 : Int32)) hx hb hr rfl (fun t ht9 hW => ⟨⟨(1 : Int32), (v3, v4, v5), rfl, h, by rw [ht9]; exact hP, va_K.moved hW.alike hK, hD⟩, hS.F ht9⟩) hS.2.2 d_N_special_20 hlk
    · have h := if_f c2 h
      refine lv_iconst (v := 0) hx hb d_N_special_10 (by decide) ?_
      exact W.zret (v := (0 : Int32)) hx hb hr rfl (fun t ht9 hW => ⟨⟨(0 : Int32), (v_valueKind, v_valueNumber, v_valueExponent), rfl, h, by rw [ht9]; exact hP, va_K.moved hW.alike hK, hD⟩, hS.F ht9⟩) hS.2.2 d_N_special_11 hlk
set_option maxHeartbeats 4000000 in
set_option maxRecDepth 100000 in
theorem c_N_special (l : Launch) (dC : Nat → ClassId) (dI : Nat → Nat → Nat) (X : SXT) (g_this_tape : Nat) (g_this_numeral : Nat) (g_this_room : Nat) (g_this_exact : Nat) (g_this_size : Nat) (g_this_again : Nat) (g_this_page : Nat) (g_this_writer : Nat) (h_this : Nat) (sz : Nat) (v_valueKind : Int32) (v_valueNumber : Int64) (v_valueExponent : Int32) (p1 : Int32) (res : Int32 × Int32 × Int64 × Int32) (hf : f_N_special v_valueKind v_valueNumber v_valueExponent p1 = some res) : Met l y_N_special (.code y_N_special b_N_special 2 (some .boolean) :: w0) ({ frames := 1, cells := 0, slots := 0, locals := 24 }) (va_Pc [.ref h_this, .int p1] (gP (dC, dI) (WS_N_special g_this_tape g_this_numeral g_this_room g_this_exact g_this_size g_this_again g_this_page g_this_writer h_this v_valueKind v_valueNumber v_valueExponent) [] sz X)) (va_Qi (fun (r : Int32) (u : Int32 × Int64 × Int32) => some (r, u) = some res) (gB (dC, dI) [] (va_A (WS_N_special g_this_tape g_this_numeral g_this_room g_this_exact g_this_size g_this_again g_this_page g_this_writer h_this v_valueKind v_valueNumber v_valueExponent) sz) (fun (u : Int32 × Int64 × Int32) => (WS_N_special g_this_tape g_this_numeral g_this_room g_this_exact g_this_size g_this_again g_this_page g_this_writer h_this u.1 u.2.1 u.2.2))) (va_A (WS_N_special g_this_tape g_this_numeral g_this_room g_this_exact g_this_size g_this_again g_this_page g_this_writer h_this v_valueKind v_valueNumber v_valueExponent) sz)) 0 0 (va_A (WS_N_special g_this_tape g_this_numeral g_this_room g_this_exact g_this_size g_this_again g_this_page g_this_writer h_this v_valueKind v_valueNumber v_valueExponent) sz) := by
  refine Met.ofW (cc := b_N_special) (maxL := 2) (ret := (some .boolean)) (by decide) rfl ?_
  intro p e s m args below meth c s₁ B hml hv
  obtain ⟨rfl, hsz, hP, hK, hD0, hX⟩ := hv
  subst hsz
  have cx : cxx p s m ([.ref h_this, .int p1] : List Value).toArray meth c b_N_special 2 (some .boolean) R_N := ⟨B.exec, B.bytes, B.returns, hml, findClass_of_methodNamed B.named, fun w9 hw => atoms_spec (ws := .code y_N_special b_N_special 2 (some .boolean) :: w0) B.pre w9 (List.mem_cons_of_mem _ hw), B.notSynchronized⟩
  have hD := hD0.self (sz := s.heap.size)
  generalize hAe : va_A (WS_N_special g_this_tape g_this_numeral g_this_room g_this_exact g_this_size g_this_again g_this_page g_this_writer h_this v_valueKind v_valueNumber v_valueExponent) s.heap.size = A at hD hX ⊢
  have hA : ∀ q : Nat, s.heap.size ≤ q → A q := fun q h => by rw [← hAe]; exact Or.inr h
  have hS : va_S A s.heap s.heap [] := va_S.rf
  have hl := lv_entry ([.ref h_this, .int p1]) (n := 2) (Nat.le_of_ble_eq_true rfl)
  rw [lg_entry_eq]
  generalize (lg_sl ([.ref h_this, .int p1]) ++ List.replicate (2 - (lg_sl ([.ref h_this, .int p1])).length) Slot.unset).toArray = ls at hl ⊢
  have hl : lv_has ls 2 [(0, .ref h_this), (1, .int p1)] := hl
  exact s_N_special_e cx hK hA hX v_valueKind v_valueNumber v_valueExponent p1 s.heap [] ls hP hD hS hl hf
abbrev WS_N_kind (g_this_tape : Nat) (g_this_numeral : Nat) (g_this_room : Nat) (g_this_exact : Nat) (g_this_size : Nat) (g_this_again : Nat) (g_this_page : Nat) (g_this_writer : Nat) (h_this : Nat)  (v_valueKind : Int32) (v_valueNumber : Int64) (v_valueExponent : Int32) : va_W := [(h_this, .inr (0, [.ref g_this_tape, .ref g_this_numeral, .ref g_this_room, .ref g_this_exact, .ref g_this_size, .ref g_this_again, .ref g_this_page, .ref g_this_writer, .int v_valueKind, .long v_valueNumber, .int v_valueExponent]))]
def f_N_kind (v_valueKind : Int32) : Option (Int32) :=
  some v_valueKind
set_option maxHeartbeats 4000000 in
set_option maxRecDepth 100000 in
theorem s_N_kind_e {p : Program} {l : Launch} {e : Env} {s : State} {m : MethodId} {args : Array Value} {below : List Frame} {meth : Method} {c : Code} {dC : Nat → ClassId} {dI : Nat → Nat → Nat} {A : Nat → Prop} {X : SXT} {g_this_tape : Nat} {g_this_numeral : Nat} {g_this_room : Nat} {g_this_exact : Nat} {g_this_size : Nat} {g_this_again : Nat} {g_this_page : Nat} {g_this_writer : Nat} {h_this : Nat} {v_valueNumber : Int64} {v_valueExponent : Int32} {res : Int32} (cx : cxx p s m args meth c b_N_kind 1 (some .int) R_N) (hK : va_K (dC, dI) classes [] s) (hA : ∀ q, s.heap.size ≤ q → A q) (hX : SX X A s s.heap) : ∀ (v_valueKind : Int32) (H : Heap) (locs : List Loc) (ls : Array Slot), va_P (dC, dI) classes (WS_N_kind g_this_tape g_this_numeral g_this_room g_this_exact g_this_size g_this_again g_this_page g_this_writer h_this v_valueKind v_valueNumber v_valueExponent) H → va_D A (WS_N_kind g_this_tape g_this_numeral g_this_room g_this_exact g_this_size g_this_again g_this_page g_this_writer h_this v_valueKind v_valueNumber v_valueExponent) → va_S A s.heap H locs → lv_has ls 1 [(0, .ref h_this)] → f_N_kind v_valueKind = some res → W p l e ({ frames := 0, cells := 0, slots := 0, locals := 0 }) s m args below meth c H locs 0 0 (MQ below (va_Qi (fun (r : Int32) (_ : Unit) => some r = some res) (gB (dC, dI) [] A (fun (u : Unit) => (WS_N_kind g_this_tape g_this_numeral g_this_room g_this_exact g_this_size g_this_again g_this_page g_this_writer h_this v_valueKind v_valueNumber v_valueExponent))) A) args s 0 0 A) (F0 m 0 ls []) := by
  intro v_valueKind H locs ls hP hD hS hl h
  obtain ⟨hx, hb, hr, hml, hown, ht, hlk⟩ := id cx
  refine lv_aload_n hx hb d_N_kind_0 rfl (lv_at hl 0 rfl) ?_
  refine va_get (D := (dC, dI)) (ci := 0) (v := .int v_valueKind) (C := R_N) (T := F_N) (N := 11) hx hb ht i_N hown hK hP 0 rfl rfl 8 (by decide) (ht _ q_67) (fun _ h9 => h9) rfl d_N_kind_1 ?_
  exact W.iret (v := v_valueKind) hx hb hr (fun t ht9 hW => ⟨⟨v_valueKind, (), rfl, h, by rw [ht9]; exact hP, va_K.moved hW.alike hK, hD⟩, hS.F ht9⟩) hS.2.2 d_N_kind_4 hlk
set_option maxHeartbeats 4000000 in
set_option maxRecDepth 100000 in
theorem c_N_kind (l : Launch) (dC : Nat → ClassId) (dI : Nat → Nat → Nat) (X : SXT) (g_this_tape : Nat) (g_this_numeral : Nat) (g_this_room : Nat) (g_this_exact : Nat) (g_this_size : Nat) (g_this_again : Nat) (g_this_page : Nat) (g_this_writer : Nat) (h_this : Nat) (sz : Nat) (v_valueKind : Int32) (v_valueNumber : Int64) (v_valueExponent : Int32) (res : Int32) (hf : f_N_kind v_valueKind = some res) : Met l y_N_kind (.code y_N_kind b_N_kind 1 (some .int) :: w0) ({ frames := 0, cells := 0, slots := 0, locals := 0 }) (va_Pc [.ref h_this] (gP (dC, dI) (WS_N_kind g_this_tape g_this_numeral g_this_room g_this_exact g_this_size g_this_again g_this_page g_this_writer h_this v_valueKind v_valueNumber v_valueExponent) [] sz X)) (va_Qi (fun (r : Int32) (_ : Unit) => some r = some res) (gB (dC, dI) [] (va_A (WS_N_kind g_this_tape g_this_numeral g_this_room g_this_exact g_this_size g_this_again g_this_page g_this_writer h_this v_valueKind v_valueNumber v_valueExponent) sz) (fun (u : Unit) => (WS_N_kind g_this_tape g_this_numeral g_this_room g_this_exact g_this_size g_this_again g_this_page g_this_writer h_this v_valueKind v_valueNumber v_valueExponent))) (va_A (WS_N_kind g_this_tape g_this_numeral g_this_room g_this_exact g_this_size g_this_again g_this_page g_this_writer h_this v_valueKind v_valueNumber v_valueExponent) sz)) 0 0 (va_A (WS_N_kind g_this_tape g_this_numeral g_this_room g_this_exact g_this_size g_this_again g_this_page g_this_writer h_this v_valueKind v_valueNumber v_valueExponent) sz) := by
  refine Met.ofW (cc := b_N_kind) (maxL := 1) (ret := (some .int)) (by decide) rfl ?_
  intro p e s m args below meth c s₁ B hml hv
  obtain ⟨rfl, hsz, hP, hK, hD0, hX⟩ := hv
  subst hsz
  have cx : cxx p s m ([.ref h_this] : List Value).toArray meth c b_N_kind 1 (some .int) R_N := ⟨B.exec, B.bytes, B.returns, hml, findClass_of_methodNamed B.named, fun w9 hw => atoms_spec (ws := .code y_N_kind b_N_kind 1 (some .int) :: w0) B.pre w9 (List.mem_cons_of_mem _ hw), B.notSynchronized⟩
  have hD := hD0.self (sz := s.heap.size)
  generalize hAe : va_A (WS_N_kind g_this_tape g_this_numeral g_this_room g_this_exact g_this_size g_this_again g_this_page g_this_writer h_this v_valueKind v_valueNumber v_valueExponent) s.heap.size = A at hD hX ⊢
  have hA : ∀ q : Nat, s.heap.size ≤ q → A q := fun q h => by rw [← hAe]; exact Or.inr h
  have hS : va_S A s.heap s.heap [] := va_S.rf
  have hl := lv_entry ([.ref h_this]) (n := 1) (Nat.le_of_ble_eq_true rfl)
  rw [lg_entry_eq]
  generalize (lg_sl ([.ref h_this]) ++ List.replicate (1 - (lg_sl ([.ref h_this])).length) Slot.unset).toArray = ls at hl ⊢
  have hl : lv_has ls 1 [(0, .ref h_this)] := hl
  exact s_N_kind_e cx hK hA hX v_valueKind s.heap [] ls hP hD hS hl hf
abbrev WS_N_number (g_this_tape : Nat) (g_this_numeral : Nat) (g_this_room : Nat) (g_this_exact : Nat) (g_this_size : Nat) (g_this_again : Nat) (g_this_page : Nat) (g_this_writer : Nat) (h_this : Nat)  (v_valueKind : Int32) (v_valueNumber : Int64) (v_valueExponent : Int32) : va_W := [(h_this, .inr (0, [.ref g_this_tape, .ref g_this_numeral, .ref g_this_room, .ref g_this_exact, .ref g_this_size, .ref g_this_again, .ref g_this_page, .ref g_this_writer, .int v_valueKind, .long v_valueNumber, .int v_valueExponent]))]
def f_N_number (v_valueNumber : Int64) : Option (Int64) :=
  some v_valueNumber
set_option maxHeartbeats 4000000 in
set_option maxRecDepth 100000 in
theorem s_N_number_e {p : Program} {l : Launch} {e : Env} {s : State} {m : MethodId} {args : Array Value} {below : List Frame} {meth : Method} {c : Code} {dC : Nat → ClassId} {dI : Nat → Nat → Nat} {A : Nat → Prop} {X : SXT} {g_this_tape : Nat} {g_this_numeral : Nat} {g_this_room : Nat} {g_this_exact : Nat} {g_this_size : Nat} {g_this_again : Nat} {g_this_page : Nat} {g_this_writer : Nat} {h_this : Nat} {v_valueKind : Int32} {v_valueExponent : Int32} {res : Int64} (cx : cxx p s m args meth c b_N_number 1 (some .long) R_N) (hK : va_K (dC, dI) classes [] s) (hA : ∀ q, s.heap.size ≤ q → A q) (hX : SX X A s s.heap) : ∀ (v_valueNumber : Int64) (H : Heap) (locs : List Loc) (ls : Array Slot), va_P (dC, dI) classes (WS_N_number g_this_tape g_this_numeral g_this_room g_this_exact g_this_size g_this_again g_this_page g_this_writer h_this v_valueKind v_valueNumber v_valueExponent) H → va_D A (WS_N_number g_this_tape g_this_numeral g_this_room g_this_exact g_this_size g_this_again g_this_page g_this_writer h_this v_valueKind v_valueNumber v_valueExponent) → va_S A s.heap H locs → lv_has ls 1 [(0, .ref h_this)] → f_N_number v_valueNumber = some res → W p l e ({ frames := 0, cells := 0, slots := 0, locals := 0 }) s m args below meth c H locs 0 0 (MQ below (va_Ql (fun (r : Int64) (_ : Unit) => some r = some res) (gB (dC, dI) [] A (fun (u : Unit) => (WS_N_number g_this_tape g_this_numeral g_this_room g_this_exact g_this_size g_this_again g_this_page g_this_writer h_this v_valueKind v_valueNumber v_valueExponent))) A) args s 0 0 A) (F0 m 0 ls []) := by
  intro v_valueNumber H locs ls hP hD hS hl h
  obtain ⟨hx, hb, hr, hml, hown, ht, hlk⟩ := id cx
  refine lv_aload_n hx hb d_N_number_0 rfl (lv_at hl 0 rfl) ?_
  refine va_get (D := (dC, dI)) (ci := 0) (v := .long v_valueNumber) (C := R_N) (T := F_N) (N := 11) hx hb ht i_N hown hK hP 0 rfl rfl 9 (by decide) (ht _ q_68) (fun _ h9 => h9) rfl d_N_number_1 ?_
  exact W.lret (v := v_valueNumber) hx hb hr (fun t ht9 hW => ⟨⟨v_valueNumber, (), rfl, h, by rw [ht9]; exact hP, va_K.moved hW.alike hK, hD⟩, hS.F ht9⟩) hS.2.2 d_N_number_4 hlk
set_option maxHeartbeats 4000000 in
set_option maxRecDepth 100000 in
theorem c_N_number (l : Launch) (dC : Nat → ClassId) (dI : Nat → Nat → Nat) (X : SXT) (g_this_tape : Nat) (g_this_numeral : Nat) (g_this_room : Nat) (g_this_exact : Nat) (g_this_size : Nat) (g_this_again : Nat) (g_this_page : Nat) (g_this_writer : Nat) (h_this : Nat) (sz : Nat) (v_valueKind : Int32) (v_valueNumber : Int64) (v_valueExponent : Int32) (res : Int64) (hf : f_N_number v_valueNumber = some res) : Met l y_N_number (.code y_N_number b_N_number 1 (some .long) :: w0) ({ frames := 0, cells := 0, slots := 0, locals := 0 }) (va_Pc [.ref h_this] (gP (dC, dI) (WS_N_number g_this_tape g_this_numeral g_this_room g_this_exact g_this_size g_this_again g_this_page g_this_writer h_this v_valueKind v_valueNumber v_valueExponent) [] sz X)) (va_Ql (fun (r : Int64) (_ : Unit) => some r = some res) (gB (dC, dI) [] (va_A (WS_N_number g_this_tape g_this_numeral g_this_room g_this_exact g_this_size g_this_again g_this_page g_this_writer h_this v_valueKind v_valueNumber v_valueExponent) sz) (fun (u : Unit) => (WS_N_number g_this_tape g_this_numeral g_this_room g_this_exact g_this_size g_this_again g_this_page g_this_writer h_this v_valueKind v_valueNumber v_valueExponent))) (va_A (WS_N_number g_this_tape g_this_numeral g_this_room g_this_exact g_this_size g_this_again g_this_page g_this_writer h_this v_valueKind v_valueNumber v_valueExponent) sz)) 0 0 (va_A (WS_N_number g_this_tape g_this_numeral g_this_room g_this_exact g_this_size g_this_again g_this_page g_this_writer h_this v_valueKind v_valueNumber v_valueExponent) sz) := by
  refine Met.ofW (cc := b_N_number) (maxL := 1) (ret := (some .long)) (by decide) rfl ?_
  intro p e s m args below meth c s₁ B hml hv
  obtain ⟨rfl, hsz, hP, hK, hD0, hX⟩ := hv
  subst hsz
  have cx : cxx p s m ([.ref h_this] : List Value).toArray meth c b_N_number 1 (some .long) R_N := ⟨B.exec, B.bytes, B.returns, hml, findClass_of_methodNamed B.named, fun w9 hw => atoms_spec (ws := .code y_N_number b_N_number 1 (some .long) :: w0) B.pre w9 (List.mem_cons_of_mem _ hw), B.notSynchronized⟩
  have hD := hD0.self (sz := s.heap.size)
  generalize hAe : va_A (WS_N_number g_this_tape g_this_numeral g_this_room g_this_exact g_this_size g_this_again g_this_page g_this_writer h_this v_valueKind v_valueNumber v_valueExponent) s.heap.size = A at hD hX ⊢
  have hA : ∀ q : Nat, s.heap.size ≤ q → A q := fun q h => by rw [← hAe]; exact Or.inr h
  have hS : va_S A s.heap s.heap [] := va_S.rf
  have hl := lv_entry ([.ref h_this]) (n := 1) (Nat.le_of_ble_eq_true rfl)
  rw [lg_entry_eq]
  generalize (lg_sl ([.ref h_this]) ++ List.replicate (1 - (lg_sl ([.ref h_this])).length) Slot.unset).toArray = ls at hl ⊢
  have hl : lv_has ls 1 [(0, .ref h_this)] := hl
  exact s_N_number_e cx hK hA hX v_valueNumber s.heap [] ls hP hD hS hl hf
abbrev WS_N_exponent (g_this_tape : Nat) (g_this_numeral : Nat) (g_this_room : Nat) (g_this_exact : Nat) (g_this_size : Nat) (g_this_again : Nat) (g_this_page : Nat) (g_this_writer : Nat) (h_this : Nat)  (v_valueKind : Int32) (v_valueNumber : Int64) (v_valueExponent : Int32) : va_W := [(h_this, .inr (0, [.ref g_this_tape, .ref g_this_numeral, .ref g_this_room, .ref g_this_exact, .ref g_this_size, .ref g_this_again, .ref g_this_page, .ref g_this_writer, .int v_valueKind, .long v_valueNumber, .int v_valueExponent]))]
def f_N_exponent (v_valueExponent : Int32) : Option (Int32) :=
  some v_valueExponent
set_option maxHeartbeats 4000000 in
set_option maxRecDepth 100000 in
theorem s_N_exponent_e {p : Program} {l : Launch} {e : Env} {s : State} {m : MethodId} {args : Array Value} {below : List Frame} {meth : Method} {c : Code} {dC : Nat → ClassId} {dI : Nat → Nat → Nat} {A : Nat → Prop} {X : SXT} {g_this_tape : Nat} {g_this_numeral : Nat} {g_this_room : Nat} {g_this_exact : Nat} {g_this_size : Nat} {g_this_again : Nat} {g_this_page : Nat} {g_this_writer : Nat} {h_this : Nat} {v_valueKind : Int32} {v_valueNumber : Int64} {res : Int32} (cx : cxx p s m args meth c b_N_exponent 1 (some .int) R_N) (hK : va_K (dC, dI) classes [] s) (hA : ∀ q, s.heap.size ≤ q → A q) (hX : SX X A s s.heap) : ∀ (v_valueExponent : Int32) (H : Heap) (locs : List Loc) (ls : Array Slot), va_P (dC, dI) classes (WS_N_exponent g_this_tape g_this_numeral g_this_room g_this_exact g_this_size g_this_again g_this_page g_this_writer h_this v_valueKind v_valueNumber v_valueExponent) H → va_D A (WS_N_exponent g_this_tape g_this_numeral g_this_room g_this_exact g_this_size g_this_again g_this_page g_this_writer h_this v_valueKind v_valueNumber v_valueExponent) → va_S A s.heap H locs → lv_has ls 1 [(0, .ref h_this)] → f_N_exponent v_valueExponent = some res → W p l e ({ frames := 0, cells := 0, slots := 0, locals := 0 }) s m args below meth c H locs 0 0 (MQ below (va_Qi (fun (r : Int32) (_ : Unit) => some r = some res) (gB (dC, dI) [] A (fun (u : Unit) => (WS_N_exponent g_this_tape g_this_numeral g_this_room g_this_exact g_this_size g_this_again g_this_page g_this_writer h_this v_valueKind v_valueNumber v_valueExponent))) A) args s 0 0 A) (F0 m 0 ls []) := by
  intro v_valueExponent H locs ls hP hD hS hl h
  obtain ⟨hx, hb, hr, hml, hown, ht, hlk⟩ := id cx
  refine lv_aload_n hx hb d_N_exponent_0 rfl (lv_at hl 0 rfl) ?_
  refine va_get (D := (dC, dI)) (ci := 0) (v := .int v_valueExponent) (C := R_N) (T := F_N) (N := 11) hx hb ht i_N hown hK hP 0 rfl rfl 10 (by decide) (ht _ q_69) (fun _ h9 => h9) rfl d_N_exponent_1 ?_
  exact W.iret (v := v_valueExponent) hx hb hr (fun t ht9 hW => ⟨⟨v_valueExponent, (), rfl, h, by rw [ht9]; exact hP, va_K.moved hW.alike hK, hD⟩, hS.F ht9⟩) hS.2.2 d_N_exponent_4 hlk
set_option maxHeartbeats 4000000 in
set_option maxRecDepth 100000 in
theorem c_N_exponent (l : Launch) (dC : Nat → ClassId) (dI : Nat → Nat → Nat) (X : SXT) (g_this_tape : Nat) (g_this_numeral : Nat) (g_this_room : Nat) (g_this_exact : Nat) (g_this_size : Nat) (g_this_again : Nat) (g_this_page : Nat) (g_this_writer : Nat) (h_this : Nat) (sz : Nat) (v_valueKind : Int32) (v_valueNumber : Int64) (v_valueExponent : Int32) (res : Int32) (hf : f_N_exponent v_valueExponent = some res) : Met l y_N_exponent (.code y_N_exponent b_N_exponent 1 (some .int) :: w0) ({ frames := 0, cells := 0, slots := 0, locals := 0 }) (va_Pc [.ref h_this] (gP (dC, dI) (WS_N_exponent g_this_tape g_this_numeral g_this_room g_this_exact g_this_size g_this_again g_this_page g_this_writer h_this v_valueKind v_valueNumber v_valueExponent) [] sz X)) (va_Qi (fun (r : Int32) (_ : Unit) => some r = some res) (gB (dC, dI) [] (va_A (WS_N_exponent g_this_tape g_this_numeral g_this_room g_this_exact g_this_size g_this_again g_this_page g_this_writer h_this v_valueKind v_valueNumber v_valueExponent) sz) (fun (u : Unit) => (WS_N_exponent g_this_tape g_this_numeral g_this_room g_this_exact g_this_size g_this_again g_this_page g_this_writer h_this v_valueKind v_valueNumber v_valueExponent))) (va_A (WS_N_exponent g_this_tape g_this_numeral g_this_room g_this_exact g_this_size g_this_again g_this_page g_this_writer h_this v_valueKind v_valueNumber v_valueExponent) sz)) 0 0 (va_A (WS_N_exponent g_this_tape g_this_numeral g_this_room g_this_exact g_this_size g_this_again g_this_page g_this_writer h_this v_valueKind v_valueNumber v_valueExponent) sz) := by
  refine Met.ofW (cc := b_N_exponent) (maxL := 1) (ret := (some .int)) (by decide) rfl ?_
  intro p e s m args below meth c s₁ B hml hv
  obtain ⟨rfl, hsz, hP, hK, hD0, hX⟩ := hv
  subst hsz
  have cx : cxx p s m ([.ref h_this] : List Value).toArray meth c b_N_exponent 1 (some .int) R_N := ⟨B.exec, B.bytes, B.returns, hml, findClass_of_methodNamed B.named, fun w9 hw => atoms_spec (ws := .code y_N_exponent b_N_exponent 1 (some .int) :: w0) B.pre w9 (List.mem_cons_of_mem _ hw), B.notSynchronized⟩
  have hD := hD0.self (sz := s.heap.size)
  generalize hAe : va_A (WS_N_exponent g_this_tape g_this_numeral g_this_room g_this_exact g_this_size g_this_again g_this_page g_this_writer h_this v_valueKind v_valueNumber v_valueExponent) s.heap.size = A at hD hX ⊢
  have hA : ∀ q : Nat, s.heap.size ≤ q → A q := fun q h => by rw [← hAe]; exact Or.inr h
  have hS : va_S A s.heap s.heap [] := va_S.rf
  have hl := lv_entry ([.ref h_this]) (n := 1) (Nat.le_of_ble_eq_true rfl)
  rw [lg_entry_eq]
  generalize (lg_sl ([.ref h_this]) ++ List.replicate (1 - (lg_sl ([.ref h_this])).length) Slot.unset).toArray = ls at hl ⊢
  have hl : lv_has ls 1 [(0, .ref h_this)] := hl
  exact s_N_exponent_e cx hK hA hX v_valueExponent s.heap [] ls hP hD hS hl hf
abbrev WS_Writer_begin (g_this_page : Nat) (g_this_exact : Nat) (g_this_digits : Nat) (h_this : Nat)  (v_count : Int32) (v_letter : Int32) (v_flags : Int32) (v_width : Int32) (v_precision : Int32) : va_W := [(h_this, .inr (6, [.ref g_this_page, .ref g_this_exact, .ref g_this_digits, .int v_count, .int v_letter, .int v_flags, .int v_width, .int v_precision]))]
def f_Writer_begin (v_letter : Int32) (v_flags : Int32) (v_width : Int32) (v_precision : Int32) (p1 : Int32) (p2 : Int32) (p3 : Int32) (p4 : Int32) : Option (Int32 × Int32 × Int32 × Int32) :=
  ck (ckC p1) <|
  some (p1, p2, p3, p4)
set_option maxHeartbeats 4000000 in
set_option maxRecDepth 100000 in
theorem s_Writer_begin_e {p : Program} {l : Launch} {e : Env} {s : State} {m : MethodId} {args : Array Value} {below : List Frame} {meth : Method} {c : Code} {dC : Nat → ClassId} {dI : Nat → Nat → Nat} {A : Nat → Prop} {X : SXT} {g_this_page : Nat} {g_this_exact : Nat} {g_this_digits : Nat} {h_this : Nat} {v_count : Int32} {res : Int32 × Int32 × Int32 × Int32} (cx : cxx p s m args meth c b_Writer_begin 5 none R_Writer) (hK : va_K (dC, dI) classes [] s) (hA : ∀ q, s.heap.size ≤ q → A q) (hX : SX X A s s.heap) : ∀ (v_letter : Int32) (v_flags : Int32) (v_width : Int32) (v_precision : Int32) (p1 : Int32) (p2 : Int32) (p3 : Int32) (p4 : Int32) (H : Heap) (locs : List Loc) (ls : Array Slot), va_P (dC, dI) classes (WS_Writer_begin g_this_page g_this_exact g_this_digits h_this v_count v_letter v_flags v_width v_precision) H → va_D A (WS_Writer_begin g_this_page g_this_exact g_this_digits h_this v_count v_letter v_flags v_width v_precision) → va_S A s.heap H locs → lv_has ls 5 [(0, .ref h_this), (1, .int p1), (2, .int p2), (3, .int p3), (4, .int p4)] → f_Writer_begin v_letter v_flags v_width v_precision p1 p2 p3 p4 = some res → W p l e ({ frames := 0, cells := 0, slots := 0, locals := 0 }) s m args below meth c H locs 0 0 (MQ below (va_Qv (fun (u : Int32 × Int32 × Int32 × Int32) => some u = some res) (gB (dC, dI) [] A (fun (u : Int32 × Int32 × Int32 × Int32) => (WS_Writer_begin g_this_page g_this_exact g_this_digits h_this v_count u.1 u.2.1 u.2.2.1 u.2.2.2))) A) args s 0 0 A) (F0 m 0 ls []) := by
  intro v_letter v_flags v_width v_precision p1 p2 p3 p4 H locs ls hP hD hS hl h
  obtain ⟨hx, hb, hr, hml, hown, ht, hlk⟩ := id cx
  refine lv_aload_n hx hb d_Writer_begin_0 rfl (lv_at hl 0 rfl) ?_
  refine lv_iload_n hx hb d_Writer_begin_1 rfl (lv_at hl 1 rfl) ?_
  obtain ⟨c1, h⟩ := ck_x h
  refine va_put (D := (dC, dI)) (ci := 6) (v := .int p1) (ty := .char) (C := R_Writer) (T := F_Writer) (N := 8) hx hb ht i_Writer t_Writer t_Writer_ok n_Writer hown hK hP hD hS 0 rfl rfl 4 (by decide) (ht _ q_230) (fun _ h9 => h9) rfl (t_Writer_ok 4 (by decide)) (ckC_n c1) (ckC_f c1) (Nat.le_of_ble_eq_true rfl) d_Writer_begin_2 (fun H locs hP hD hS => ?_)
  have hP : va_P (dC, dI) classes (WS_Writer_begin g_this_page g_this_exact g_this_digits h_this v_count p1 v_flags v_width v_precision) H := hP
  have hD : va_D A (WS_Writer_begin g_this_page g_this_exact g_this_digits h_this v_count p1 v_flags v_width v_precision) := hD
  refine lv_aload_n hx hb d_Writer_begin_5 rfl (lv_at hl 0 rfl) ?_
  refine lv_iload_n hx hb d_Writer_begin_6 rfl (lv_at hl 2 rfl) ?_
  refine va_put (D := (dC, dI)) (ci := 6) (v := .int p2) (ty := .int) (C := R_Writer) (T := F_Writer) (N := 8) hx hb ht i_Writer t_Writer t_Writer_ok n_Writer hown hK hP hD hS 0 rfl rfl 5 (by decide) (ht _ q_231) (fun _ h9 => h9) rfl (t_Writer_ok 5 (by decide)) rfl rfl (Nat.le_of_ble_eq_true rfl) d_Writer_begin_7 (fun H locs hP hD hS => ?_)
  have hP : va_P (dC, dI) classes (WS_Writer_begin g_this_page g_this_exact g_this_digits h_this v_count p1 p2 v_width v_precision) H := hP
  have hD : va_D A (WS_Writer_begin g_this_page g_this_exact g_this_digits h_this v_count p1 p2 v_width v_precision) := hD
  refine lv_aload_n hx hb d_Writer_begin_10 rfl (lv_at hl 0 rfl) ?_
  refine lv_iload_n hx hb d_Writer_begin_11 rfl (lv_at hl 3 rfl) ?_
  refine va_put (D := (dC, dI)) (ci := 6) (v := .int p3) (ty := .int) (C := R_Writer) (T := F_Writer) (N := 8) hx hb ht i_Writer t_Writer t_Writer_ok n_Writer hown hK hP hD hS 0 rfl rfl 6 (by decide) (ht _ q_232) (fun _ h9 => h9) rfl (t_Writer_ok 6 (by decide)) rfl rfl (Nat.le_of_ble_eq_true rfl) d_Writer_begin_12 (fun H locs hP hD hS => ?_)
  have hP : va_P (dC, dI) classes (WS_Writer_begin g_this_page g_this_exact g_this_digits h_this v_count p1 p2 p3 v_precision) H := hP
  have hD : va_D A (WS_Writer_begin g_this_page g_this_exact g_this_digits h_this v_count p1 p2 p3 v_precision) := hD
  refine lv_aload_n hx hb d_Writer_begin_15 rfl (lv_at hl 0 rfl) ?_
  refine lv_iload hx hb d_Writer_begin_16 (lv_at hl 4 rfl) ?_
  refine va_put (D := (dC, dI)) (ci := 6) (v := .int p4) (ty := .int) (C := R_Writer) (T := F_Writer) (N := 8) hx hb ht i_Writer t_Writer t_Writer_ok n_Writer hown hK hP hD hS 0 rfl rfl 7 (by decide) (ht _ q_233) (fun _ h9 => h9) rfl (t_Writer_ok 7 (by decide)) rfl rfl (Nat.le_of_ble_eq_true rfl) d_Writer_begin_18 (fun H locs hP hD hS => ?_)
  have hP : va_P (dC, dI) classes (WS_Writer_begin g_this_page g_this_exact g_this_digits h_this v_count p1 p2 p3 p4) H := hP
  have hD : va_D A (WS_Writer_begin g_this_page g_this_exact g_this_digits h_this v_count p1 p2 p3 p4) := hD
  exact W.vret hx hb hr (fun t ht9 hW => ⟨⟨(p1, p2, p3, p4), rfl, h, by rw [ht9]; exact hP, va_K.moved hW.alike hK, hD⟩, hS.F ht9⟩) hS.2.2 d_Writer_begin_21 hlk
set_option maxHeartbeats 4000000 in
set_option maxRecDepth 100000 in
theorem c_Writer_begin (l : Launch) (dC : Nat → ClassId) (dI : Nat → Nat → Nat) (X : SXT) (g_this_page : Nat) (g_this_exact : Nat) (g_this_digits : Nat) (h_this : Nat) (sz : Nat) (v_count : Int32) (v_letter : Int32) (v_flags : Int32) (v_width : Int32) (v_precision : Int32) (p1 : Int32) (p2 : Int32) (p3 : Int32) (p4 : Int32) (res : Int32 × Int32 × Int32 × Int32) (hf : f_Writer_begin v_letter v_flags v_width v_precision p1 p2 p3 p4 = some res) : Met l y_Writer_begin (.code y_Writer_begin b_Writer_begin 5 none :: w0) ({ frames := 0, cells := 0, slots := 0, locals := 0 }) (va_Pc [.ref h_this, .int p1, .int p2, .int p3, .int p4] (gP (dC, dI) (WS_Writer_begin g_this_page g_this_exact g_this_digits h_this v_count v_letter v_flags v_width v_precision) [] sz X)) (va_Qv (fun (u : Int32 × Int32 × Int32 × Int32) => some u = some res) (gB (dC, dI) [] (va_A (WS_Writer_begin g_this_page g_this_exact g_this_digits h_this v_count v_letter v_flags v_width v_precision) sz) (fun (u : Int32 × Int32 × Int32 × Int32) => (WS_Writer_begin g_this_page g_this_exact g_this_digits h_this v_count u.1 u.2.1 u.2.2.1 u.2.2.2))) (va_A (WS_Writer_begin g_this_page g_this_exact g_this_digits h_this v_count v_letter v_flags v_width v_precision) sz)) 0 0 (va_A (WS_Writer_begin g_this_page g_this_exact g_this_digits h_this v_count v_letter v_flags v_width v_precision) sz) := by
  refine Met.ofW (cc := b_Writer_begin) (maxL := 5) (ret := none) (by decide) rfl ?_
  intro p e s m args below meth c s₁ B hml hv
  obtain ⟨rfl, hsz, hP, hK, hD0, hX⟩ := hv
  subst hsz
  have cx : cxx p s m ([.ref h_this, .int p1, .int p2, .int p3, .int p4] : List Value).toArray meth c b_Writer_begin 5 none R_Writer := ⟨B.exec, B.bytes, B.returns, hml, findClass_of_methodNamed B.named, fun w9 hw => atoms_spec (ws := .code y_Writer_begin b_Writer_begin 5 none :: w0) B.pre w9 (List.mem_cons_of_mem _ hw), B.notSynchronized⟩
  have hD := hD0.self (sz := s.heap.size)
  generalize hAe : va_A (WS_Writer_begin g_this_page g_this_exact g_this_digits h_this v_count v_letter v_flags v_width v_precision) s.heap.size = A at hD hX ⊢
  have hA : ∀ q : Nat, s.heap.size ≤ q → A q := fun q h => by rw [← hAe]; exact Or.inr h
  have hS : va_S A s.heap s.heap [] := va_S.rf
  have hl := lv_entry ([.ref h_this, .int p1, .int p2, .int p3, .int p4]) (n := 5) (Nat.le_of_ble_eq_true rfl)
  rw [lg_entry_eq]
  generalize (lg_sl ([.ref h_this, .int p1, .int p2, .int p3, .int p4]) ++ List.replicate (5 - (lg_sl ([.ref h_this, .int p1, .int p2, .int p3, .int p4])).length) Slot.unset).toArray = ls at hl ⊢
  have hl : lv_has ls 5 [(0, .ref h_this), (1, .int p1), (2, .int p2), (3, .int p3), (4, .int p4)] := hl
  exact s_Writer_begin_e cx hK hA hX v_letter v_flags v_width v_precision p1 p2 p3 p4 s.heap [] ls hP hD hS hl hf
abbrev WS_Page_clear (g_this_row : Nat) (h_this : Nat)  (v_length : Int32) : va_W := [(h_this, .inr (5, [.ref g_this_row, .int v_length]))]
def f_Page_clear (v_length : Int32) : Option (Int32) :=
  some (0 : Int32)
set_option maxHeartbeats 4000000 in
set_option maxRecDepth 100000 in
theorem s_Page_clear_e {p : Program} {l : Launch} {e : Env} {s : State} {m : MethodId} {args : Array Value} {below : List Frame} {meth : Method} {c : Code} {dC : Nat → ClassId} {dI : Nat → Nat → Nat} {A : Nat → Prop} {X : SXT} {g_this_row : Nat} {h_this : Nat} {res : Int32} (cx : cxx p s m args meth c b_Page_clear 1 none R_Page) (hK : va_K (dC, dI) classes [] s) (hA : ∀ q, s.heap.size ≤ q → A q) (hX : SX X A s s.heap) : ∀ (v_length : Int32) (H : Heap) (locs : List Loc) (ls : Array Slot), va_P (dC, dI) classes (WS_Page_clear g_this_row h_this v_length) H → va_D A (WS_Page_clear g_this_row h_this v_length) → va_S A s.heap H locs → lv_has ls 1 [(0, .ref h_this)] → f_Page_clear v_length = some res → W p l e ({ frames := 0, cells := 0, slots := 0, locals := 0 }) s m args below meth c H locs 0 0 (MQ below (va_Qv (fun (u : Int32) => some u = some res) (gB (dC, dI) [] A (fun (u : Int32) => (WS_Page_clear g_this_row h_this u))) A) args s 0 0 A) (F0 m 0 ls []) := by
  intro v_length H locs ls hP hD hS hl h
  obtain ⟨hx, hb, hr, hml, hown, ht, hlk⟩ := id cx
  refine lv_aload_n hx hb d_Page_clear_0 rfl (lv_at hl 0 rfl) ?_
  refine lv_iconst (v := 0) hx hb d_Page_clear_1 (by decide) ?_
  refine va_put (D := (dC, dI)) (ci := 5) (v := .int (0 : Int32)) (ty := .int) (C := R_Page) (T := F_Page) (N := 2) hx hb ht i_Page t_Page t_Page_ok n_Page hown hK hP hD hS 0 rfl rfl 1 (by decide) (ht _ q_234) (fun _ h9 => h9) rfl (t_Page_ok 1 (by decide)) rfl rfl (Nat.le_of_ble_eq_true rfl) d_Page_clear_2 (fun H locs hP hD hS => ?_)
  have hP : va_P (dC, dI) classes (WS_Page_clear g_this_row h_this (0 : Int32)) H := hP
  have hD : va_D A (WS_Page_clear g_this_row h_this (0 : Int32)) := hD
  exact W.vret hx hb hr (fun t ht9 hW => ⟨⟨(0 : Int32), rfl, h, by rw [ht9]; exact hP, va_K.moved hW.alike hK, hD⟩, hS.F ht9⟩) hS.2.2 d_Page_clear_5 hlk
set_option maxHeartbeats 4000000 in
set_option maxRecDepth 100000 in
theorem c_Page_clear (l : Launch) (dC : Nat → ClassId) (dI : Nat → Nat → Nat) (X : SXT) (g_this_row : Nat) (h_this : Nat) (sz : Nat) (v_length : Int32) (res : Int32) (hf : f_Page_clear v_length = some res) : Met l y_Page_clear (.code y_Page_clear b_Page_clear 1 none :: w0) ({ frames := 0, cells := 0, slots := 0, locals := 0 }) (va_Pc [.ref h_this] (gP (dC, dI) (WS_Page_clear g_this_row h_this v_length) [] sz X)) (va_Qv (fun (u : Int32) => some u = some res) (gB (dC, dI) [] (va_A (WS_Page_clear g_this_row h_this v_length) sz) (fun (u : Int32) => (WS_Page_clear g_this_row h_this u))) (va_A (WS_Page_clear g_this_row h_this v_length) sz)) 0 0 (va_A (WS_Page_clear g_this_row h_this v_length) sz) := by
  refine Met.ofW (cc := b_Page_clear) (maxL := 1) (ret := none) (by decide) rfl ?_
  intro p e s m args below meth c s₁ B hml hv
  obtain ⟨rfl, hsz, hP, hK, hD0, hX⟩ := hv
  subst hsz
  have cx : cxx p s m ([.ref h_this] : List Value).toArray meth c b_Page_clear 1 none R_Page := ⟨B.exec, B.bytes, B.returns, hml, findClass_of_methodNamed B.named, fun w9 hw => atoms_spec (ws := .code y_Page_clear b_Page_clear 1 none :: w0) B.pre w9 (List.mem_cons_of_mem _ hw), B.notSynchronized⟩
  have hD := hD0.self (sz := s.heap.size)
  generalize hAe : va_A (WS_Page_clear g_this_row h_this v_length) s.heap.size = A at hD hX ⊢
  have hA : ∀ q : Nat, s.heap.size ≤ q → A q := fun q h => by rw [← hAe]; exact Or.inr h
  have hS : va_S A s.heap s.heap [] := va_S.rf
  have hl := lv_entry ([.ref h_this]) (n := 1) (Nat.le_of_ble_eq_true rfl)
  rw [lg_entry_eq]
  generalize (lg_sl ([.ref h_this]) ++ List.replicate (1 - (lg_sl ([.ref h_this])).length) Slot.unset).toArray = ls at hl ⊢
  have hl : lv_has ls 1 [(0, .ref h_this)] := hl
  exact s_Page_clear_e cx hK hA hX v_length s.heap [] ls hP hD hS hl hf
abbrev WS_Page_put (h_this : Nat) (h_this_row : Nat) (c_this_row : ClassId) (v_length : Int32) (a_row : (Nat → Int32)) : va_W := [(h_this, .inr (5, [.ref h_this_row, .int v_length])), (h_this_row, .inl (c_this_row, 420, .inl a_row))]
def f_Page_put (v_length : Int32) (a_row : (Nat → Int32)) (p1 : Int32) : Option (Int32 × (Nat → Int32)) :=
  if v_length < 0 then
    some (v_length, a_row)
  else
    if (420 : Int32) ≤ v_length then
      some (v_length, a_row)
    else
      ck (gin v_length 420) <|
      bd (upd a_row v_length.toNatClampNeg ((p1.toInt8.toInt32).toInt8.toInt32)) fun a4 =>
      bd (v_length + (1 : Int32)) fun x5 =>
      some (x5, a4)
set_option maxHeartbeats 4000000 in
set_option maxRecDepth 100000 in
theorem s_Page_put_e {p : Program} {l : Launch} {e : Env} {s : State} {m : MethodId} {args : Array Value} {below : List Frame} {meth : Method} {c : Code} {dC : Nat → ClassId} {dI : Nat → Nat → Nat} {A : Nat → Prop} {X : SXT} {h_this : Nat} {h_this_row : Nat} {c_this_row : ClassId} {res : Int32 × (Nat → Int32)} (cx : cxx p s m args meth c b_Page_put 2 none R_Page) (hK : va_K (dC, dI) classes [(c_this_row, .byte)] s) (hA : ∀ q, s.heap.size ≤ q → A q) (hX : SX X A s s.heap) : ∀ (v_length : Int32) (a_row : (Nat → Int32)) (p1 : Int32) (H : Heap) (locs : List Loc) (ls : Array Slot), va_P (dC, dI) classes (WS_Page_put h_this h_this_row c_this_row v_length a_row) H → va_D A (WS_Page_put h_this h_this_row c_this_row v_length a_row) → va_S A s.heap H locs → lv_has ls 2 [(0, .ref h_this), (1, .int p1)] → f_Page_put v_length a_row p1 = some res → W p l e ({ frames := 0, cells := 0, slots := 0, locals := 0 }) s m args below meth c H locs 0 0 (MQ below (va_Qv (fun (u : Int32 × (Nat → Int32)) => some u = some res) (gB (dC, dI) [(c_this_row, .byte)] A (fun (u : Int32 × (Nat → Int32)) => (WS_Page_put h_this h_this_row c_this_row u.1 u.2))) A) args s 0 0 A) (F0 m 0 ls []) := by
  intro v_length a_row p1 H locs ls hP hD hS hl h
  obtain ⟨hx, hb, hr, hml, hown, ht, hlk⟩ := id cx
  refine lv_aload_n hx hb d_Page_put_0 rfl (lv_at hl 0 rfl) ?_
  refine va_get (D := (dC, dI)) (ci := 5) (v := .int v_length) (C := R_Page) (T := F_Page) (N := 2) hx hb ht i_Page hown hK hP 0 rfl rfl 1 (by decide) (ht _ q_234) (fun _ h9 => h9) rfl d_Page_put_1 ?_
  refine lv_if_lt (tgt := 40) hx hb d_Page_put_4 (by decide) (fun c1 => ?_) (fun c1 => ?_)
  · have h := if_t c1 h
    exact W.vret hx hb hr (fun t ht9 hW => ⟨⟨(v_length, a_row), rfl, h, by rw [ht9]; exact hP, va_K.moved hW.alike hK, hD⟩, hS.F ht9⟩) hS.2.2 d_Page_put_40 hlk
  · have h := if_f c1 h
    refine lv_aload_n hx hb d_Page_put_7 rfl (lv_at hl 0 rfl) ?_
    refine va_get (D := (dC, dI)) (ci := 5) (v := .int v_length) (C := R_Page) (T := F_Page) (N := 2) hx hb ht i_Page hown hK hP 0 rfl rfl 1 (by decide) (ht _ q_234) (fun _ h9 => h9) rfl d_Page_put_8 ?_
    refine lv_aload_n hx hb d_Page_put_11 rfl (lv_at hl 0 rfl) ?_
    refine va_get (D := (dC, dI)) (ci := 5) (v := .ref h_this_row) (C := R_Page) (T := F_Page) (N := 2) hx hb ht i_Page hown hK hP 0 rfl rfl 0 (by decide) (ht _ q_235) (fun _ h9 => h9) rfl d_Page_put_12 ?_
    refine va_alen (D := (dC, dI)) (v := 420) hx hb hK hP 1 0 rfl rfl rfl d_Page_put_15 ?_
    refine lv_icmp_ge (tgt := 40) hx hb d_Page_put_16 (by decide) (fun c2 => ?_) (fun c2 => ?_)
    · have h := if_t c2 h
      exact W.vret hx hb hr (fun t ht9 hW => ⟨⟨(v_length, a_row), rfl, h, by rw [ht9]; exact hP, va_K.moved hW.alike hK, hD⟩, hS.F ht9⟩) hS.2.2 d_Page_put_40 hlk
    · have h := if_f c2 h
      refine lv_aload_n hx hb d_Page_put_19 rfl (lv_at hl 0 rfl) ?_
      refine va_get (D := (dC, dI)) (ci := 5) (v := .ref h_this_row) (C := R_Page) (T := F_Page) (N := 2) hx hb ht i_Page hown hK hP 0 rfl rfl 0 (by decide) (ht _ q_235) (fun _ h9 => h9) rfl d_Page_put_20 ?_
      refine lv_aload_n hx hb d_Page_put_23 rfl (lv_at hl 0 rfl) ?_
      refine va_get (D := (dC, dI)) (ci := 5) (v := .int v_length) (C := R_Page) (T := F_Page) (N := 2) hx hb ht i_Page hown hK hP 0 rfl rfl 1 (by decide) (ht _ q_234) (fun _ h9 => h9) rfl d_Page_put_24 ?_
      refine lv_iload_n hx hb d_Page_put_27 rfl (lv_at hl 1 rfl) ?_
      refine lv_i2b (v := p1.toInt8.toInt32) hx hb d_Page_put_28 rfl ?_
      obtain ⟨c3, h⟩ := ck_x h
      refine va_bast (D := (dC, dI)) hx hb hK hP hD hS 1 0 rfl rfl c3 d_Page_put_29 (fun H locs hP hD hS => ?_)
      obtain ⟨a4, e_a4⟩ : ∃ y, y = upd a_row v_length.toNatClampNeg ((p1.toInt8.toInt32).toInt8.toInt32) := ⟨_, rfl⟩
      have hP : va_P (dC, dI) classes (WS_Page_put h_this h_this_row c_this_row v_length a4) H := by rw [e_a4]; exact hP
      have hD : va_D A (WS_Page_put h_this h_this_row c_this_row v_length a4) := by rw [e_a4]; exact hD
      have h := bd_g e_a4 h
      refine lv_aload_n hx hb d_Page_put_30 rfl (lv_at hl 0 rfl) ?_
      refine lv_dup hx hb d_Page_put_31 rfl ?_
      refine va_get (D := (dC, dI)) (ci := 5) (v := .int v_length) (C := R_Page) (T := F_Page) (N := 2) hx hb ht i_Page hown hK hP 0 rfl rfl 1 (by decide) (ht _ q_234) (fun _ h9 => h9) rfl d_Page_put_32 ?_
      refine lv_iconst (v := 1) hx hb d_Page_put_35 (by decide) ?_
      refine lv_iadd hx hb d_Page_put_36 ?_
      refine lv_topi (fun x5 e_x5 => ?_)
      have h := bd_g e_x5 h
      refine va_put (D := (dC, dI)) (ci := 5) (v := .int x5) (ty := .int) (C := R_Page) (T := F_Page) (N := 2) hx hb ht i_Page t_Page t_Page_ok n_Page hown hK hP hD hS 0 rfl rfl 1 (by decide) (ht _ q_234) (fun _ h9 => h9) rfl (t_Page_ok 1 (by decide)) rfl rfl (Nat.le_of_ble_eq_true rfl) d_Page_put_37 (fun H locs hP hD hS => ?_)
      have hP : va_P (dC, dI) classes (WS_Page_put h_this h_this_row c_this_row x5 a4) H := hP
      have hD : va_D A (WS_Page_put h_this h_this_row c_this_row x5 a4) := hD
      exact W.vret hx hb hr (fun t ht9 hW => ⟨⟨(x5, a4), rfl, h, by rw [ht9]; exact hP, va_K.moved hW.alike hK, hD⟩, hS.F ht9⟩) hS.2.2 d_Page_put_40 hlk
set_option maxHeartbeats 4000000 in
set_option maxRecDepth 100000 in
theorem c_Page_put (l : Launch) (dC : Nat → ClassId) (dI : Nat → Nat → Nat) (X : SXT) (h_this : Nat) (h_this_row : Nat) (c_this_row : ClassId) (sz : Nat) (v_length : Int32) (a_row : (Nat → Int32)) (p1 : Int32) (res : Int32 × (Nat → Int32)) (hf : f_Page_put v_length a_row p1 = some res) : Met l y_Page_put (.code y_Page_put b_Page_put 2 none :: w0) ({ frames := 0, cells := 0, slots := 0, locals := 0 }) (va_Pc [.ref h_this, .int p1] (gP (dC, dI) (WS_Page_put h_this h_this_row c_this_row v_length a_row) [(c_this_row, .byte)] sz X)) (va_Qv (fun (u : Int32 × (Nat → Int32)) => some u = some res) (gB (dC, dI) [(c_this_row, .byte)] (va_A (WS_Page_put h_this h_this_row c_this_row v_length a_row) sz) (fun (u : Int32 × (Nat → Int32)) => (WS_Page_put h_this h_this_row c_this_row u.1 u.2))) (va_A (WS_Page_put h_this h_this_row c_this_row v_length a_row) sz)) 0 0 (va_A (WS_Page_put h_this h_this_row c_this_row v_length a_row) sz) := by
  refine Met.ofW (cc := b_Page_put) (maxL := 2) (ret := none) (by decide) rfl ?_
  intro p e s m args below meth c s₁ B hml hv
  obtain ⟨rfl, hsz, hP, hK, hD0, hX⟩ := hv
  subst hsz
  have cx : cxx p s m ([.ref h_this, .int p1] : List Value).toArray meth c b_Page_put 2 none R_Page := ⟨B.exec, B.bytes, B.returns, hml, findClass_of_methodNamed B.named, fun w9 hw => atoms_spec (ws := .code y_Page_put b_Page_put 2 none :: w0) B.pre w9 (List.mem_cons_of_mem _ hw), B.notSynchronized⟩
  have hD := hD0.self (sz := s.heap.size)
  generalize hAe : va_A (WS_Page_put h_this h_this_row c_this_row v_length a_row) s.heap.size = A at hD hX ⊢
  have hA : ∀ q : Nat, s.heap.size ≤ q → A q := fun q h => by rw [← hAe]; exact Or.inr h
  have hS : va_S A s.heap s.heap [] := va_S.rf
  have hl := lv_entry ([.ref h_this, .int p1]) (n := 2) (Nat.le_of_ble_eq_true rfl)
  rw [lg_entry_eq]
  generalize (lg_sl ([.ref h_this, .int p1]) ++ List.replicate (2 - (lg_sl ([.ref h_this, .int p1])).length) Slot.unset).toArray = ls at hl ⊢
  have hl : lv_has ls 2 [(0, .ref h_this), (1, .int p1)] := hl
  exact s_Page_put_e cx hK hA hX v_length a_row p1 s.heap [] ls hP hD hS hl hf
abbrev WS_Writer_has (g_this_page : Nat) (g_this_exact : Nat) (g_this_digits : Nat) (h_this : Nat)  (v_count : Int32) (v_letter : Int32) (v_flags : Int32) (v_width : Int32) (v_precision : Int32) : va_W := [(h_this, .inr (6, [.ref g_this_page, .ref g_this_exact, .ref g_this_digits, .int v_count, .int v_letter, .int v_flags, .int v_width, .int v_precision]))]
def f_Writer_has (v_flags : Int32) (p1 : Int32) : Option (Int32) :=
  if (v_flags &&& p1) = 0 then
    some (0 : Int32)
  else
    some (1 : Int32)
set_option maxHeartbeats 4000000 in
set_option maxRecDepth 100000 in
theorem s_Writer_has_e {p : Program} {l : Launch} {e : Env} {s : State} {m : MethodId} {args : Array Value} {below : List Frame} {meth : Method} {c : Code} {dC : Nat → ClassId} {dI : Nat → Nat → Nat} {A : Nat → Prop} {X : SXT} {g_this_page : Nat} {g_this_exact : Nat} {g_this_digits : Nat} {h_this : Nat} {v_count : Int32} {v_letter : Int32} {v_width : Int32} {v_precision : Int32} {res : Int32} (cx : cxx p s m args meth c b_Writer_has 2 (some .boolean) R_Writer) (hK : va_K (dC, dI) classes [] s) (hA : ∀ q, s.heap.size ≤ q → A q) (hX : SX X A s s.heap) : ∀ (v_flags : Int32) (p1 : Int32) (H : Heap) (locs : List Loc) (ls : Array Slot), va_P (dC, dI) classes (WS_Writer_has g_this_page g_this_exact g_this_digits h_this v_count v_letter v_flags v_width v_precision) H → va_D A (WS_Writer_has g_this_page g_this_exact g_this_digits h_this v_count v_letter v_flags v_width v_precision) → va_S A s.heap H locs → lv_has ls 2 [(0, .ref h_this), (1, .int p1)] → f_Writer_has v_flags p1 = some res → W p l e ({ frames := 0, cells := 0, slots := 0, locals := 0 }) s m args below meth c H locs 0 0 (MQ below (va_Qi (fun (r : Int32) (_ : Unit) => some r = some res) (gB (dC, dI) [] A (fun (u : Unit) => (WS_Writer_has g_this_page g_this_exact g_this_digits h_this v_count v_letter v_flags v_width v_precision))) A) args s 0 0 A) (F0 m 0 ls []) := by
  intro v_flags p1 H locs ls hP hD hS hl h
  obtain ⟨hx, hb, hr, hml, hown, ht, hlk⟩ := id cx
  refine lv_aload_n hx hb d_Writer_has_0 rfl (lv_at hl 0 rfl) ?_
  refine va_get (D := (dC, dI)) (ci := 6) (v := .int v_flags) (C := R_Writer) (T := F_Writer) (N := 8) hx hb ht i_Writer hown hK hP 0 rfl rfl 5 (by decide) (ht _ q_231) (fun _ h9 => h9) rfl d_Writer_has_1 ?_
  refine lv_iload_n hx hb d_Writer_has_4 rfl (lv_at hl 1 rfl) ?_
  refine lv_iand hx hb d_Writer_has_5 ?_
  refine lv_if_eq (tgt := 13) hx hb d_Writer_has_6 (by decide) (fun c1 => ?_) (fun c1 => ?_)
  · have h := if_t c1 h
    refine lv_iconst (v := 0) hx hb d_Writer_has_13 (by decide) ?_
    exact W.zret (v := (0 : Int32)) hx hb hr rfl (fun t ht9 hW => ⟨⟨(0 : Int32), (), rfl, h, by rw [ht9]; exact hP, va_K.moved hW.alike hK, hD⟩, hS.F ht9⟩) hS.2.2 d_Writer_has_14 hlk
  · have h := if_f c1 h
    refine lv_iconst (v := 1) hx hb d_Writer_has_9 (by decide) ?_
    refine lv_goto (tgt := 14) hx hb d_Writer_has_10 (by decide) ?_
    exact W.zret (v := (1 : Int32)) hx hb hr rfl (fun t ht9 hW => ⟨⟨(1 : Int32), (), rfl, h, by rw [ht9]; exact hP, va_K.moved hW.alike hK, hD⟩, hS.F ht9⟩) hS.2.2 d_Writer_has_14 hlk
set_option maxHeartbeats 4000000 in
set_option maxRecDepth 100000 in
theorem c_Writer_has (l : Launch) (dC : Nat → ClassId) (dI : Nat → Nat → Nat) (X : SXT) (g_this_page : Nat) (g_this_exact : Nat) (g_this_digits : Nat) (h_this : Nat) (sz : Nat) (v_count : Int32) (v_letter : Int32) (v_flags : Int32) (v_width : Int32) (v_precision : Int32) (p1 : Int32) (res : Int32) (hf : f_Writer_has v_flags p1 = some res) : Met l y_Writer_has (.code y_Writer_has b_Writer_has 2 (some .boolean) :: w0) ({ frames := 0, cells := 0, slots := 0, locals := 0 }) (va_Pc [.ref h_this, .int p1] (gP (dC, dI) (WS_Writer_has g_this_page g_this_exact g_this_digits h_this v_count v_letter v_flags v_width v_precision) [] sz X)) (va_Qi (fun (r : Int32) (_ : Unit) => some r = some res) (gB (dC, dI) [] (va_A (WS_Writer_has g_this_page g_this_exact g_this_digits h_this v_count v_letter v_flags v_width v_precision) sz) (fun (u : Unit) => (WS_Writer_has g_this_page g_this_exact g_this_digits h_this v_count v_letter v_flags v_width v_precision))) (va_A (WS_Writer_has g_this_page g_this_exact g_this_digits h_this v_count v_letter v_flags v_width v_precision) sz)) 0 0 (va_A (WS_Writer_has g_this_page g_this_exact g_this_digits h_this v_count v_letter v_flags v_width v_precision) sz) := by
  refine Met.ofW (cc := b_Writer_has) (maxL := 2) (ret := (some .boolean)) (by decide) rfl ?_
  intro p e s m args below meth c s₁ B hml hv
  obtain ⟨rfl, hsz, hP, hK, hD0, hX⟩ := hv
  subst hsz
  have cx : cxx p s m ([.ref h_this, .int p1] : List Value).toArray meth c b_Writer_has 2 (some .boolean) R_Writer := ⟨B.exec, B.bytes, B.returns, hml, findClass_of_methodNamed B.named, fun w9 hw => atoms_spec (ws := .code y_Writer_has b_Writer_has 2 (some .boolean) :: w0) B.pre w9 (List.mem_cons_of_mem _ hw), B.notSynchronized⟩
  have hD := hD0.self (sz := s.heap.size)
  generalize hAe : va_A (WS_Writer_has g_this_page g_this_exact g_this_digits h_this v_count v_letter v_flags v_width v_precision) s.heap.size = A at hD hX ⊢
  have hA : ∀ q : Nat, s.heap.size ≤ q → A q := fun q h => by rw [← hAe]; exact Or.inr h
  have hS : va_S A s.heap s.heap [] := va_S.rf
  have hl := lv_entry ([.ref h_this, .int p1]) (n := 2) (Nat.le_of_ble_eq_true rfl)
  rw [lg_entry_eq]
  generalize (lg_sl ([.ref h_this, .int p1]) ++ List.replicate (2 - (lg_sl ([.ref h_this, .int p1])).length) Slot.unset).toArray = ls at hl ⊢
  have hl : lv_has ls 2 [(0, .ref h_this), (1, .int p1)] := hl
  exact s_Writer_has_e cx hK hA hX v_flags p1 s.heap [] ls hP hD hS hl hf
abbrev WS_Writer_putSign (g_this_exact : Nat) (g_this_digits : Nat) (h_this : Nat) (h_this_page : Nat) (h_this_page_row : Nat) (c_this_page_row : ClassId) (v_count : Int32) (v_letter : Int32) (v_flags : Int32) (v_width : Int32) (v_precision : Int32) (v_page_length : Int32) (a_page_row : (Nat → Int32)) : va_W := [(h_this, .inr (6, [.ref h_this_page, .ref g_this_exact, .ref g_this_digits, .int v_count, .int v_letter, .int v_flags, .int v_width, .int v_precision])), (h_this_page, .inr (5, [.ref h_this_page_row, .int v_page_length])), (h_this_page_row, .inl (c_this_page_row, 420, .inl a_page_row))]
def f_Writer_putSign (v_flags : Int32) (v_page_length : Int32) (a_page_row : (Nat → Int32)) (p1 : Int32) : Option (Int32 × (Nat → Int32)) :=
  if p1 = 0 then
    bi1 (f_Writer_has v_flags (2 : Int32)) fun r2 =>
    if r2 = 0 then
      bi1 (f_Writer_has v_flags (4 : Int32)) fun r4 =>
      if r4 = 0 then
        some (v_page_length, a_page_row)
      else
        bi2 (f_Page_put v_page_length a_page_row (32 : Int32)) fun v6 a7 =>
        some (v6, a7)
    else
      bi2 (f_Page_put v_page_length a_page_row (43 : Int32)) fun v8 a9 =>
      some (v8, a9)
  else
    bi2 (f_Page_put v_page_length a_page_row (45 : Int32)) fun v10 a11 =>
    some (v10, a11)
set_option maxHeartbeats 4000000 in
set_option maxRecDepth 100000 in
theorem s_Writer_putSign_e {p : Program} {l : Launch} {e : Env} {s : State} {m : MethodId} {args : Array Value} {below : List Frame} {meth : Method} {c : Code} {dC : Nat → ClassId} {dI : Nat → Nat → Nat} {A : Nat → Prop} {X : SXT} {g_this_exact : Nat} {g_this_digits : Nat} {h_this : Nat} {h_this_page : Nat} {h_this_page_row : Nat} {c_this_page_row : ClassId} {v_count : Int32} {v_letter : Int32} {v_width : Int32} {v_precision : Int32} {res : Int32 × (Nat → Int32)} (cx : cxx p s m args meth c b_Writer_putSign 2 none R_Writer) (hK : va_K (dC, dI) classes [(c_this_page_row, .byte)] s) (hA : ∀ q, s.heap.size ≤ q → A q) (hX : SX X A s s.heap) : ∀ (v_flags : Int32) (v_page_length : Int32) (a_page_row : (Nat → Int32)) (p1 : Int32) (H : Heap) (locs : List Loc) (ls : Array Slot), va_P (dC, dI) classes (WS_Writer_putSign g_this_exact g_this_digits h_this h_this_page h_this_page_row c_this_page_row v_count v_letter v_flags v_width v_precision v_page_length a_page_row) H → va_D A (WS_Writer_putSign g_this_exact g_this_digits h_this h_this_page h_this_page_row c_this_page_row v_count v_letter v_flags v_width v_precision v_page_length a_page_row) → va_S A s.heap H locs → lv_has ls 2 [(0, .ref h_this), (1, .int p1)] → f_Writer_putSign v_flags v_page_length a_page_row p1 = some res → W p l e ({ frames := 1, cells := 0, slots := 0, locals := 21 }) s m args below meth c H locs 0 0 (MQ below (va_Qv (fun (u : Int32 × (Nat → Int32)) => some u = some res) (gB (dC, dI) [(c_this_page_row, .byte)] A (fun (u : Int32 × (Nat → Int32)) => (WS_Writer_putSign g_this_exact g_this_digits h_this h_this_page h_this_page_row c_this_page_row v_count v_letter v_flags v_width v_precision u.1 u.2))) A) args s 0 0 A) (F0 m 0 ls []) := by
  intro v_flags v_page_length a_page_row p1 H locs ls hP hD hS hl h
  obtain ⟨hx, hb, hr, hml, hown, ht, hlk⟩ := id cx
  refine lv_iload_n hx hb d_Writer_putSign_0 rfl (lv_at hl 1 rfl) ?_
  refine lv_if_eq (tgt := 16) hx hb d_Writer_putSign_1 (by decide) (fun c1 => ?_) (fun c1 => ?_)
  · have h := if_t c1 h
    refine lv_aload_n hx hb d_Writer_putSign_16 rfl (lv_at hl 0 rfl) ?_
    refine lv_iconst (v := 2) hx hb d_Writer_putSign_17 (by decide) ?_
    obtain ⟨r2, hf, h⟩ := bi1_x h
    refine clVi (D := (dC, dI)) (n := 1) (As := [.int (2 : Int32)]) ⟨hx, hb, hml, hown, ht⟩ (c_Writer_has l dC dI X h_this_page g_this_exact g_this_digits h_this H.size v_count v_letter v_flags v_width v_precision (2 : Int32) r2 hf) (gV q_236 q_237 q_238 q_239 q_240) (by decide +kernel) ⟨rfl, rfl, Nat.le_of_ble_eq_true rfl, Nat.le_of_ble_eq_true rfl⟩ hK hP hD hS hA hX [0] [1, 2] [] rfl (wr := [(h_this_page, .inr (5, [.ref h_this_page_row, .int v_page_length])), (h_this_page_row, .inl (c_this_page_row, 420, .inl a_page_row))]) rfl (by decide) (by decide) (by decide) rfl (va_recv hK hP (ci := 6) (q0 := 0) rfl rfl) rfl hl.1 rfl (lv_room (Nat.le_of_ble_eq_true rfl)) d_Writer_putSign_18 ⟨Nat.zero_le _, Nat.zero_le _⟩ (fun r9 u9 H locs h9 hP hD hS => ?_)
    cases h9
    have hP : va_P (dC, dI) classes (WS_Writer_putSign g_this_exact g_this_digits h_this h_this_page h_this_page_row c_this_page_row v_count v_letter v_flags v_width v_precision v_page_length a_page_row) H := hP.sub [2, 0, 1] rfl
    have hD : va_D A (WS_Writer_putSign g_this_exact g_this_digits h_this h_this_page h_this_page_row c_this_page_row v_count v_letter v_flags v_width v_precision v_page_length a_page_row) := hD.sub [2, 0, 1] (by decide) rfl
    refine lv_if_eq (tgt := 36) hx hb d_Writer_putSign_21 (by decide) (fun c3 => ?_) (fun c3 => ?_)
    · have h := if_t c3 h
      refine lv_aload_n hx hb d_Writer_putSign_36 rfl (lv_at hl 0 rfl) ?_
      refine lv_iconst (v := 4) hx hb d_Writer_putSign_37 (by decide) ?_
      obtain ⟨r4, hf, h⟩ := bi1_x h
      refine clVi (D := (dC, dI)) (n := 1) (As := [.int (4 : Int32)]) ⟨hx, hb, hml, hown, ht⟩ (c_Writer_has l dC dI X h_this_page g_this_exact g_this_digits h_this H.size v_count v_letter v_flags v_width v_precision (4 : Int32) r4 hf) (gV q_236 q_237 q_238 q_239 q_240) (by decide +kernel) ⟨rfl, rfl, Nat.le_of_ble_eq_true rfl, Nat.le_of_ble_eq_true rfl⟩ hK hP hD hS hA hX [0] [1, 2] [] rfl (wr := [(h_this_page, .inr (5, [.ref h_this_page_row, .int v_page_length])), (h_this_page_row, .inl (c_this_page_row, 420, .inl a_page_row))]) rfl (by decide) (by decide) (by decide) rfl (va_recv hK hP (ci := 6) (q0 := 0) rfl rfl) rfl hl.1 rfl (lv_room (Nat.le_of_ble_eq_true rfl)) d_Writer_putSign_38 ⟨Nat.zero_le _, Nat.zero_le _⟩ (fun r9 u9 H locs h9 hP hD hS => ?_)
      cases h9
      have hP : va_P (dC, dI) classes (WS_Writer_putSign g_this_exact g_this_digits h_this h_this_page h_this_page_row c_this_page_row v_count v_letter v_flags v_width v_precision v_page_length a_page_row) H := hP.sub [2, 0, 1] rfl
      have hD : va_D A (WS_Writer_putSign g_this_exact g_this_digits h_this h_this_page h_this_page_row c_this_page_row v_count v_letter v_flags v_width v_precision v_page_length a_page_row) := hD.sub [2, 0, 1] (by decide) rfl
      refine lv_if_eq (tgt := 53) hx hb d_Writer_putSign_41 (by decide) (fun c5 => ?_) (fun c5 => ?_)
      · have h := if_t c5 h
        exact W.vret hx hb hr (fun t ht9 hW => ⟨⟨(v_page_length, a_page_row), rfl, h, by rw [ht9]; exact hP, va_K.moved hW.alike hK, hD⟩, hS.F ht9⟩) hS.2.2 d_Writer_putSign_53 hlk
      · have h := if_f c5 h
        refine lv_aload_n hx hb d_Writer_putSign_44 rfl (lv_at hl 0 rfl) ?_
        refine va_get (D := (dC, dI)) (ci := 6) (v := .ref h_this_page) (C := R_Writer) (T := F_Writer) (N := 8) hx hb ht i_Writer hown hK hP 0 rfl rfl 0 (by decide) (ht _ q_241) (fun _ h9 => h9) rfl d_Writer_putSign_45 ?_
        refine lv_bipush (v := 32) hx hb d_Writer_putSign_48 (by decide) ?_
        obtain ⟨v6, a7, hf, h⟩ := bi2_x h
        refine clVv (D := (dC, dI)) (n := 1) (As := [.int (32 : Int32)]) ⟨hx, hb, hml, hown, ht⟩ (c_Page_put l dC dI X h_this_page h_this_page_row c_this_page_row H.size v_page_length a_page_row (32 : Int32) (v6, a7) hf) (gV q_242 q_243 q_244 q_245 q_246) (by decide +kernel) ⟨rfl, rfl, Nat.le_of_ble_eq_true rfl, Nat.le_of_ble_eq_true rfl⟩ hK hP hD hS hA hX [1, 2] [0] [0] rfl (wr := [(h_this, .inr (6, [.ref h_this_page, .ref g_this_exact, .ref g_this_digits, .int v_count, .int v_letter, .int v_flags, .int v_width, .int v_precision]))]) rfl (by decide) (by decide) (by decide) rfl (va_recv hK hP (ci := 5) (q0 := 1) rfl rfl) rfl hl.1 rfl (lv_room (Nat.le_of_ble_eq_true rfl)) d_Writer_putSign_50 ⟨Nat.zero_le _, Nat.zero_le _⟩ (fun u9 H locs h9 hP hD hS => ?_)
        cases h9
        have hP : va_P (dC, dI) classes (WS_Writer_putSign g_this_exact g_this_digits h_this h_this_page h_this_page_row c_this_page_row v_count v_letter v_flags v_width v_precision v6 a7) H := hP.sub [0, 1, 2] rfl
        have hD : va_D A (WS_Writer_putSign g_this_exact g_this_digits h_this h_this_page h_this_page_row c_this_page_row v_count v_letter v_flags v_width v_precision v6 a7) := hD.sub [0, 1, 2] (by decide) rfl
        exact W.vret hx hb hr (fun t ht9 hW => ⟨⟨(v6, a7), rfl, h, by rw [ht9]; exact hP, va_K.moved hW.alike hK, hD⟩, hS.F ht9⟩) hS.2.2 d_Writer_putSign_53 hlk
    · have h := if_f c3 h
      refine lv_aload_n hx hb d_Writer_putSign_24 rfl (lv_at hl 0 rfl) ?_
      refine va_get (D := (dC, dI)) (ci := 6) (v := .ref h_this_page) (C := R_Writer) (T := F_Writer) (N := 8) hx hb ht i_Writer hown hK hP 0 rfl rfl 0 (by decide) (ht _ q_241) (fun _ h9 => h9) rfl d_Writer_putSign_25 ?_
      refine lv_bipush (v := 43) hx hb d_Writer_putSign_28 (by decide) ?_
      obtain ⟨v8, a9, hf, h⟩ := bi2_x h
      refine clVv (D := (dC, dI)) (n := 1) (As := [.int (43 : Int32)]) ⟨hx, hb, hml, hown, ht⟩ (c_Page_put l dC dI X h_this_page h_this_page_row c_this_page_row H.size v_page_length a_page_row (43 : Int32) (v8, a9) hf) (gV q_242 q_243 q_244 q_245 q_246) (by decide +kernel) ⟨rfl, rfl, Nat.le_of_ble_eq_true rfl, Nat.le_of_ble_eq_true rfl⟩ hK hP hD hS hA hX [1, 2] [0] [0] rfl (wr := [(h_this, .inr (6, [.ref h_this_page, .ref g_this_exact, .ref g_this_digits, .int v_count, .int v_letter, .int v_flags, .int v_width, .int v_precision]))]) rfl (by decide) (by decide) (by decide) rfl (va_recv hK hP (ci := 5) (q0 := 1) rfl rfl) rfl hl.1 rfl (lv_room (Nat.le_of_ble_eq_true rfl)) d_Writer_putSign_30 ⟨Nat.zero_le _, Nat.zero_le _⟩ (fun u9 H locs h9 hP hD hS => ?_)
      cases h9
      have hP : va_P (dC, dI) classes (WS_Writer_putSign g_this_exact g_this_digits h_this h_this_page h_this_page_row c_this_page_row v_count v_letter v_flags v_width v_precision v8 a9) H := hP.sub [0, 1, 2] rfl
      have hD : va_D A (WS_Writer_putSign g_this_exact g_this_digits h_this h_this_page h_this_page_row c_this_page_row v_count v_letter v_flags v_width v_precision v8 a9) := hD.sub [0, 1, 2] (by decide) rfl
      refine lv_goto (tgt := 53) hx hb d_Writer_putSign_33 (by decide) ?_
      exact W.vret hx hb hr (fun t ht9 hW => ⟨⟨(v8, a9), rfl, h, by rw [ht9]; exact hP, va_K.moved hW.alike hK, hD⟩, hS.F ht9⟩) hS.2.2 d_Writer_putSign_53 hlk
  · have h := if_f c1 h
    refine lv_aload_n hx hb d_Writer_putSign_4 rfl (lv_at hl 0 rfl) ?_
    refine va_get (D := (dC, dI)) (ci := 6) (v := .ref h_this_page) (C := R_Writer) (T := F_Writer) (N := 8) hx hb ht i_Writer hown hK hP 0 rfl rfl 0 (by decide) (ht _ q_241) (fun _ h9 => h9) rfl d_Writer_putSign_5 ?_
    refine lv_bipush (v := 45) hx hb d_Writer_putSign_8 (by decide) ?_
    obtain ⟨v10, a11, hf, h⟩ := bi2_x h
    refine clVv (D := (dC, dI)) (n := 1) (As := [.int (45 : Int32)]) ⟨hx, hb, hml, hown, ht⟩ (c_Page_put l dC dI X h_this_page h_this_page_row c_this_page_row H.size v_page_length a_page_row (45 : Int32) (v10, a11) hf) (gV q_242 q_243 q_244 q_245 q_246) (by decide +kernel) ⟨rfl, rfl, Nat.le_of_ble_eq_true rfl, Nat.le_of_ble_eq_true rfl⟩ hK hP hD hS hA hX [1, 2] [0] [0] rfl (wr := [(h_this, .inr (6, [.ref h_this_page, .ref g_this_exact, .ref g_this_digits, .int v_count, .int v_letter, .int v_flags, .int v_width, .int v_precision]))]) rfl (by decide) (by decide) (by decide) rfl (va_recv hK hP (ci := 5) (q0 := 1) rfl rfl) rfl hl.1 rfl (lv_room (Nat.le_of_ble_eq_true rfl)) d_Writer_putSign_10 ⟨Nat.zero_le _, Nat.zero_le _⟩ (fun u9 H locs h9 hP hD hS => ?_)
    cases h9
    have hP : va_P (dC, dI) classes (WS_Writer_putSign g_this_exact g_this_digits h_this h_this_page h_this_page_row c_this_page_row v_count v_letter v_flags v_width v_precision v10 a11) H := hP.sub [0, 1, 2] rfl
    have hD : va_D A (WS_Writer_putSign g_this_exact g_this_digits h_this h_this_page h_this_page_row c_this_page_row v_count v_letter v_flags v_width v_precision v10 a11) := hD.sub [0, 1, 2] (by decide) rfl
    refine lv_goto (tgt := 53) hx hb d_Writer_putSign_13 (by decide) ?_
    exact W.vret hx hb hr (fun t ht9 hW => ⟨⟨(v10, a11), rfl, h, by rw [ht9]; exact hP, va_K.moved hW.alike hK, hD⟩, hS.F ht9⟩) hS.2.2 d_Writer_putSign_53 hlk
set_option maxHeartbeats 4000000 in
set_option maxRecDepth 100000 in
theorem c_Writer_putSign (l : Launch) (dC : Nat → ClassId) (dI : Nat → Nat → Nat) (X : SXT) (g_this_exact : Nat) (g_this_digits : Nat) (h_this : Nat) (h_this_page : Nat) (h_this_page_row : Nat) (c_this_page_row : ClassId) (sz : Nat) (v_count : Int32) (v_letter : Int32) (v_flags : Int32) (v_width : Int32) (v_precision : Int32) (v_page_length : Int32) (a_page_row : (Nat → Int32)) (p1 : Int32) (res : Int32 × (Nat → Int32)) (hf : f_Writer_putSign v_flags v_page_length a_page_row p1 = some res) : Met l y_Writer_putSign (.code y_Writer_putSign b_Writer_putSign 2 none :: w0) ({ frames := 1, cells := 0, slots := 0, locals := 21 }) (va_Pc [.ref h_this, .int p1] (gP (dC, dI) (WS_Writer_putSign g_this_exact g_this_digits h_this h_this_page h_this_page_row c_this_page_row v_count v_letter v_flags v_width v_precision v_page_length a_page_row) [(c_this_page_row, .byte)] sz X)) (va_Qv (fun (u : Int32 × (Nat → Int32)) => some u = some res) (gB (dC, dI) [(c_this_page_row, .byte)] (va_A (WS_Writer_putSign g_this_exact g_this_digits h_this h_this_page h_this_page_row c_this_page_row v_count v_letter v_flags v_width v_precision v_page_length a_page_row) sz) (fun (u : Int32 × (Nat → Int32)) => (WS_Writer_putSign g_this_exact g_this_digits h_this h_this_page h_this_page_row c_this_page_row v_count v_letter v_flags v_width v_precision u.1 u.2))) (va_A (WS_Writer_putSign g_this_exact g_this_digits h_this h_this_page h_this_page_row c_this_page_row v_count v_letter v_flags v_width v_precision v_page_length a_page_row) sz)) 0 0 (va_A (WS_Writer_putSign g_this_exact g_this_digits h_this h_this_page h_this_page_row c_this_page_row v_count v_letter v_flags v_width v_precision v_page_length a_page_row) sz) := by
  refine Met.ofW (cc := b_Writer_putSign) (maxL := 2) (ret := none) (by decide) rfl ?_
  intro p e s m args below meth c s₁ B hml hv
  obtain ⟨rfl, hsz, hP, hK, hD0, hX⟩ := hv
  subst hsz
  have cx : cxx p s m ([.ref h_this, .int p1] : List Value).toArray meth c b_Writer_putSign 2 none R_Writer := ⟨B.exec, B.bytes, B.returns, hml, findClass_of_methodNamed B.named, fun w9 hw => atoms_spec (ws := .code y_Writer_putSign b_Writer_putSign 2 none :: w0) B.pre w9 (List.mem_cons_of_mem _ hw), B.notSynchronized⟩
  have hD := hD0.self (sz := s.heap.size)
  generalize hAe : va_A (WS_Writer_putSign g_this_exact g_this_digits h_this h_this_page h_this_page_row c_this_page_row v_count v_letter v_flags v_width v_precision v_page_length a_page_row) s.heap.size = A at hD hX ⊢
  have hA : ∀ q : Nat, s.heap.size ≤ q → A q := fun q h => by rw [← hAe]; exact Or.inr h
  have hS : va_S A s.heap s.heap [] := va_S.rf
  have hl := lv_entry ([.ref h_this, .int p1]) (n := 2) (Nat.le_of_ble_eq_true rfl)
  rw [lg_entry_eq]
  generalize (lg_sl ([.ref h_this, .int p1]) ++ List.replicate (2 - (lg_sl ([.ref h_this, .int p1])).length) Slot.unset).toArray = ls at hl ⊢
  have hl : lv_has ls 2 [(0, .ref h_this), (1, .int p1)] := hl
  exact s_Writer_putSign_e cx hK hA hX v_flags v_page_length a_page_row p1 s.heap [] ls hP hD hS hl hf
abbrev WS_Writer_findTens (g_this_page : Nat) (g_this_exact : Nat) (h_this : Nat) (h_this_digits : Nat) (c_this_digits : ClassId) (v_count : Int32) (v_letter : Int32) (v_flags : Int32) (v_width : Int32) (v_precision : Int32) (a_digits : (Nat → Int32)) : va_W := [(h_this, .inr (6, [.ref g_this_page, .ref g_this_exact, .ref h_this_digits, .int v_count, .int v_letter, .int v_flags, .int v_width, .int v_precision])), (h_this_digits, .inl (c_this_digits, 22, .inl a_digits))]
def f_Writer_findTens_56 (k7 : Int32 → (Nat → Int32) → Int64 → Option (Int32 × (Nat → Int32))) (v_count : Int32) (a_digits : (Nat → Int32)) (y3 : Int64) (z1 : Int32) (z2 : Int32) (z3 : Int32) : Option (Int32 × (Nat → Int32)) :=
  ck (gin z1 22) <|
  bd (upd a_digits z1.toNatClampNeg (((z2 + z3).toInt8.toInt32).toInt8.toInt32)) fun a2 =>
  bd (v_count + (1 : Int32)) fun x3 =>
  bd (y3 / (10 : Int64)) fun x4 =>
  k7 x3 a2 x4
def f_Writer_findTens_7b (k7 : Int32 → (Nat → Int32) → Int64 → Option (Int32 × (Nat → Int32))) (v_count : Int32) (a_digits : (Nat → Int32)) (y3 : Int64) : Option (Int32 × (Nat → Int32)) :=
  if y3 = (0 : Int64) then
    some (v_count, a_digits)
  else
    if (22 : Int32) ≤ v_count then
      some (v_count, a_digits)
    else
      bd ((lrm y3 (10 : Int64)).toInt32) fun x7 =>
      if 0 ≤ x7 then
        f_Writer_findTens_56 k7 v_count a_digits y3 v_count (48 : Int32) x7
      else
        f_Writer_findTens_56 k7 v_count a_digits y3 v_count (48 : Int32) (-x7)
def f_Writer_findTens_7 : Nat → Int32 → (Nat → Int32) → Int64 → Option (Int32 × (Nat → Int32))
  | 0 => fun _ _ _ => none
  | n + 1 => fun v_count a_digits y3 => f_Writer_findTens_7b (f_Writer_findTens_7 n) v_count a_digits y3
def f_Writer_findTens (v_count : Int32) (a_digits : (Nat → Int32)) (p1 : Int64) : Option (Int32 × (Nat → Int32)) :=
  f_Writer_findTens_7 fu (0 : Int32) a_digits p1
set_option maxHeartbeats 4000000 in
set_option maxRecDepth 100000 in
theorem s_Writer_findTens_56 {p : Program} {l : Launch} {e : Env} {s : State} {m : MethodId} {args : Array Value} {below : List Frame} {meth : Method} {c : Code} {dC : Nat → ClassId} {dI : Nat → Nat → Nat} {A : Nat → Prop} {X : SXT} {g_this_page : Nat} {g_this_exact : Nat} {h_this : Nat} {h_this_digits : Nat} {c_this_digits : ClassId} {v_letter : Int32} {v_flags : Int32} {v_width : Int32} {v_precision : Int32} {res : Int32 × (Nat → Int32)} {k7 : Int32 → (Nat → Int32) → Int64 → Option (Int32 × (Nat → Int32))} (cx : cxx p s m args meth c b_Writer_findTens 6 none R_Writer) (hK : va_K (dC, dI) classes [(c_this_digits, .byte)] s) (hA : ∀ q, s.heap.size ≤ q → A q) (hX : SX X A s s.heap) (hk7 : ∀ (v_count : Int32) (a_digits : (Nat → Int32)) (y3 : Int64) (H : Heap) (locs : List Loc) (ls : Array Slot), va_P (dC, dI) classes (WS_Writer_findTens g_this_page g_this_exact h_this h_this_digits c_this_digits v_count v_letter v_flags v_width v_precision a_digits) H → va_D A (WS_Writer_findTens g_this_page g_this_exact h_this h_this_digits c_this_digits v_count v_letter v_flags v_width v_precision a_digits) → va_S A s.heap H locs → lv_has ls 6 [(0, .ref h_this), (3, .long y3)] → k7 v_count a_digits y3 = some res → W p l e ({ frames := 0, cells := 0, slots := 0, locals := 0 }) s m args below meth c H locs 0 0 (MQ below (va_Qv (fun (u : Int32 × (Nat → Int32)) => some u = some res) (gB (dC, dI) [(c_this_digits, .byte)] A (fun (u : Int32 × (Nat → Int32)) => (WS_Writer_findTens g_this_page g_this_exact h_this h_this_digits c_this_digits u.1 v_letter v_flags v_width v_precision u.2))) A) args s 0 0 A) (F0 m 7 ls [])) : ∀ (v_count : Int32) (a_digits : (Nat → Int32)) (y3 : Int64) (z1 : Int32) (z2 : Int32) (z3 : Int32) (H : Heap) (locs : List Loc) (ls : Array Slot), va_P (dC, dI) classes (WS_Writer_findTens g_this_page g_this_exact h_this h_this_digits c_this_digits v_count v_letter v_flags v_width v_precision a_digits) H → va_D A (WS_Writer_findTens g_this_page g_this_exact h_this h_this_digits c_this_digits v_count v_letter v_flags v_width v_precision a_digits) → va_S A s.heap H locs → lv_has ls 6 [(0, .ref h_this), (3, .long y3)] → f_Writer_findTens_56 k7 v_count a_digits y3 z1 z2 z3 = some res → W p l e ({ frames := 0, cells := 0, slots := 0, locals := 0 }) s m args below meth c H locs 0 0 (MQ below (va_Qv (fun (u : Int32 × (Nat → Int32)) => some u = some res) (gB (dC, dI) [(c_this_digits, .byte)] A (fun (u : Int32 × (Nat → Int32)) => (WS_Writer_findTens g_this_page g_this_exact h_this h_this_digits c_this_digits u.1 v_letter v_flags v_width v_precision u.2))) A) args s 0 0 A) (F0 m 56 ls [.int z3, .int z2, .int z1, .ref h_this_digits]) := by
  intro v_count a_digits y3 z1 z2 z3 H locs ls hP hD hS hl h
  obtain ⟨hx, hb, hr, hml, hown, ht, hlk⟩ := id cx
  refine lv_iadd hx hb d_Writer_findTens_56 ?_
  refine lv_i2b (v := (z2 + z3).toInt8.toInt32) hx hb d_Writer_findTens_57 rfl ?_
  obtain ⟨c1, h⟩ := ck_x h
  refine va_bast (D := (dC, dI)) hx hb hK hP hD hS 1 0 rfl rfl c1 d_Writer_findTens_58 (fun H locs hP hD hS => ?_)
  obtain ⟨a2, e_a2⟩ : ∃ y, y = upd a_digits z1.toNatClampNeg (((z2 + z3).toInt8.toInt32).toInt8.toInt32) := ⟨_, rfl⟩
  have hP : va_P (dC, dI) classes (WS_Writer_findTens g_this_page g_this_exact h_this h_this_digits c_this_digits v_count v_letter v_flags v_width v_precision a2) H := by rw [e_a2]; exact hP
  have hD : va_D A (WS_Writer_findTens g_this_page g_this_exact h_this h_this_digits c_this_digits v_count v_letter v_flags v_width v_precision a2) := by rw [e_a2]; exact hD
  have h := bd_g e_a2 h
  refine lv_aload_n hx hb d_Writer_findTens_59 rfl (lv_at hl 0 rfl) ?_
  refine lv_dup hx hb d_Writer_findTens_60 rfl ?_
  refine va_get (D := (dC, dI)) (ci := 6) (v := .int v_count) (C := R_Writer) (T := F_Writer) (N := 8) hx hb ht i_Writer hown hK hP 0 rfl rfl 3 (by decide) (ht _ q_247) (fun _ h9 => h9) rfl d_Writer_findTens_61 ?_
  refine lv_iconst (v := 1) hx hb d_Writer_findTens_64 (by decide) ?_
  refine lv_iadd hx hb d_Writer_findTens_65 ?_
  refine lv_topi (fun x3 e_x3 => ?_)
  have h := bd_g e_x3 h
  refine va_put (D := (dC, dI)) (ci := 6) (v := .int x3) (ty := .int) (C := R_Writer) (T := F_Writer) (N := 8) hx hb ht i_Writer t_Writer t_Writer_ok n_Writer hown hK hP hD hS 0 rfl rfl 3 (by decide) (ht _ q_247) (fun _ h9 => h9) rfl (t_Writer_ok 3 (by decide)) rfl rfl (Nat.le_of_ble_eq_true rfl) d_Writer_findTens_66 (fun H locs hP hD hS => ?_)
  have hP : va_P (dC, dI) classes (WS_Writer_findTens g_this_page g_this_exact h_this h_this_digits c_this_digits x3 v_letter v_flags v_width v_precision a2) H := hP
  have hD : va_D A (WS_Writer_findTens g_this_page g_this_exact h_this h_this_digits c_this_digits x3 v_letter v_flags v_width v_precision a2) := hD
  refine lv_lload_n hx hb d_Writer_findTens_69 rfl (lv_at hl 1 rfl) ?_
  refine lv_ldc2 (v := 10) hx hb hown (ht _ q_248) d_Writer_findTens_70 ?_
  refine lv_ldiv hx hb d_Writer_findTens_73 (by decide) ?_
  refine lv_topl (fun x4 e_x4 => ?_)
  have h := bd_g e_x4 h
  refine lv_lstore_n (lv' := [(3, .long x4), (0, .ref h_this)]) hx hb d_Writer_findTens_74 rfl hl (by decide) rfl (fun ls hl => ?_)
  refine lv_goto (tgt := 7) hx hb d_Writer_findTens_75 (by decide) ?_
  exact hk7 x3 a2 x4 H locs ls hP hD hS (lv_sub hl [1, 0] rfl) h
set_option maxHeartbeats 4000000 in
set_option maxRecDepth 100000 in
theorem s_Writer_findTens_7b {p : Program} {l : Launch} {e : Env} {s : State} {m : MethodId} {args : Array Value} {below : List Frame} {meth : Method} {c : Code} {dC : Nat → ClassId} {dI : Nat → Nat → Nat} {A : Nat → Prop} {X : SXT} {g_this_page : Nat} {g_this_exact : Nat} {h_this : Nat} {h_this_digits : Nat} {c_this_digits : ClassId} {v_letter : Int32} {v_flags : Int32} {v_width : Int32} {v_precision : Int32} {res : Int32 × (Nat → Int32)} {k7 : Int32 → (Nat → Int32) → Int64 → Option (Int32 × (Nat → Int32))} (cx : cxx p s m args meth c b_Writer_findTens 6 none R_Writer) (hK : va_K (dC, dI) classes [(c_this_digits, .byte)] s) (hA : ∀ q, s.heap.size ≤ q → A q) (hX : SX X A s s.heap) (hk7 : ∀ (v_count : Int32) (a_digits : (Nat → Int32)) (y3 : Int64) (H : Heap) (locs : List Loc) (ls : Array Slot), va_P (dC, dI) classes (WS_Writer_findTens g_this_page g_this_exact h_this h_this_digits c_this_digits v_count v_letter v_flags v_width v_precision a_digits) H → va_D A (WS_Writer_findTens g_this_page g_this_exact h_this h_this_digits c_this_digits v_count v_letter v_flags v_width v_precision a_digits) → va_S A s.heap H locs → lv_has ls 6 [(0, .ref h_this), (3, .long y3)] → k7 v_count a_digits y3 = some res → W p l e ({ frames := 0, cells := 0, slots := 0, locals := 0 }) s m args below meth c H locs 0 0 (MQ below (va_Qv (fun (u : Int32 × (Nat → Int32)) => some u = some res) (gB (dC, dI) [(c_this_digits, .byte)] A (fun (u : Int32 × (Nat → Int32)) => (WS_Writer_findTens g_this_page g_this_exact h_this h_this_digits c_this_digits u.1 v_letter v_flags v_width v_precision u.2))) A) args s 0 0 A) (F0 m 7 ls [])) : ∀ (v_count : Int32) (a_digits : (Nat → Int32)) (y3 : Int64) (H : Heap) (locs : List Loc) (ls : Array Slot), va_P (dC, dI) classes (WS_Writer_findTens g_this_page g_this_exact h_this h_this_digits c_this_digits v_count v_letter v_flags v_width v_precision a_digits) H → va_D A (WS_Writer_findTens g_this_page g_this_exact h_this h_this_digits c_this_digits v_count v_letter v_flags v_width v_precision a_digits) → va_S A s.heap H locs → lv_has ls 6 [(0, .ref h_this), (3, .long y3)] → f_Writer_findTens_7b k7 v_count a_digits y3 = some res → W p l e ({ frames := 0, cells := 0, slots := 0, locals := 0 }) s m args below meth c H locs 0 0 (MQ below (va_Qv (fun (u : Int32 × (Nat → Int32)) => some u = some res) (gB (dC, dI) [(c_this_digits, .byte)] A (fun (u : Int32 × (Nat → Int32)) => (WS_Writer_findTens g_this_page g_this_exact h_this h_this_digits c_this_digits u.1 v_letter v_flags v_width v_precision u.2))) A) args s 0 0 A) (F0 m 7 ls []) := by
  intro v_count a_digits y3 H locs ls hP hD hS hl h
  obtain ⟨hx, hb, hr, hml, hown, ht, hlk⟩ := id cx
  refine lv_lload_n hx hb d_Writer_findTens_7 rfl (lv_at hl 1 rfl) ?_
  refine lv_lconst (v := 0) hx hb d_Writer_findTens_8 (by decide) ?_
  refine W.lcmp hx hb d_Writer_findTens_9 ?_
  refine lv_if_eq (tgt := 78) hx hb d_Writer_findTens_10 (by decide) (fun c5 => ?_) (fun c5 => ?_)
  · have c5 := (lg_cmp_eq _ _).mp c5
    have h := if_t c5 h
    exact W.vret hx hb hr (fun t ht9 hW => ⟨⟨(v_count, a_digits), rfl, h, by rw [ht9]; exact hP, va_K.moved hW.alike hK, hD⟩, hS.F ht9⟩) hS.2.2 d_Writer_findTens_78 hlk
  · have c5 := fun h9 => c5 ((lg_cmp_eq _ _).mpr h9)
    have h := if_f c5 h
    refine lv_aload_n hx hb d_Writer_findTens_13 rfl (lv_at hl 0 rfl) ?_
    refine va_get (D := (dC, dI)) (ci := 6) (v := .int v_count) (C := R_Writer) (T := F_Writer) (N := 8) hx hb ht i_Writer hown hK hP 0 rfl rfl 3 (by decide) (ht _ q_247) (fun _ h9 => h9) rfl d_Writer_findTens_14 ?_
    refine lv_aload_n hx hb d_Writer_findTens_17 rfl (lv_at hl 0 rfl) ?_
    refine va_get (D := (dC, dI)) (ci := 6) (v := .ref h_this_digits) (C := R_Writer) (T := F_Writer) (N := 8) hx hb ht i_Writer hown hK hP 0 rfl rfl 2 (by decide) (ht _ q_249) (fun _ h9 => h9) rfl d_Writer_findTens_18 ?_
    refine va_alen (D := (dC, dI)) (v := 22) hx hb hK hP 1 0 rfl rfl rfl d_Writer_findTens_21 ?_
    refine lv_icmp_ge (tgt := 78) hx hb d_Writer_findTens_22 (by decide) (fun c6 => ?_) (fun c6 => ?_)
    · have h := if_t c6 h
      exact W.vret hx hb hr (fun t ht9 hW => ⟨⟨(v_count, a_digits), rfl, h, by rw [ht9]; exact hP, va_K.moved hW.alike hK, hD⟩, hS.F ht9⟩) hS.2.2 d_Writer_findTens_78 hlk
    · have h := if_f c6 h
      refine lv_lload_n hx hb d_Writer_findTens_25 rfl (lv_at hl 1 rfl) ?_
      refine lv_ldc2 (v := 10) hx hb hown (ht _ q_248) d_Writer_findTens_26 ?_
      refine lv_lrem hx hb d_Writer_findTens_29 (by decide) ?_
      refine W.eq (g2 := F0 m 30 ls (.long (lrm y3 (10 : Int64)) :: [])) rfl ?_
      refine lv_l2i (v := (lrm y3 (10 : Int64)).toInt32) hx hb d_Writer_findTens_30 rfl ?_
      refine lv_topi (fun x7 e_x7 => ?_)
      have h := bd_g e_x7 h
      refine lv_istore (lv' := [(5, .int x7), (0, .ref h_this), (3, .long y3)]) hx hb d_Writer_findTens_31 hl (by decide) rfl (fun ls hl => ?_)
      refine lv_aload_n hx hb d_Writer_findTens_33 rfl (lv_at hl 1 rfl) ?_
      refine va_get (D := (dC, dI)) (ci := 6) (v := .ref h_this_digits) (C := R_Writer) (T := F_Writer) (N := 8) hx hb ht i_Writer hown hK hP 0 rfl rfl 2 (by decide) (ht _ q_249) (fun _ h9 => h9) rfl d_Writer_findTens_34 ?_
      refine lv_aload_n hx hb d_Writer_findTens_37 rfl (lv_at hl 1 rfl) ?_
      refine va_get (D := (dC, dI)) (ci := 6) (v := .int v_count) (C := R_Writer) (T := F_Writer) (N := 8) hx hb ht i_Writer hown hK hP 0 rfl rfl 3 (by decide) (ht _ q_247) (fun _ h9 => h9) rfl d_Writer_findTens_38 ?_
      refine lv_bipush (v := 48) hx hb d_Writer_findTens_41 (by decide) ?_
      refine lv_iload hx hb d_Writer_findTens_43 (lv_at hl 0 rfl) ?_
      refine lv_if_ge (tgt := 54) hx hb d_Writer_findTens_45 (by decide) (fun c8 => ?_) (fun c8 => ?_)
      · have h := if_t c8 h
        refine lv_iload hx hb d_Writer_findTens_54 (lv_at hl 0 rfl) ?_
        exact s_Writer_findTens_56 cx hK hA hX hk7 v_count a_digits y3 v_count (48 : Int32) x7 H locs ls hP hD hS (lv_sub hl [1, 2] rfl) h
      · have h := if_f c8 h
        refine lv_iload hx hb d_Writer_findTens_48 (lv_at hl 0 rfl) ?_
        refine lv_ineg hx hb d_Writer_findTens_50 ?_
        refine lv_goto (tgt := 56) hx hb d_Writer_findTens_51 (by decide) ?_
        exact s_Writer_findTens_56 cx hK hA hX hk7 v_count a_digits y3 v_count (48 : Int32) (-x7) H locs ls hP hD hS (lv_sub hl [1, 2] rfl) h
set_option maxHeartbeats 4000000 in
set_option maxRecDepth 100000 in
theorem s_Writer_findTens_7 {p : Program} {l : Launch} {e : Env} {s : State} {m : MethodId} {args : Array Value} {below : List Frame} {meth : Method} {c : Code} {dC : Nat → ClassId} {dI : Nat → Nat → Nat} {A : Nat → Prop} {X : SXT} {g_this_page : Nat} {g_this_exact : Nat} {h_this : Nat} {h_this_digits : Nat} {c_this_digits : ClassId} {v_letter : Int32} {v_flags : Int32} {v_width : Int32} {v_precision : Int32} {res : Int32 × (Nat → Int32)}  (cx : cxx p s m args meth c b_Writer_findTens 6 none R_Writer) (hK : va_K (dC, dI) classes [(c_this_digits, .byte)] s) (hA : ∀ q, s.heap.size ≤ q → A q) (hX : SX X A s s.heap)  : ∀ n : Nat, ∀ (v_count : Int32) (a_digits : (Nat → Int32)) (y3 : Int64) (H : Heap) (locs : List Loc) (ls : Array Slot), va_P (dC, dI) classes (WS_Writer_findTens g_this_page g_this_exact h_this h_this_digits c_this_digits v_count v_letter v_flags v_width v_precision a_digits) H → va_D A (WS_Writer_findTens g_this_page g_this_exact h_this h_this_digits c_this_digits v_count v_letter v_flags v_width v_precision a_digits) → va_S A s.heap H locs → lv_has ls 6 [(0, .ref h_this), (3, .long y3)] → f_Writer_findTens_7 n v_count a_digits y3 = some res → W p l e ({ frames := 0, cells := 0, slots := 0, locals := 0 }) s m args below meth c H locs 0 0 (MQ below (va_Qv (fun (u : Int32 × (Nat → Int32)) => some u = some res) (gB (dC, dI) [(c_this_digits, .byte)] A (fun (u : Int32 × (Nat → Int32)) => (WS_Writer_findTens g_this_page g_this_exact h_this h_this_digits c_this_digits u.1 v_letter v_flags v_width v_precision u.2))) A) args s 0 0 A) (F0 m 7 ls []) := by
  intro n
  induction n with
  | zero =>
    intro v_count a_digits y3 H locs ls hP hD hS hl h
    have h9 : (none : Option (Int32 × (Nat → Int32))) = some res := h
    cases h9
  | succ n ih =>
    intro v_count a_digits y3 H locs ls hP hD hS hl h
    exact s_Writer_findTens_7b cx hK hA hX ih v_count a_digits y3 H locs ls hP hD hS hl h
set_option maxHeartbeats 4000000 in
set_option maxRecDepth 100000 in
theorem s_Writer_findTens_e {p : Program} {l : Launch} {e : Env} {s : State} {m : MethodId} {args : Array Value} {below : List Frame} {meth : Method} {c : Code} {dC : Nat → ClassId} {dI : Nat → Nat → Nat} {A : Nat → Prop} {X : SXT} {g_this_page : Nat} {g_this_exact : Nat} {h_this : Nat} {h_this_digits : Nat} {c_this_digits : ClassId} {v_letter : Int32} {v_flags : Int32} {v_width : Int32} {v_precision : Int32} {res : Int32 × (Nat → Int32)} (cx : cxx p s m args meth c b_Writer_findTens 6 none R_Writer) (hK : va_K (dC, dI) classes [(c_this_digits, .byte)] s) (hA : ∀ q, s.heap.size ≤ q → A q) (hX : SX X A s s.heap) : ∀ (v_count : Int32) (a_digits : (Nat → Int32)) (p1 : Int64) (H : Heap) (locs : List Loc) (ls : Array Slot), va_P (dC, dI) classes (WS_Writer_findTens g_this_page g_this_exact h_this h_this_digits c_this_digits v_count v_letter v_flags v_width v_precision a_digits) H → va_D A (WS_Writer_findTens g_this_page g_this_exact h_this h_this_digits c_this_digits v_count v_letter v_flags v_width v_precision a_digits) → va_S A s.heap H locs → lv_has ls 6 [(0, .ref h_this), (1, .long p1)] → f_Writer_findTens v_count a_digits p1 = some res → W p l e ({ frames := 0, cells := 0, slots := 0, locals := 0 }) s m args below meth c H locs 0 0 (MQ below (va_Qv (fun (u : Int32 × (Nat → Int32)) => some u = some res) (gB (dC, dI) [(c_this_digits, .byte)] A (fun (u : Int32 × (Nat → Int32)) => (WS_Writer_findTens g_this_page g_this_exact h_this h_this_digits c_this_digits u.1 v_letter v_flags v_width v_precision u.2))) A) args s 0 0 A) (F0 m 0 ls []) := by
  intro v_count a_digits p1 H locs ls hP hD hS hl h
  obtain ⟨hx, hb, hr, hml, hown, ht, hlk⟩ := id cx
  refine lv_lload_n hx hb d_Writer_findTens_0 rfl (lv_at hl 1 rfl) ?_
  refine lv_lstore_n (lv' := [(3, .long p1), (0, .ref h_this), (1, .long p1)]) hx hb d_Writer_findTens_1 rfl hl (by decide) rfl (fun ls hl => ?_)
  refine lv_aload_n hx hb d_Writer_findTens_2 rfl (lv_at hl 1 rfl) ?_
  refine lv_iconst (v := 0) hx hb d_Writer_findTens_3 (by decide) ?_
  refine va_put (D := (dC, dI)) (ci := 6) (v := .int (0 : Int32)) (ty := .int) (C := R_Writer) (T := F_Writer) (N := 8) hx hb ht i_Writer t_Writer t_Writer_ok n_Writer hown hK hP hD hS 0 rfl rfl 3 (by decide) (ht _ q_247) (fun _ h9 => h9) rfl (t_Writer_ok 3 (by decide)) rfl rfl (Nat.le_of_ble_eq_true rfl) d_Writer_findTens_4 (fun H locs hP hD hS => ?_)
  have hP : va_P (dC, dI) classes (WS_Writer_findTens g_this_page g_this_exact h_this h_this_digits c_this_digits (0 : Int32) v_letter v_flags v_width v_precision a_digits) H := hP
  have hD : va_D A (WS_Writer_findTens g_this_page g_this_exact h_this h_this_digits c_this_digits (0 : Int32) v_letter v_flags v_width v_precision a_digits) := hD
  exact s_Writer_findTens_7 cx hK hA hX fu (0 : Int32) a_digits p1 H locs ls hP hD hS (lv_sub hl [1, 0] rfl) h
set_option maxHeartbeats 4000000 in
set_option maxRecDepth 100000 in
theorem c_Writer_findTens (l : Launch) (dC : Nat → ClassId) (dI : Nat → Nat → Nat) (X : SXT) (g_this_page : Nat) (g_this_exact : Nat) (h_this : Nat) (h_this_digits : Nat) (c_this_digits : ClassId) (sz : Nat) (v_count : Int32) (v_letter : Int32) (v_flags : Int32) (v_width : Int32) (v_precision : Int32) (a_digits : (Nat → Int32)) (p1 : Int64) (res : Int32 × (Nat → Int32)) (hf : f_Writer_findTens v_count a_digits p1 = some res) : Met l y_Writer_findTens (.code y_Writer_findTens b_Writer_findTens 6 none :: w0) ({ frames := 0, cells := 0, slots := 0, locals := 0 }) (va_Pc [.ref h_this, .long p1] (gP (dC, dI) (WS_Writer_findTens g_this_page g_this_exact h_this h_this_digits c_this_digits v_count v_letter v_flags v_width v_precision a_digits) [(c_this_digits, .byte)] sz X)) (va_Qv (fun (u : Int32 × (Nat → Int32)) => some u = some res) (gB (dC, dI) [(c_this_digits, .byte)] (va_A (WS_Writer_findTens g_this_page g_this_exact h_this h_this_digits c_this_digits v_count v_letter v_flags v_width v_precision a_digits) sz) (fun (u : Int32 × (Nat → Int32)) => (WS_Writer_findTens g_this_page g_this_exact h_this h_this_digits c_this_digits u.1 v_letter v_flags v_width v_precision u.2))) (va_A (WS_Writer_findTens g_this_page g_this_exact h_this h_this_digits c_this_digits v_count v_letter v_flags v_width v_precision a_digits) sz)) 0 0 (va_A (WS_Writer_findTens g_this_page g_this_exact h_this h_this_digits c_this_digits v_count v_letter v_flags v_width v_precision a_digits) sz) := by
  refine Met.ofW (cc := b_Writer_findTens) (maxL := 6) (ret := none) (by decide) rfl ?_
  intro p e s m args below meth c s₁ B hml hv
  obtain ⟨rfl, hsz, hP, hK, hD0, hX⟩ := hv
  subst hsz
  have cx : cxx p s m ([.ref h_this, .long p1] : List Value).toArray meth c b_Writer_findTens 6 none R_Writer := ⟨B.exec, B.bytes, B.returns, hml, findClass_of_methodNamed B.named, fun w9 hw => atoms_spec (ws := .code y_Writer_findTens b_Writer_findTens 6 none :: w0) B.pre w9 (List.mem_cons_of_mem _ hw), B.notSynchronized⟩
  have hD := hD0.self (sz := s.heap.size)
  generalize hAe : va_A (WS_Writer_findTens g_this_page g_this_exact h_this h_this_digits c_this_digits v_count v_letter v_flags v_width v_precision a_digits) s.heap.size = A at hD hX ⊢
  have hA : ∀ q : Nat, s.heap.size ≤ q → A q := fun q h => by rw [← hAe]; exact Or.inr h
  have hS : va_S A s.heap s.heap [] := va_S.rf
  have hl := lv_entry ([.ref h_this, .long p1]) (n := 6) (Nat.le_of_ble_eq_true rfl)
  rw [lg_entry_eq]
  generalize (lg_sl ([.ref h_this, .long p1]) ++ List.replicate (6 - (lg_sl ([.ref h_this, .long p1])).length) Slot.unset).toArray = ls at hl ⊢
  have hl : lv_has ls 6 [(0, .ref h_this), (1, .long p1)] := hl
  exact s_Writer_findTens_e cx hK hA hX v_count a_digits p1 s.heap [] ls hP hD hS hl hf
abbrev WS_Writer_isGreat (g_this_page : Nat) (g_this_exact : Nat) (g_this_digits : Nat) (h_this : Nat)  (v_count : Int32) (v_letter : Int32) (v_flags : Int32) (v_width : Int32) (v_precision : Int32) : va_W := [(h_this, .inr (6, [.ref g_this_page, .ref g_this_exact, .ref g_this_digits, .int v_count, .int v_letter, .int v_flags, .int v_width, .int v_precision]))]
def f_Writer_isGreat (v_letter : Int32) : Option (Int32) :=
  if (97 : Int32) ≤ v_letter then
    some (0 : Int32)
  else
    some (1 : Int32)
set_option maxHeartbeats 4000000 in
set_option maxRecDepth 100000 in
theorem s_Writer_isGreat_e {p : Program} {l : Launch} {e : Env} {s : State} {m : MethodId} {args : Array Value} {below : List Frame} {meth : Method} {c : Code} {dC : Nat → ClassId} {dI : Nat → Nat → Nat} {A : Nat → Prop} {X : SXT} {g_this_page : Nat} {g_this_exact : Nat} {g_this_digits : Nat} {h_this : Nat} {v_count : Int32} {v_flags : Int32} {v_width : Int32} {v_precision : Int32} {res : Int32} (cx : cxx p s m args meth c b_Writer_isGreat 1 (some .boolean) R_Writer) (hK : va_K (dC, dI) classes [] s) (hA : ∀ q, s.heap.size ≤ q → A q) (hX : SX X A s s.heap) : ∀ (v_letter : Int32) (H : Heap) (locs : List Loc) (ls : Array Slot), va_P (dC, dI) classes (WS_Writer_isGreat g_this_page g_this_exact g_this_digits h_this v_count v_letter v_flags v_width v_precision) H → va_D A (WS_Writer_isGreat g_this_page g_this_exact g_this_digits h_this v_count v_letter v_flags v_width v_precision) → va_S A s.heap H locs → lv_has ls 1 [(0, .ref h_this)] → f_Writer_isGreat v_letter = some res → W p l e ({ frames := 0, cells := 0, slots := 0, locals := 0 }) s m args below meth c H locs 0 0 (MQ below (va_Qi (fun (r : Int32) (_ : Unit) => some r = some res) (gB (dC, dI) [] A (fun (u : Unit) => (WS_Writer_isGreat g_this_page g_this_exact g_this_digits h_this v_count v_letter v_flags v_width v_precision))) A) args s 0 0 A) (F0 m 0 ls []) := by
  intro v_letter H locs ls hP hD hS hl h
  obtain ⟨hx, hb, hr, hml, hown, ht, hlk⟩ := id cx
  refine lv_aload_n hx hb d_Writer_isGreat_0 rfl (lv_at hl 0 rfl) ?_
  refine va_get (D := (dC, dI)) (ci := 6) (v := .int v_letter) (C := R_Writer) (T := F_Writer) (N := 8) hx hb ht i_Writer hown hK hP 0 rfl rfl 4 (by decide) (ht _ q_230) (fun _ h9 => h9) rfl d_Writer_isGreat_1 ?_
  refine lv_bipush (v := 97) hx hb d_Writer_isGreat_4 (by decide) ?_
  refine lv_icmp_ge (tgt := 13) hx hb d_Writer_isGreat_6 (by decide) (fun c1 => ?_) (fun c1 => ?_)
  · have h := if_t c1 h
    refine lv_iconst (v := 0) hx hb d_Writer_isGreat_13 (by decide) ?_
    exact W.zret (v := (0 : Int32)) hx hb hr rfl (fun t ht9 hW => ⟨⟨(0 : Int32), (), rfl, h, by rw [ht9]; exact hP, va_K.moved hW.alike hK, hD⟩, hS.F ht9⟩) hS.2.2 d_Writer_isGreat_14 hlk
  · have h := if_f c1 h
    refine lv_iconst (v := 1) hx hb d_Writer_isGreat_9 (by decide) ?_
    refine lv_goto (tgt := 14) hx hb d_Writer_isGreat_10 (by decide) ?_
    exact W.zret (v := (1 : Int32)) hx hb hr rfl (fun t ht9 hW => ⟨⟨(1 : Int32), (), rfl, h, by rw [ht9]; exact hP, va_K.moved hW.alike hK, hD⟩, hS.F ht9⟩) hS.2.2 d_Writer_isGreat_14 hlk
set_option maxHeartbeats 4000000 in
set_option maxRecDepth 100000 in
theorem c_Writer_isGreat (l : Launch) (dC : Nat → ClassId) (dI : Nat → Nat → Nat) (X : SXT) (g_this_page : Nat) (g_this_exact : Nat) (g_this_digits : Nat) (h_this : Nat) (sz : Nat) (v_count : Int32) (v_letter : Int32) (v_flags : Int32) (v_width : Int32) (v_precision : Int32) (res : Int32) (hf : f_Writer_isGreat v_letter = some res) : Met l y_Writer_isGreat (.code y_Writer_isGreat b_Writer_isGreat 1 (some .boolean) :: w0) ({ frames := 0, cells := 0, slots := 0, locals := 0 }) (va_Pc [.ref h_this] (gP (dC, dI) (WS_Writer_isGreat g_this_page g_this_exact g_this_digits h_this v_count v_letter v_flags v_width v_precision) [] sz X)) (va_Qi (fun (r : Int32) (_ : Unit) => some r = some res) (gB (dC, dI) [] (va_A (WS_Writer_isGreat g_this_page g_this_exact g_this_digits h_this v_count v_letter v_flags v_width v_precision) sz) (fun (u : Unit) => (WS_Writer_isGreat g_this_page g_this_exact g_this_digits h_this v_count v_letter v_flags v_width v_precision))) (va_A (WS_Writer_isGreat g_this_page g_this_exact g_this_digits h_this v_count v_letter v_flags v_width v_precision) sz)) 0 0 (va_A (WS_Writer_isGreat g_this_page g_this_exact g_this_digits h_this v_count v_letter v_flags v_width v_precision) sz) := by
  refine Met.ofW (cc := b_Writer_isGreat) (maxL := 1) (ret := (some .boolean)) (by decide) rfl ?_
  intro p e s m args below meth c s₁ B hml hv
  obtain ⟨rfl, hsz, hP, hK, hD0, hX⟩ := hv
  subst hsz
  have cx : cxx p s m ([.ref h_this] : List Value).toArray meth c b_Writer_isGreat 1 (some .boolean) R_Writer := ⟨B.exec, B.bytes, B.returns, hml, findClass_of_methodNamed B.named, fun w9 hw => atoms_spec (ws := .code y_Writer_isGreat b_Writer_isGreat 1 (some .boolean) :: w0) B.pre w9 (List.mem_cons_of_mem _ hw), B.notSynchronized⟩
  have hD := hD0.self (sz := s.heap.size)
  generalize hAe : va_A (WS_Writer_isGreat g_this_page g_this_exact g_this_digits h_this v_count v_letter v_flags v_width v_precision) s.heap.size = A at hD hX ⊢
  have hA : ∀ q : Nat, s.heap.size ≤ q → A q := fun q h => by rw [← hAe]; exact Or.inr h
  have hS : va_S A s.heap s.heap [] := va_S.rf
  have hl := lv_entry ([.ref h_this]) (n := 1) (Nat.le_of_ble_eq_true rfl)
  rw [lg_entry_eq]
  generalize (lg_sl ([.ref h_this]) ++ List.replicate (1 - (lg_sl ([.ref h_this])).length) Slot.unset).toArray = ls at hl ⊢
  have hl : lv_has ls 1 [(0, .ref h_this)] := hl
  exact s_Writer_isGreat_e cx hK hA hX v_letter s.heap [] ls hP hD hS hl hf
def f_String_isLatin1 (p0 : Nat) : Option (Int32) :=
  if (1 : Int32) = 0 then
    some (0 : Int32)
  else
    ck (p0 < 9) <|
    if (0 : Int32) = 0 then
      some (1 : Int32)
    else
      some (0 : Int32)
set_option maxHeartbeats 4000000 in
set_option maxRecDepth 100000 in
theorem s_String_isLatin1_e {p : Program} {l : Launch} {e : Env} {s : State} {m : MethodId} {args : Array Value} {below : List Frame} {meth : Method} {c : Code} {dC : Nat → ClassId} {dI : Nat → Nat → Nat} {A : Nat → Prop} {X : SXT} {res : Int32} (cx : cxx p s m args meth c b_String_isLatin1 1 (some .boolean) R_String) (hK : va_K (dC, dI) classes [] s) (hA : ∀ q, s.heap.size ≤ q → A q) (hX : SX X A s s.heap) : ∀ (p0 : Nat) (H : Heap) (locs : List Loc) (ls : Array Slot), va_P (dC, dI) classes [] H → va_D A [] → va_S A s.heap H locs → lv_has ls 1 [(0, .ref (X.2.1 p0))] → f_String_isLatin1 p0 = some res → W p l e ({ frames := 0, cells := 0, slots := 0, locals := 0 }) s m args below meth c H locs 0 0 (MQ below (va_Qi (fun (r : Int32) (_ : Unit) => some r = some res) (gB (dC, dI) [] A (fun (u : Unit) => [])) A) args s 0 0 A) (F0 m 0 ls []) := by
  intro p0 H locs ls hP hD hS hl h
  obtain ⟨hx, hb, hr, hml, hown, ht, hlk⟩ := id cx
  refine va_gets hx hb hX.2.2.2.1 hS hown (ht _ q_250) (fun _ h9 => h9) d_String_isLatin1_0 ?_
  refine lv_if_eq (tgt := 17) hx hb d_String_isLatin1_3 (by decide) (fun c1 => ?_) (fun c1 => ?_)
  · have h := if_t c1 h
    refine lv_iconst (v := 0) hx hb d_String_isLatin1_17 (by decide) ?_
    exact W.zret (v := (0 : Int32)) hx hb hr rfl (fun t ht9 hW => ⟨⟨(0 : Int32), (), rfl, h, by rw [ht9]; exact hP, va_K.moved hW.alike hK, hD⟩, hS.F ht9⟩) hS.2.2 d_String_isLatin1_18 hlk
  · have h := if_f c1 h
    refine lv_aload_n hx hb d_String_isLatin1_6 rfl (lv_at hl 0 rfl) ?_
    obtain ⟨c2, h⟩ := ck_x h
    refine vk_getf hx hb ((hX.2.2.1.1 p0 c2).2.1) hS hown (ht _ q_251) (fun _ h9 => h9) d_String_isLatin1_7 ?_
    refine lv_if_ne (tgt := 17) hx hb d_String_isLatin1_10 (by decide) (fun c3 => ?_) (fun c3 => ?_)
    · have h := if_f c3 h
      refine lv_iconst (v := 0) hx hb d_String_isLatin1_17 (by decide) ?_
      exact W.zret (v := (0 : Int32)) hx hb hr rfl (fun t ht9 hW => ⟨⟨(0 : Int32), (), rfl, h, by rw [ht9]; exact hP, va_K.moved hW.alike hK, hD⟩, hS.F ht9⟩) hS.2.2 d_String_isLatin1_18 hlk
    · have h := if_t c3 h
      refine lv_iconst (v := 1) hx hb d_String_isLatin1_13 (by decide) ?_
      refine lv_goto (tgt := 18) hx hb d_String_isLatin1_14 (by decide) ?_
      exact W.zret (v := (1 : Int32)) hx hb hr rfl (fun t ht9 hW => ⟨⟨(1 : Int32), (), rfl, h, by rw [ht9]; exact hP, va_K.moved hW.alike hK, hD⟩, hS.F ht9⟩) hS.2.2 d_String_isLatin1_18 hlk
set_option maxHeartbeats 4000000 in
set_option maxRecDepth 100000 in
theorem c_String_isLatin1 (l : Launch) (dC : Nat → ClassId) (dI : Nat → Nat → Nat) (X : SXT) (sz : Nat) (p0 : Nat) (res : Int32) (hf : f_String_isLatin1 p0 = some res) : Met l y_String_isLatin1 (.code y_String_isLatin1 b_String_isLatin1 1 (some .boolean) :: w0) ({ frames := 0, cells := 0, slots := 0, locals := 0 }) (va_Pc [.ref (X.2.1 p0)] (gP (dC, dI) [] [] sz X)) (va_Qi (fun (r : Int32) (_ : Unit) => some r = some res) (gB (dC, dI) [] (va_A [] sz) (fun (u : Unit) => [])) (va_A [] sz)) 0 0 (va_A [] sz) := by
  refine Met.ofW (cc := b_String_isLatin1) (maxL := 1) (ret := (some .boolean)) (by decide) rfl ?_
  intro p e s m args below meth c s₁ B hml hv
  obtain ⟨rfl, hsz, hP, hK, hD0, hX⟩ := hv
  subst hsz
  have cx : cxx p s m ([.ref (X.2.1 p0)] : List Value).toArray meth c b_String_isLatin1 1 (some .boolean) R_String := ⟨B.exec, B.bytes, B.returns, hml, findClass_of_methodNamed B.named, fun w9 hw => atoms_spec (ws := .code y_String_isLatin1 b_String_isLatin1 1 (some .boolean) :: w0) B.pre w9 (List.mem_cons_of_mem _ hw), B.notSynchronized⟩
  have hD := hD0.self (sz := s.heap.size)
  generalize hAe : va_A [] s.heap.size = A at hD hX ⊢
  have hA : ∀ q : Nat, s.heap.size ≤ q → A q := fun q h => by rw [← hAe]; exact Or.inr h
  have hS : va_S A s.heap s.heap [] := va_S.rf
  have hl := lv_entry ([.ref (X.2.1 p0)]) (n := 1) (Nat.le_of_ble_eq_true rfl)
  rw [lg_entry_eq]
  generalize (lg_sl ([.ref (X.2.1 p0)]) ++ List.replicate (1 - (lg_sl ([.ref (X.2.1 p0)])).length) Slot.unset).toArray = ls at hl ⊢
  have hl : lv_has ls 1 [(0, .ref (X.2.1 p0))] := hl
  exact s_String_isLatin1_e cx hK hA hX p0 s.heap [] ls hP hD hS hl hf
def f_Preconditions_checkIndex_9 (y0 : Int32) (y1 : Int32) : Option (Int32) :=
  none
def f_Preconditions_checkIndex (p0 : Int32) (p1 : Int32) : Option (Int32) :=
  if p0 < 0 then
    f_Preconditions_checkIndex_9 p0 p1
  else
    if p0 < p1 then
      some p0
    else
      f_Preconditions_checkIndex_9 p0 p1
set_option maxHeartbeats 4000000 in
set_option maxRecDepth 100000 in
theorem s_Preconditions_checkIndex_9 {p : Program} {l : Launch} {e : Env} {s : State} {m : MethodId} {args : Array Value} {below : List Frame} {meth : Method} {c : Code} {dC : Nat → ClassId} {dI : Nat → Nat → Nat} {A : Nat → Prop} {X : SXT} {p2 : Option Nat} {res : Int32}  (cx : cxx p s m args meth c b_Preconditions_checkIndex 3 (some .int) R_Preconditions) (hK : va_K (dC, dI) classes [] s) (hA : ∀ q, s.heap.size ≤ q → A q) (hX : SX X A s s.heap)  : ∀ (y0 : Int32) (y1 : Int32) (H : Heap) (locs : List Loc) (ls : Array Slot), va_P (dC, dI) classes [] H → va_D A [] → va_S A s.heap H locs → lv_has ls 3 [(0, .int y0), (1, .int y1), (2, va_rf p2)] → f_Preconditions_checkIndex_9 y0 y1 = some res → W p l e ({ frames := 0, cells := 0, slots := 0, locals := 0 }) s m args below meth c H locs 0 0 (MQ below (va_Qi (fun (r : Int32) (_ : Unit) => some r = some res) (gB (dC, dI) [] A (fun (u : Unit) => [])) A) args s 0 0 A) (F0 m 9 ls []) := by
  intro y0 y1 H locs ls hP hD hS hl h
  obtain ⟨hx, hb, hr, hml, hown, ht, hlk⟩ := id cx
  cases h
set_option maxHeartbeats 4000000 in
set_option maxRecDepth 100000 in
theorem s_Preconditions_checkIndex_e {p : Program} {l : Launch} {e : Env} {s : State} {m : MethodId} {args : Array Value} {below : List Frame} {meth : Method} {c : Code} {dC : Nat → ClassId} {dI : Nat → Nat → Nat} {A : Nat → Prop} {X : SXT} {p2 : Option Nat} {res : Int32} (cx : cxx p s m args meth c b_Preconditions_checkIndex 3 (some .int) R_Preconditions) (hK : va_K (dC, dI) classes [] s) (hA : ∀ q, s.heap.size ≤ q → A q) (hX : SX X A s s.heap) : ∀ (p0 : Int32) (p1 : Int32) (H : Heap) (locs : List Loc) (ls : Array Slot), va_P (dC, dI) classes [] H → va_D A [] → va_S A s.heap H locs → lv_has ls 3 [(0, .int p0), (1, .int p1), (2, va_rf p2)] → f_Preconditions_checkIndex p0 p1 = some res → W p l e ({ frames := 0, cells := 0, slots := 0, locals := 0 }) s m args below meth c H locs 0 0 (MQ below (va_Qi (fun (r : Int32) (_ : Unit) => some r = some res) (gB (dC, dI) [] A (fun (u : Unit) => [])) A) args s 0 0 A) (F0 m 0 ls []) := by
  intro p0 p1 H locs ls hP hD hS hl h
  obtain ⟨hx, hb, hr, hml, hown, ht, hlk⟩ := id cx
  refine lv_iload_n hx hb d_Preconditions_checkIndex_0 rfl (lv_at hl 0 rfl) ?_
  refine lv_if_lt (tgt := 9) hx hb d_Preconditions_checkIndex_1 (by decide) (fun c1 => ?_) (fun c1 => ?_)
  · have h := if_t c1 h
    exact s_Preconditions_checkIndex_9 cx hK hA hX p0 p1 H locs ls hP hD hS (lv_sub hl [0, 1, 2] rfl) h
  · have h := if_f c1 h
    refine lv_iload_n hx hb d_Preconditions_checkIndex_4 rfl (lv_at hl 0 rfl) ?_
    refine lv_iload_n hx hb d_Preconditions_checkIndex_5 rfl (lv_at hl 1 rfl) ?_
    refine lv_icmp_lt (tgt := 16) hx hb d_Preconditions_checkIndex_6 (by decide) (fun c2 => ?_) (fun c2 => ?_)
    · have h := if_t c2 h
      refine lv_iload_n hx hb d_Preconditions_checkIndex_16 rfl (lv_at hl 0 rfl) ?_
      exact W.iret (v := p0) hx hb hr (fun t ht9 hW => ⟨⟨p0, (), rfl, h, by rw [ht9]; exact hP, va_K.moved hW.alike hK, hD⟩, hS.F ht9⟩) hS.2.2 d_Preconditions_checkIndex_17 hlk
    · have h := if_f c2 h
      exact s_Preconditions_checkIndex_9 cx hK hA hX p0 p1 H locs ls hP hD hS (lv_sub hl [0, 1, 2] rfl) h
set_option maxHeartbeats 4000000 in
set_option maxRecDepth 100000 in
theorem c_Preconditions_checkIndex (l : Launch) (dC : Nat → ClassId) (dI : Nat → Nat → Nat) (X : SXT) (sz : Nat) (p0 : Int32) (p1 : Int32) (p2 : Option Nat) (res : Int32) (hf : f_Preconditions_checkIndex p0 p1 = some res) : Met l y_Preconditions_checkIndex (.code y_Preconditions_checkIndex b_Preconditions_checkIndex 3 (some .int) :: w0) ({ frames := 0, cells := 0, slots := 0, locals := 0 }) (va_Pc [.int p0, .int p1, va_rf p2] (gP (dC, dI) [] [] sz X)) (va_Qi (fun (r : Int32) (_ : Unit) => some r = some res) (gB (dC, dI) [] (va_A [] sz) (fun (u : Unit) => [])) (va_A [] sz)) 0 0 (va_A [] sz) := by
  refine Met.ofW (cc := b_Preconditions_checkIndex) (maxL := 3) (ret := (some .int)) (by decide) rfl ?_
  intro p e s m args below meth c s₁ B hml hv
  obtain ⟨rfl, hsz, hP, hK, hD0, hX⟩ := hv
  subst hsz
  have cx : cxx p s m ([.int p0, .int p1, va_rf p2] : List Value).toArray meth c b_Preconditions_checkIndex 3 (some .int) R_Preconditions := ⟨B.exec, B.bytes, B.returns, hml, findClass_of_methodNamed B.named, fun w9 hw => atoms_spec (ws := .code y_Preconditions_checkIndex b_Preconditions_checkIndex 3 (some .int) :: w0) B.pre w9 (List.mem_cons_of_mem _ hw), B.notSynchronized⟩
  have hD := hD0.self (sz := s.heap.size)
  generalize hAe : va_A [] s.heap.size = A at hD hX ⊢
  have hA : ∀ q : Nat, s.heap.size ≤ q → A q := fun q h => by rw [← hAe]; exact Or.inr h
  have hS : va_S A s.heap s.heap [] := va_S.rf
  have hl := lv_entry ([.int p0, .int p1, va_rf p2]) (n := 3) (by cases p2 <;> exact Nat.le_of_ble_eq_true rfl)
  rw [lg_entry_eq]
  generalize (lg_sl ([.int p0, .int p1, va_rf p2]) ++ List.replicate (3 - (lg_sl ([.int p0, .int p1, va_rf p2])).length) Slot.unset).toArray = ls at hl ⊢
  have hl : lv_has ls 3 [(0, .int p0), (1, .int p1), (2, va_rf p2)] := hl
  exact s_Preconditions_checkIndex_e cx hK hA hX p0 p1 s.heap [] ls hP hD hS hl hf
def f_String_checkIndex (p0 : Int32) (p1 : Int32) : Option (Unit) :=
  bi1 (f_Preconditions_checkIndex p0 p1) fun r1 =>
  some ()
set_option maxHeartbeats 4000000 in
set_option maxRecDepth 100000 in
theorem s_String_checkIndex_e {p : Program} {l : Launch} {e : Env} {s : State} {m : MethodId} {args : Array Value} {below : List Frame} {meth : Method} {c : Code} {dC : Nat → ClassId} {dI : Nat → Nat → Nat} {A : Nat → Prop} {X : SXT} {res : Unit} (cx : cxx p s m args meth c b_String_checkIndex 2 none R_String) (hK : va_K (dC, dI) classes [] s) (hA : ∀ q, s.heap.size ≤ q → A q) (hX : SX X A s s.heap) : ∀ (p0 : Int32) (p1 : Int32) (H : Heap) (locs : List Loc) (ls : Array Slot), va_P (dC, dI) classes [] H → va_D A [] → va_S A s.heap H locs → lv_has ls 2 [(0, .int p0), (1, .int p1)] → f_String_checkIndex p0 p1 = some res → W p l e ({ frames := 1, cells := 0, slots := 0, locals := 22 }) s m args below meth c H locs 0 0 (MQ below (va_Qv (fun (u : Unit) => some u = some res) (gB (dC, dI) [] A (fun (u : Unit) => [])) A) args s 0 0 A) (F0 m 0 ls []) := by
  intro p0 p1 H locs ls hP hD hS hl h
  obtain ⟨hx, hb, hr, hml, hown, ht, hlk⟩ := id cx
  refine lv_iload_n hx hb d_String_checkIndex_0 rfl (lv_at hl 0 rfl) ?_
  refine lv_iload_n hx hb d_String_checkIndex_1 rfl (lv_at hl 1 rfl) ?_
  refine va_gets hx hb hX.sioobe hS hown (ht _ q_252) (fun _ h9 => h9) d_String_checkIndex_2 ?_
  obtain ⟨r1, hf, h⟩ := bi1_x h
  refine clSi (D := (dC, dI)) (n := 3) (As := [.int p0, .int p1, va_rf X.2.2.2]) ⟨hx, hb, hml, hown, ht⟩ (c_Preconditions_checkIndex l dC dI X  H.size p0 p1 X.2.2.2 r1 hf) (gS q_253 q_254 q_255 q_256) (by decide +kernel) ⟨rfl, rfl, Nat.le_of_ble_eq_true rfl, Nat.le_of_ble_eq_true rfl⟩ hK hP hD hS hA hX [] [] [] rfl (wr := []) rfl (by decide) (by decide) (by decide) rfl rfl hl.1 rfl (lv_room (Nat.le_of_ble_eq_true rfl)) d_String_checkIndex_5 ⟨Nat.zero_le _, Nat.zero_le _⟩ (fun r9 u9 H locs h9 hP hD hS => ?_)
  cases h9
  refine lv_pop hx hb d_String_checkIndex_8 rfl ?_
  exact W.vret hx hb hr (fun t ht9 hW => ⟨⟨(), rfl, h, by rw [ht9]; exact hP, va_K.moved hW.alike hK, hD⟩, hS.F ht9⟩) hS.2.2 d_String_checkIndex_9 hlk
set_option maxHeartbeats 4000000 in
set_option maxRecDepth 100000 in
theorem c_String_checkIndex (l : Launch) (dC : Nat → ClassId) (dI : Nat → Nat → Nat) (X : SXT) (sz : Nat) (p0 : Int32) (p1 : Int32) (res : Unit) (hf : f_String_checkIndex p0 p1 = some res) : Met l y_String_checkIndex (.code y_String_checkIndex b_String_checkIndex 2 none :: w0) ({ frames := 1, cells := 0, slots := 0, locals := 22 }) (va_Pc [.int p0, .int p1] (gP (dC, dI) [] [] sz X)) (va_Qv (fun (u : Unit) => some u = some res) (gB (dC, dI) [] (va_A [] sz) (fun (u : Unit) => [])) (va_A [] sz)) 0 0 (va_A [] sz) := by
  refine Met.ofW (cc := b_String_checkIndex) (maxL := 2) (ret := none) (by decide) rfl ?_
  intro p e s m args below meth c s₁ B hml hv
  obtain ⟨rfl, hsz, hP, hK, hD0, hX⟩ := hv
  subst hsz
  have cx : cxx p s m ([.int p0, .int p1] : List Value).toArray meth c b_String_checkIndex 2 none R_String := ⟨B.exec, B.bytes, B.returns, hml, findClass_of_methodNamed B.named, fun w9 hw => atoms_spec (ws := .code y_String_checkIndex b_String_checkIndex 2 none :: w0) B.pre w9 (List.mem_cons_of_mem _ hw), B.notSynchronized⟩
  have hD := hD0.self (sz := s.heap.size)
  generalize hAe : va_A [] s.heap.size = A at hD hX ⊢
  have hA : ∀ q : Nat, s.heap.size ≤ q → A q := fun q h => by rw [← hAe]; exact Or.inr h
  have hS : va_S A s.heap s.heap [] := va_S.rf
  have hl := lv_entry ([.int p0, .int p1]) (n := 2) (Nat.le_of_ble_eq_true rfl)
  rw [lg_entry_eq]
  generalize (lg_sl ([.int p0, .int p1]) ++ List.replicate (2 - (lg_sl ([.int p0, .int p1])).length) Slot.unset).toArray = ls at hl ⊢
  have hl : lv_has ls 2 [(0, .int p0), (1, .int p1)] := hl
  exact s_String_checkIndex_e cx hK hA hX p0 p1 s.heap [] ls hP hD hS hl hf
def f_StringLatin1_charAt (p0 : Nat) (p1 : Int32) : Option (Int32) :=
  ck (p0 < 9) <|
  bi0 (f_String_checkIndex p1 (nI (lenS.getD p0 0))) fun _ =>
  ck (p0 < 9) <|
  ck (gin p1 (lenS.getD p0 0)) <|
  ck (ckC (i2ch (((bytS.getD p0 []).getD p1.toNatClampNeg 0) &&& (255 : Int32)))) <|
  some (i2ch (((bytS.getD p0 []).getD p1.toNatClampNeg 0) &&& (255 : Int32)))
set_option maxHeartbeats 4000000 in
set_option maxRecDepth 100000 in
theorem s_StringLatin1_charAt_e {p : Program} {l : Launch} {e : Env} {s : State} {m : MethodId} {args : Array Value} {below : List Frame} {meth : Method} {c : Code} {dC : Nat → ClassId} {dI : Nat → Nat → Nat} {A : Nat → Prop} {X : SXT} {res : Int32} (cx : cxx p s m args meth c b_StringLatin1_charAt 2 (some .char) R_StringLatin1) (hK : va_K (dC, dI) classes [] s) (hA : ∀ q, s.heap.size ≤ q → A q) (hX : SX X A s s.heap) : ∀ (p0 : Nat) (p1 : Int32) (H : Heap) (locs : List Loc) (ls : Array Slot), va_P (dC, dI) classes [] H → va_D A [] → va_S A s.heap H locs → lv_has ls 2 [(0, .ref (X.2.2.1 p0)), (1, .int p1)] → f_StringLatin1_charAt p0 p1 = some res → W p l e ({ frames := 2, cells := 0, slots := 0, locals := 43 }) s m args below meth c H locs 0 0 (MQ below (va_Qi (fun (r : Int32) (_ : Unit) => some r = some res) (gB (dC, dI) [] A (fun (u : Unit) => [])) A) args s 0 0 A) (F0 m 0 ls []) := by
  intro p0 p1 H locs ls hP hD hS hl h
  obtain ⟨hx, hb, hr, hml, hown, ht, hlk⟩ := id cx
  refine lv_iload_n hx hb d_StringLatin1_charAt_0 rfl (lv_at hl 1 rfl) ?_
  refine lv_aload_n hx hb d_StringLatin1_charAt_1 rfl (lv_at hl 0 rfl) ?_
  obtain ⟨c1, h⟩ := ck_x h
  refine va_tlen (v := nI (lenS.getD p0 0)) hx hb ((hX.2.2.1.1 p0 c1).2.2.2) hS rfl d_StringLatin1_charAt_2 ?_
  obtain ⟨hf, h⟩ := bi0_x h
  refine clSv (D := (dC, dI)) (n := 2) (As := [.int p1, .int (nI (lenS.getD p0 0))]) ⟨hx, hb, hml, hown, ht⟩ (c_String_checkIndex l dC dI X  H.size p1 (nI (lenS.getD p0 0)) () hf) (gS q_257 q_258 q_259 q_260) (by decide +kernel) ⟨rfl, rfl, Nat.le_of_ble_eq_true rfl, Nat.le_of_ble_eq_true rfl⟩ hK hP hD hS hA hX [] [] [] rfl (wr := []) rfl (by decide) (by decide) (by decide) rfl rfl hl.1 rfl (lv_room (Nat.le_of_ble_eq_true rfl)) d_StringLatin1_charAt_3 ⟨Nat.zero_le _, Nat.zero_le _⟩ (fun u9 H locs h9 hP hD hS => ?_)
  cases h9
  refine lv_aload_n hx hb d_StringLatin1_charAt_6 rfl (lv_at hl 0 rfl) ?_
  refine lv_iload_n hx hb d_StringLatin1_charAt_7 rfl (lv_at hl 1 rfl) ?_
  obtain ⟨c3, h⟩ := ck_x h
  obtain ⟨c2, h⟩ := ck_x h
  refine va_tb hx hb ((hX.2.2.1.1 p0 c3).2.2.2) hS c2 rfl d_StringLatin1_charAt_8 ?_
  refine lv_sipush (v := 255) hx hb d_StringLatin1_charAt_9 (by decide) ?_
  refine lv_iand hx hb d_StringLatin1_charAt_12 ?_
  refine lv_i2c (v := i2ch (((bytS.getD p0 []).getD p1.toNatClampNeg 0) &&& (255 : Int32))) hx hb d_StringLatin1_charAt_13 rfl ?_
  obtain ⟨c4, h⟩ := ck_x h
  exact W.zret (v := (i2ch (((bytS.getD p0 []).getD p1.toNatClampNeg 0) &&& (255 : Int32)))) hx hb hr (ckC_n c4) (fun t ht9 hW => ⟨⟨(i2ch (((bytS.getD p0 []).getD p1.toNatClampNeg 0) &&& (255 : Int32))), (), rfl, h, by rw [ht9]; exact hP, va_K.moved hW.alike hK, hD⟩, hS.F ht9⟩) hS.2.2 d_StringLatin1_charAt_14 hlk
set_option maxHeartbeats 4000000 in
set_option maxRecDepth 100000 in
theorem c_StringLatin1_charAt (l : Launch) (dC : Nat → ClassId) (dI : Nat → Nat → Nat) (X : SXT) (sz : Nat) (p0 : Nat) (p1 : Int32) (res : Int32) (hf : f_StringLatin1_charAt p0 p1 = some res) : Met l y_StringLatin1_charAt (.code y_StringLatin1_charAt b_StringLatin1_charAt 2 (some .char) :: w0) ({ frames := 2, cells := 0, slots := 0, locals := 43 }) (va_Pc [.ref (X.2.2.1 p0), .int p1] (gP (dC, dI) [] [] sz X)) (va_Qi (fun (r : Int32) (_ : Unit) => some r = some res) (gB (dC, dI) [] (va_A [] sz) (fun (u : Unit) => [])) (va_A [] sz)) 0 0 (va_A [] sz) := by
  refine Met.ofW (cc := b_StringLatin1_charAt) (maxL := 2) (ret := (some .char)) (by decide) rfl ?_
  intro p e s m args below meth c s₁ B hml hv
  obtain ⟨rfl, hsz, hP, hK, hD0, hX⟩ := hv
  subst hsz
  have cx : cxx p s m ([.ref (X.2.2.1 p0), .int p1] : List Value).toArray meth c b_StringLatin1_charAt 2 (some .char) R_StringLatin1 := ⟨B.exec, B.bytes, B.returns, hml, findClass_of_methodNamed B.named, fun w9 hw => atoms_spec (ws := .code y_StringLatin1_charAt b_StringLatin1_charAt 2 (some .char) :: w0) B.pre w9 (List.mem_cons_of_mem _ hw), B.notSynchronized⟩
  have hD := hD0.self (sz := s.heap.size)
  generalize hAe : va_A [] s.heap.size = A at hD hX ⊢
  have hA : ∀ q : Nat, s.heap.size ≤ q → A q := fun q h => by rw [← hAe]; exact Or.inr h
  have hS : va_S A s.heap s.heap [] := va_S.rf
  have hl := lv_entry ([.ref (X.2.2.1 p0), .int p1]) (n := 2) (Nat.le_of_ble_eq_true rfl)
  rw [lg_entry_eq]
  generalize (lg_sl ([.ref (X.2.2.1 p0), .int p1]) ++ List.replicate (2 - (lg_sl ([.ref (X.2.2.1 p0), .int p1])).length) Slot.unset).toArray = ls at hl ⊢
  have hl : lv_has ls 2 [(0, .ref (X.2.2.1 p0)), (1, .int p1)] := hl
  exact s_StringLatin1_charAt_e cx hK hA hX p0 p1 s.heap [] ls hP hD hS hl hf
def f_String_charAt (p0 : Nat) (p1 : Int32) : Option (Int32) :=
  ck (p0 < 9) <|
  bi1 (f_String_isLatin1 p0) fun r2 =>
  if r2 = 0 then
    ck (p0 < 9) <|
    none
  else
    ck (p0 < 9) <|
    bi1 (f_StringLatin1_charAt p0 p1) fun r6 =>
    ck (ckC r6) <|
    some r6
set_option maxHeartbeats 4000000 in
set_option maxRecDepth 100000 in
theorem s_String_charAt_e {p : Program} {l : Launch} {e : Env} {s : State} {m : MethodId} {args : Array Value} {below : List Frame} {meth : Method} {c : Code} {dC : Nat → ClassId} {dI : Nat → Nat → Nat} {A : Nat → Prop} {X : SXT} {res : Int32} (cx : cxx p s m args meth c b_String_charAt 2 (some .char) R_String) (hK : va_K (dC, dI) classes [] s) (hA : ∀ q, s.heap.size ≤ q → A q) (hX : SX X A s s.heap) : ∀ (p0 : Nat) (p1 : Int32) (H : Heap) (locs : List Loc) (ls : Array Slot), va_P (dC, dI) classes [] H → va_D A [] → va_S A s.heap H locs → lv_has ls 2 [(0, .ref (X.2.1 p0)), (1, .int p1)] → f_String_charAt p0 p1 = some res → W p l e ({ frames := 3, cells := 0, slots := 0, locals := 64 }) s m args below meth c H locs 0 0 (MQ below (va_Qi (fun (r : Int32) (_ : Unit) => some r = some res) (gB (dC, dI) [] A (fun (u : Unit) => [])) A) args s 0 0 A) (F0 m 0 ls []) := by
  intro p0 p1 H locs ls hP hD hS hl h
  obtain ⟨hx, hb, hr, hml, hown, ht, hlk⟩ := id cx
  refine lv_aload_n hx hb d_String_charAt_0 rfl (lv_at hl 0 rfl) ?_
  obtain ⟨c1, h⟩ := ck_x h
  obtain ⟨r2, hf, h⟩ := bi1_x h
  refine clVi (D := (dC, dI)) (n := 0) (As := []) ⟨hx, hb, hml, hown, ht⟩ (c_String_isLatin1 l dC dI X  H.size p0 r2 hf) (gV q_261 q_262 q_263 q_259 q_264) (by decide +kernel) ⟨rfl, rfl, Nat.le_of_ble_eq_true rfl, Nat.le_of_ble_eq_true rfl⟩ hK hP hD hS hA hX [] [] [] rfl (wr := []) rfl (by decide) (by decide) (by decide) rfl (vk_recv hX.2.2.1 c1 hS) rfl hl.1 rfl (lv_room (Nat.le_of_ble_eq_true rfl)) d_String_charAt_1 ⟨Nat.zero_le _, Nat.zero_le _⟩ (fun r9 u9 H locs h9 hP hD hS => ?_)
  cases h9
  refine lv_if_eq (tgt := 16) hx hb d_String_charAt_4 (by decide) (fun c3 => ?_) (fun c3 => ?_)
  · have h := if_t c3 h
    refine lv_aload_n hx hb d_String_charAt_16 rfl (lv_at hl 0 rfl) ?_
    obtain ⟨c4, h⟩ := ck_x h
    refine vk_getf hx hb ((hX.2.2.1.1 p0 c4).2.2.1) hS hown (ht _ q_265) (fun _ h9 => h9) d_String_charAt_17 ?_
    refine lv_iload_n hx hb d_String_charAt_20 rfl (lv_at hl 1 rfl) ?_
    cases h
  · have h := if_f c3 h
    refine lv_aload_n hx hb d_String_charAt_7 rfl (lv_at hl 0 rfl) ?_
    obtain ⟨c5, h⟩ := ck_x h
    refine vk_getf hx hb ((hX.2.2.1.1 p0 c5).2.2.1) hS hown (ht _ q_265) (fun _ h9 => h9) d_String_charAt_8 ?_
    refine lv_iload_n hx hb d_String_charAt_11 rfl (lv_at hl 1 rfl) ?_
    obtain ⟨r6, hf, h⟩ := bi1_x h
    refine clSi (D := (dC, dI)) (n := 2) (As := [.ref (X.2.2.1 p0), .int p1]) ⟨hx, hb, hml, hown, ht⟩ (c_StringLatin1_charAt l dC dI X  H.size p0 p1 r6 hf) (gS q_266 q_267 q_268 q_269) (by decide +kernel) ⟨rfl, rfl, Nat.le_of_ble_eq_true rfl, Nat.le_of_ble_eq_true rfl⟩ hK hP hD hS hA hX [] [] [] rfl (wr := []) rfl (by decide) (by decide) (by decide) rfl rfl hl.1 rfl (lv_room (Nat.le_of_ble_eq_true rfl)) d_String_charAt_12 ⟨Nat.zero_le _, Nat.zero_le _⟩ (fun r9 u9 H locs h9 hP hD hS => ?_)
    cases h9
    obtain ⟨c7, h⟩ := ck_x h
    exact W.zret (v := r6) hx hb hr (ckC_n c7) (fun t ht9 hW => ⟨⟨r6, (), rfl, h, by rw [ht9]; exact hP, va_K.moved hW.alike hK, hD⟩, hS.F ht9⟩) hS.2.2 d_String_charAt_15 hlk
set_option maxHeartbeats 4000000 in
set_option maxRecDepth 100000 in
theorem c_String_charAt (l : Launch) (dC : Nat → ClassId) (dI : Nat → Nat → Nat) (X : SXT) (sz : Nat) (p0 : Nat) (p1 : Int32) (res : Int32) (hf : f_String_charAt p0 p1 = some res) : Met l y_String_charAt (.code y_String_charAt b_String_charAt 2 (some .char) :: w0) ({ frames := 3, cells := 0, slots := 0, locals := 64 }) (va_Pc [.ref (X.2.1 p0), .int p1] (gP (dC, dI) [] [] sz X)) (va_Qi (fun (r : Int32) (_ : Unit) => some r = some res) (gB (dC, dI) [] (va_A [] sz) (fun (u : Unit) => [])) (va_A [] sz)) 0 0 (va_A [] sz) := by
  refine Met.ofW (cc := b_String_charAt) (maxL := 2) (ret := (some .char)) (by decide) rfl ?_
  intro p e s m args below meth c s₁ B hml hv
  obtain ⟨rfl, hsz, hP, hK, hD0, hX⟩ := hv
  subst hsz
  have cx : cxx p s m ([.ref (X.2.1 p0), .int p1] : List Value).toArray meth c b_String_charAt 2 (some .char) R_String := ⟨B.exec, B.bytes, B.returns, hml, findClass_of_methodNamed B.named, fun w9 hw => atoms_spec (ws := .code y_String_charAt b_String_charAt 2 (some .char) :: w0) B.pre w9 (List.mem_cons_of_mem _ hw), B.notSynchronized⟩
  have hD := hD0.self (sz := s.heap.size)
  generalize hAe : va_A [] s.heap.size = A at hD hX ⊢
  have hA : ∀ q : Nat, s.heap.size ≤ q → A q := fun q h => by rw [← hAe]; exact Or.inr h
  have hS : va_S A s.heap s.heap [] := va_S.rf
  have hl := lv_entry ([.ref (X.2.1 p0), .int p1]) (n := 2) (Nat.le_of_ble_eq_true rfl)
  rw [lg_entry_eq]
  generalize (lg_sl ([.ref (X.2.1 p0), .int p1]) ++ List.replicate (2 - (lg_sl ([.ref (X.2.1 p0), .int p1])).length) Slot.unset).toArray = ls at hl ⊢
  have hl : lv_has ls 2 [(0, .ref (X.2.1 p0)), (1, .int p1)] := hl
  exact s_String_charAt_e cx hK hA hX p0 p1 s.heap [] ls hP hD hS hl hf
abbrev WS_Writer_digitOf16 (g_this_page : Nat) (g_this_exact : Nat) (g_this_digits : Nat) (h_this : Nat)  (v_count : Int32) (v_letter : Int32) (v_flags : Int32) (v_width : Int32) (v_precision : Int32) : va_W := [(h_this, .inr (6, [.ref g_this_page, .ref g_this_exact, .ref g_this_digits, .int v_count, .int v_letter, .int v_flags, .int v_width, .int v_precision]))]
def f_Writer_digitOf16 (v_letter : Int32) (p1 : Int64) : Option (Int32) :=
  bd ((p1 &&& (15 : Int64)).toInt32) fun x1 =>
  bi1 (f_Writer_isGreat v_letter) fun r2 =>
  if r2 = 0 then
    ck (1 < 9) <|
    bi1 (f_String_charAt (1) x1) fun r5 =>
    some r5
  else
    ck (0 < 9) <|
    bi1 (f_String_charAt (0) x1) fun r7 =>
    some r7
set_option maxHeartbeats 4000000 in
set_option maxRecDepth 100000 in
theorem s_Writer_digitOf16_e {p : Program} {l : Launch} {e : Env} {s : State} {m : MethodId} {args : Array Value} {below : List Frame} {meth : Method} {c : Code} {dC : Nat → ClassId} {dI : Nat → Nat → Nat} {A : Nat → Prop} {X : SXT} {g_this_page : Nat} {g_this_exact : Nat} {g_this_digits : Nat} {h_this : Nat} {v_count : Int32} {v_flags : Int32} {v_width : Int32} {v_precision : Int32} {res : Int32} (cx : cxx p s m args meth c b_Writer_digitOf16 4 (some .int) R_Writer) (hK : va_K (dC, dI) classes [] s) (hA : ∀ q, s.heap.size ≤ q → A q) (hX : SX X A s s.heap) : ∀ (v_letter : Int32) (p1 : Int64) (H : Heap) (locs : List Loc) (ls : Array Slot), va_P (dC, dI) classes (WS_Writer_digitOf16 g_this_page g_this_exact g_this_digits h_this v_count v_letter v_flags v_width v_precision) H → va_D A (WS_Writer_digitOf16 g_this_page g_this_exact g_this_digits h_this v_count v_letter v_flags v_width v_precision) → va_S A s.heap H locs → lv_has ls 4 [(0, .ref h_this), (1, .long p1)] → f_Writer_digitOf16 v_letter p1 = some res → W p l e ({ frames := 4, cells := 0, slots := 0, locals := 85 }) s m args below meth c H locs 0 0 (MQ below (va_Qi (fun (r : Int32) (_ : Unit) => some r = some res) (gB (dC, dI) [] A (fun (u : Unit) => (WS_Writer_digitOf16 g_this_page g_this_exact g_this_digits h_this v_count v_letter v_flags v_width v_precision))) A) args s 0 0 A) (F0 m 0 ls []) := by
  intro v_letter p1 H locs ls hP hD hS hl h
  obtain ⟨hx, hb, hr, hml, hown, ht, hlk⟩ := id cx
  refine lv_lload_n hx hb d_Writer_digitOf16_0 rfl (lv_at hl 1 rfl) ?_
  refine lv_ldc2 (v := 15) hx hb hown (ht _ q_270) d_Writer_digitOf16_1 ?_
  refine lv_land hx hb d_Writer_digitOf16_4 ?_
  refine lv_l2i (v := (p1 &&& (15 : Int64)).toInt32) hx hb d_Writer_digitOf16_5 rfl ?_
  refine lv_topi (fun x1 e_x1 => ?_)
  have h := bd_g e_x1 h
  refine lv_istore_n (lv' := [(3, .int x1), (0, .ref h_this), (1, .long p1)]) hx hb d_Writer_digitOf16_6 rfl hl (by decide) rfl (fun ls hl => ?_)
  refine lv_aload_n hx hb d_Writer_digitOf16_7 rfl (lv_at hl 1 rfl) ?_
  obtain ⟨r2, hf, h⟩ := bi1_x h
  refine clVi (D := (dC, dI)) (n := 0) (As := []) ⟨hx, hb, hml, hown, ht⟩ (c_Writer_isGreat l dC dI X g_this_page g_this_exact g_this_digits h_this H.size v_count v_letter v_flags v_width v_precision r2 hf) (gV q_271 q_272 q_273 q_239 q_274) (by decide +kernel) ⟨rfl, rfl, Nat.le_of_ble_eq_true rfl, Nat.le_of_ble_eq_true rfl⟩ hK hP hD hS hA hX [0] [] [] rfl (wr := []) rfl (by decide) (by decide) (by decide) rfl (va_recv hK hP (ci := 6) (q0 := 0) rfl rfl) rfl hl.1 rfl (lv_room (Nat.le_of_ble_eq_true rfl)) d_Writer_digitOf16_8 ⟨Nat.zero_le _, Nat.zero_le _⟩ (fun r9 u9 H locs h9 hP hD hS => ?_)
  cases h9
  have hP : va_P (dC, dI) classes (WS_Writer_digitOf16 g_this_page g_this_exact g_this_digits h_this v_count v_letter v_flags v_width v_precision) H := hP.sub [0] rfl
  have hD : va_D A (WS_Writer_digitOf16 g_this_page g_this_exact g_this_digits h_this v_count v_letter v_flags v_width v_precision) := hD.sub [0] (by decide) rfl
  refine lv_if_eq (tgt := 23) hx hb d_Writer_digitOf16_11 (by decide) (fun c3 => ?_) (fun c3 => ?_)
  · have h := if_t c3 h
    refine va_ldcS (q := X.2.1 1) hx hb hown (hX.str 1 rfl) d_Writer_digitOf16_23 ?_
    refine lv_iload_n hx hb d_Writer_digitOf16_25 rfl (lv_at hl 0 rfl) ?_
    obtain ⟨c4, h⟩ := ck_x h
    obtain ⟨r5, hf, h⟩ := bi1_x h
    refine clVi (D := (dC, dI)) (n := 1) (As := [.int x1]) ⟨hx, hb, hml, hown, ht⟩ (c_String_charAt l dC dI X  H.size (1) x1 r5 hf) (gV q_275 q_276 q_277 q_259 q_278) (by decide +kernel) ⟨rfl, rfl, Nat.le_of_ble_eq_true rfl, Nat.le_of_ble_eq_true rfl⟩ hK hP hD hS hA hX [] [0] [] rfl (wr := [(h_this, .inr (6, [.ref g_this_page, .ref g_this_exact, .ref g_this_digits, .int v_count, .int v_letter, .int v_flags, .int v_width, .int v_precision]))]) rfl (by decide) (by decide) (by decide) rfl (vk_recv hX.2.2.1 c4 hS) rfl hl.1 rfl (lv_room (Nat.le_of_ble_eq_true rfl)) d_Writer_digitOf16_26 ⟨Nat.zero_le _, Nat.zero_le _⟩ (fun r9 u9 H locs h9 hP hD hS => ?_)
    cases h9
    have hP : va_P (dC, dI) classes (WS_Writer_digitOf16 g_this_page g_this_exact g_this_digits h_this v_count v_letter v_flags v_width v_precision) H := hP.sub [0] rfl
    have hD : va_D A (WS_Writer_digitOf16 g_this_page g_this_exact g_this_digits h_this v_count v_letter v_flags v_width v_precision) := hD.sub [0] (by decide) rfl
    exact W.iret (v := r5) hx hb hr (fun t ht9 hW => ⟨⟨r5, (), rfl, h, by rw [ht9]; exact hP, va_K.moved hW.alike hK, hD⟩, hS.F ht9⟩) hS.2.2 d_Writer_digitOf16_29 hlk
  · have h := if_f c3 h
    refine va_ldcS (q := X.2.1 0) hx hb hown (hX.str 0 rfl) d_Writer_digitOf16_14 ?_
    refine lv_iload_n hx hb d_Writer_digitOf16_16 rfl (lv_at hl 0 rfl) ?_
    obtain ⟨c6, h⟩ := ck_x h
    obtain ⟨r7, hf, h⟩ := bi1_x h
    refine clVi (D := (dC, dI)) (n := 1) (As := [.int x1]) ⟨hx, hb, hml, hown, ht⟩ (c_String_charAt l dC dI X  H.size (0) x1 r7 hf) (gV q_275 q_276 q_277 q_259 q_278) (by decide +kernel) ⟨rfl, rfl, Nat.le_of_ble_eq_true rfl, Nat.le_of_ble_eq_true rfl⟩ hK hP hD hS hA hX [] [0] [] rfl (wr := [(h_this, .inr (6, [.ref g_this_page, .ref g_this_exact, .ref g_this_digits, .int v_count, .int v_letter, .int v_flags, .int v_width, .int v_precision]))]) rfl (by decide) (by decide) (by decide) rfl (vk_recv hX.2.2.1 c6 hS) rfl hl.1 rfl (lv_room (Nat.le_of_ble_eq_true rfl)) d_Writer_digitOf16_17 ⟨Nat.zero_le _, Nat.zero_le _⟩ (fun r9 u9 H locs h9 hP hD hS => ?_)
    cases h9
    have hP : va_P (dC, dI) classes (WS_Writer_digitOf16 g_this_page g_this_exact g_this_digits h_this v_count v_letter v_flags v_width v_precision) H := hP.sub [0] rfl
    have hD : va_D A (WS_Writer_digitOf16 g_this_page g_this_exact g_this_digits h_this v_count v_letter v_flags v_width v_precision) := hD.sub [0] (by decide) rfl
    refine lv_goto (tgt := 29) hx hb d_Writer_digitOf16_20 (by decide) ?_
    exact W.iret (v := r7) hx hb hr (fun t ht9 hW => ⟨⟨r7, (), rfl, h, by rw [ht9]; exact hP, va_K.moved hW.alike hK, hD⟩, hS.F ht9⟩) hS.2.2 d_Writer_digitOf16_29 hlk
set_option maxHeartbeats 4000000 in
set_option maxRecDepth 100000 in
theorem c_Writer_digitOf16 (l : Launch) (dC : Nat → ClassId) (dI : Nat → Nat → Nat) (X : SXT) (g_this_page : Nat) (g_this_exact : Nat) (g_this_digits : Nat) (h_this : Nat) (sz : Nat) (v_count : Int32) (v_letter : Int32) (v_flags : Int32) (v_width : Int32) (v_precision : Int32) (p1 : Int64) (res : Int32) (hf : f_Writer_digitOf16 v_letter p1 = some res) : Met l y_Writer_digitOf16 (.code y_Writer_digitOf16 b_Writer_digitOf16 4 (some .int) :: w0) ({ frames := 4, cells := 0, slots := 0, locals := 85 }) (va_Pc [.ref h_this, .long p1] (gP (dC, dI) (WS_Writer_digitOf16 g_this_page g_this_exact g_this_digits h_this v_count v_letter v_flags v_width v_precision) [] sz X)) (va_Qi (fun (r : Int32) (_ : Unit) => some r = some res) (gB (dC, dI) [] (va_A (WS_Writer_digitOf16 g_this_page g_this_exact g_this_digits h_this v_count v_letter v_flags v_width v_precision) sz) (fun (u : Unit) => (WS_Writer_digitOf16 g_this_page g_this_exact g_this_digits h_this v_count v_letter v_flags v_width v_precision))) (va_A (WS_Writer_digitOf16 g_this_page g_this_exact g_this_digits h_this v_count v_letter v_flags v_width v_precision) sz)) 0 0 (va_A (WS_Writer_digitOf16 g_this_page g_this_exact g_this_digits h_this v_count v_letter v_flags v_width v_precision) sz) := by
  refine Met.ofW (cc := b_Writer_digitOf16) (maxL := 4) (ret := (some .int)) (by decide) rfl ?_
  intro p e s m args below meth c s₁ B hml hv
  obtain ⟨rfl, hsz, hP, hK, hD0, hX⟩ := hv
  subst hsz
  have cx : cxx p s m ([.ref h_this, .long p1] : List Value).toArray meth c b_Writer_digitOf16 4 (some .int) R_Writer := ⟨B.exec, B.bytes, B.returns, hml, findClass_of_methodNamed B.named, fun w9 hw => atoms_spec (ws := .code y_Writer_digitOf16 b_Writer_digitOf16 4 (some .int) :: w0) B.pre w9 (List.mem_cons_of_mem _ hw), B.notSynchronized⟩
  have hD := hD0.self (sz := s.heap.size)
  generalize hAe : va_A (WS_Writer_digitOf16 g_this_page g_this_exact g_this_digits h_this v_count v_letter v_flags v_width v_precision) s.heap.size = A at hD hX ⊢
  have hA : ∀ q : Nat, s.heap.size ≤ q → A q := fun q h => by rw [← hAe]; exact Or.inr h
  have hS : va_S A s.heap s.heap [] := va_S.rf
  have hl := lv_entry ([.ref h_this, .long p1]) (n := 4) (Nat.le_of_ble_eq_true rfl)
  rw [lg_entry_eq]
  generalize (lg_sl ([.ref h_this, .long p1]) ++ List.replicate (4 - (lg_sl ([.ref h_this, .long p1])).length) Slot.unset).toArray = ls at hl ⊢
  have hl : lv_has ls 4 [(0, .ref h_this), (1, .long p1)] := hl
  exact s_Writer_digitOf16_e cx hK hA hX v_letter p1 s.heap [] ls hP hD hS hl hf
abbrev WS_Writer_findDigits (g_this_page : Nat) (g_this_exact : Nat) (h_this : Nat) (h_this_digits : Nat) (c_this_digits : ClassId) (v_count : Int32) (v_letter : Int32) (v_flags : Int32) (v_width : Int32) (v_precision : Int32) (a_digits : (Nat → Int32)) : va_W := [(h_this, .inr (6, [.ref g_this_page, .ref g_this_exact, .ref h_this_digits, .int v_count, .int v_letter, .int v_flags, .int v_width, .int v_precision])), (h_this_digits, .inl (c_this_digits, 22, .inl a_digits))]
def f_Writer_findDigits_38b (k38 : Int32 → Int32 → (Nat → Int32) → Int32 → Int64 → Option (Int32 × (Nat → Int32))) (v_count : Int32) (v_letter : Int32) (a_digits : (Nat → Int32)) (y3 : Int32) (y4 : Int64) : Option (Int32 × (Nat → Int32)) :=
  if y4 = (0 : Int64) then
    some (v_count, a_digits)
  else
    if (22 : Int32) ≤ v_count then
      some (v_count, a_digits)
    else
      bd (y4 &&& ((((1 : Int32) <<< (y3 &&& 31)) - (1 : Int32)).toInt64)) fun x3 =>
      bi1 (f_Writer_digitOf16 v_letter x3) fun r4 =>
      ck (gin v_count 22) <|
      bd (upd a_digits v_count.toNatClampNeg ((r4.toInt8.toInt32).toInt8.toInt32)) fun a6 =>
      bd (v_count + (1 : Int32)) fun x7 =>
      bd (lus y4 y3) fun x8 =>
      k38 x7 v_letter a6 y3 x8
def f_Writer_findDigits_38 : Nat → Int32 → Int32 → (Nat → Int32) → Int32 → Int64 → Option (Int32 × (Nat → Int32))
  | 0 => fun _ _ _ _ _ => none
  | n + 1 => fun v_count v_letter a_digits y3 y4 => f_Writer_findDigits_38b (f_Writer_findDigits_38 n) v_count v_letter a_digits y3 y4
def f_Writer_findDigits_29 (v_count : Int32) (v_letter : Int32) (a_digits : (Nat → Int32)) (y1 : Int64) (z0 : Int32) : Option (Int32 × (Nat → Int32)) :=
  f_Writer_findDigits_38 fu (0 : Int32) v_letter a_digits z0 y1
def f_Writer_findDigits (v_count : Int32) (v_letter : Int32) (a_digits : (Nat → Int32)) (p1 : Int64) : Option (Int32 × (Nat → Int32)) :=
  if v_letter = (100 : Int32) then
    bi2 (f_Writer_findTens v_count a_digits p1) fun v11 a12 =>
    some (v11, a12)
  else
    if v_letter = (111 : Int32) then
      f_Writer_findDigits_29 v_count v_letter a_digits p1 (3 : Int32)
    else
      f_Writer_findDigits_29 v_count v_letter a_digits p1 (4 : Int32)
set_option maxHeartbeats 4000000 in
set_option maxRecDepth 100000 in
theorem s_Writer_findDigits_38b {p : Program} {l : Launch} {e : Env} {s : State} {m : MethodId} {args : Array Value} {below : List Frame} {meth : Method} {c : Code} {dC : Nat → ClassId} {dI : Nat → Nat → Nat} {A : Nat → Prop} {X : SXT} {g_this_page : Nat} {g_this_exact : Nat} {h_this : Nat} {h_this_digits : Nat} {c_this_digits : ClassId} {v_flags : Int32} {v_width : Int32} {v_precision : Int32} {res : Int32 × (Nat → Int32)} {k38 : Int32 → Int32 → (Nat → Int32) → Int32 → Int64 → Option (Int32 × (Nat → Int32))} (cx : cxx p s m args meth c b_Writer_findDigits 8 none R_Writer) (hK : va_K (dC, dI) classes [(c_this_digits, .byte)] s) (hA : ∀ q, s.heap.size ≤ q → A q) (hX : SX X A s s.heap) (hk38 : ∀ (v_count : Int32) (v_letter : Int32) (a_digits : (Nat → Int32)) (y3 : Int32) (y4 : Int64) (H : Heap) (locs : List Loc) (ls : Array Slot), va_P (dC, dI) classes (WS_Writer_findDigits g_this_page g_this_exact h_this h_this_digits c_this_digits v_count v_letter v_flags v_width v_precision a_digits) H → va_D A (WS_Writer_findDigits g_this_page g_this_exact h_this h_this_digits c_this_digits v_count v_letter v_flags v_width v_precision a_digits) → va_S A s.heap H locs → lv_has ls 8 [(0, .ref h_this), (3, .int y3), (4, .long y4)] → k38 v_count v_letter a_digits y3 y4 = some res → W p l e ({ frames := 5, cells := 0, slots := 0, locals := 108 }) s m args below meth c H locs 0 0 (MQ below (va_Qv (fun (u : Int32 × (Nat → Int32)) => some u = some res) (gB (dC, dI) [(c_this_digits, .byte)] A (fun (u : Int32 × (Nat → Int32)) => (WS_Writer_findDigits g_this_page g_this_exact h_this h_this_digits c_this_digits u.1 v_letter v_flags v_width v_precision u.2))) A) args s 0 0 A) (F0 m 38 ls [])) : ∀ (v_count : Int32) (v_letter : Int32) (a_digits : (Nat → Int32)) (y3 : Int32) (y4 : Int64) (H : Heap) (locs : List Loc) (ls : Array Slot), va_P (dC, dI) classes (WS_Writer_findDigits g_this_page g_this_exact h_this h_this_digits c_this_digits v_count v_letter v_flags v_width v_precision a_digits) H → va_D A (WS_Writer_findDigits g_this_page g_this_exact h_this h_this_digits c_this_digits v_count v_letter v_flags v_width v_precision a_digits) → va_S A s.heap H locs → lv_has ls 8 [(0, .ref h_this), (3, .int y3), (4, .long y4)] → f_Writer_findDigits_38b k38 v_count v_letter a_digits y3 y4 = some res → W p l e ({ frames := 5, cells := 0, slots := 0, locals := 108 }) s m args below meth c H locs 0 0 (MQ below (va_Qv (fun (u : Int32 × (Nat → Int32)) => some u = some res) (gB (dC, dI) [(c_this_digits, .byte)] A (fun (u : Int32 × (Nat → Int32)) => (WS_Writer_findDigits g_this_page g_this_exact h_this h_this_digits c_this_digits u.1 v_letter v_flags v_width v_precision u.2))) A) args s 0 0 A) (F0 m 38 ls []) := by
  intro v_count v_letter a_digits y3 y4 H locs ls hP hD hS hl h
  obtain ⟨hx, hb, hr, hml, hown, ht, hlk⟩ := id cx
  refine lv_lload hx hb d_Writer_findDigits_38 (lv_at hl 2 rfl) ?_
  refine lv_lconst (v := 0) hx hb d_Writer_findDigits_40 (by decide) ?_
  refine W.lcmp hx hb d_Writer_findDigits_41 ?_
  refine lv_if_eq (tgt := 103) hx hb d_Writer_findDigits_42 (by decide) (fun c1 => ?_) (fun c1 => ?_)
  · have c1 := (lg_cmp_eq _ _).mp c1
    have h := if_t c1 h
    exact W.vret hx hb hr (fun t ht9 hW => ⟨⟨(v_count, a_digits), rfl, h, by rw [ht9]; exact hP, va_K.moved hW.alike hK, hD⟩, hS.F ht9⟩) hS.2.2 d_Writer_findDigits_103 hlk
  · have c1 := fun h9 => c1 ((lg_cmp_eq _ _).mpr h9)
    have h := if_f c1 h
    refine lv_aload_n hx hb d_Writer_findDigits_45 rfl (lv_at hl 0 rfl) ?_
    refine va_get (D := (dC, dI)) (ci := 6) (v := .int v_count) (C := R_Writer) (T := F_Writer) (N := 8) hx hb ht i_Writer hown hK hP 0 rfl rfl 3 (by decide) (ht _ q_247) (fun _ h9 => h9) rfl d_Writer_findDigits_46 ?_
    refine lv_aload_n hx hb d_Writer_findDigits_49 rfl (lv_at hl 0 rfl) ?_
    refine va_get (D := (dC, dI)) (ci := 6) (v := .ref h_this_digits) (C := R_Writer) (T := F_Writer) (N := 8) hx hb ht i_Writer hown hK hP 0 rfl rfl 2 (by decide) (ht _ q_249) (fun _ h9 => h9) rfl d_Writer_findDigits_50 ?_
    refine va_alen (D := (dC, dI)) (v := 22) hx hb hK hP 1 0 rfl rfl rfl d_Writer_findDigits_53 ?_
    refine lv_icmp_ge (tgt := 103) hx hb d_Writer_findDigits_54 (by decide) (fun c2 => ?_) (fun c2 => ?_)
    · have h := if_t c2 h
      exact W.vret hx hb hr (fun t ht9 hW => ⟨⟨(v_count, a_digits), rfl, h, by rw [ht9]; exact hP, va_K.moved hW.alike hK, hD⟩, hS.F ht9⟩) hS.2.2 d_Writer_findDigits_103 hlk
    · have h := if_f c2 h
      refine lv_lload hx hb d_Writer_findDigits_57 (lv_at hl 2 rfl) ?_
      refine lv_iconst (v := 1) hx hb d_Writer_findDigits_59 (by decide) ?_
      refine lv_iload_n hx hb d_Writer_findDigits_60 rfl (lv_at hl 1 rfl) ?_
      refine lv_ishl hx hb d_Writer_findDigits_61 ?_
      refine lv_iconst (v := 1) hx hb d_Writer_findDigits_62 (by decide) ?_
      refine lv_isub hx hb d_Writer_findDigits_63 ?_
      refine lv_i2l (v := (((1 : Int32) <<< (y3 &&& 31)) - (1 : Int32)).toInt64) hx hb d_Writer_findDigits_64 rfl ?_
      refine lv_land hx hb d_Writer_findDigits_65 ?_
      refine lv_topl (fun x3 e_x3 => ?_)
      have h := bd_g e_x3 h
      refine lv_lstore (lv' := [(6, .long x3), (0, .ref h_this), (3, .int y3), (4, .long y4)]) hx hb d_Writer_findDigits_66 hl (by decide) rfl (fun ls hl => ?_)
      refine lv_aload_n hx hb d_Writer_findDigits_68 rfl (lv_at hl 1 rfl) ?_
      refine va_get (D := (dC, dI)) (ci := 6) (v := .ref h_this_digits) (C := R_Writer) (T := F_Writer) (N := 8) hx hb ht i_Writer hown hK hP 0 rfl rfl 2 (by decide) (ht _ q_249) (fun _ h9 => h9) rfl d_Writer_findDigits_69 ?_
      refine lv_aload_n hx hb d_Writer_findDigits_72 rfl (lv_at hl 1 rfl) ?_
      refine va_get (D := (dC, dI)) (ci := 6) (v := .int v_count) (C := R_Writer) (T := F_Writer) (N := 8) hx hb ht i_Writer hown hK hP 0 rfl rfl 3 (by decide) (ht _ q_247) (fun _ h9 => h9) rfl d_Writer_findDigits_73 ?_
      refine lv_aload_n hx hb d_Writer_findDigits_76 rfl (lv_at hl 1 rfl) ?_
      refine lv_lload hx hb d_Writer_findDigits_77 (lv_at hl 0 rfl) ?_
      obtain ⟨r4, hf, h⟩ := bi1_x h
      refine clVi (D := (dC, dI)) (n := 1) (As := [.long x3]) ⟨hx, hb, hml, hown, ht⟩ (c_Writer_digitOf16 l dC dI X g_this_page g_this_exact h_this_digits h_this H.size v_count v_letter v_flags v_width v_precision x3 r4 hf) (gV q_279 q_280 q_281 q_239 q_282) (by decide +kernel) ⟨rfl, rfl, Nat.le_of_ble_eq_true rfl, Nat.le_of_ble_eq_true rfl⟩ hK hP hD hS hA hX [0] [1] [] rfl (wr := [(h_this_digits, .inl (c_this_digits, 22, .inl a_digits))]) rfl (by decide) (by decide) (by decide) rfl (va_recv hK hP (ci := 6) (q0 := 0) rfl rfl) rfl hl.1 rfl (lv_room (Nat.le_of_ble_eq_true rfl)) d_Writer_findDigits_79 ⟨Nat.zero_le _, Nat.zero_le _⟩ (fun r9 u9 H locs h9 hP hD hS => ?_)
      cases h9
      have hP : va_P (dC, dI) classes (WS_Writer_findDigits g_this_page g_this_exact h_this h_this_digits c_this_digits v_count v_letter v_flags v_width v_precision a_digits) H := hP.sub [1, 0] rfl
      have hD : va_D A (WS_Writer_findDigits g_this_page g_this_exact h_this h_this_digits c_this_digits v_count v_letter v_flags v_width v_precision a_digits) := hD.sub [1, 0] (by decide) rfl
      refine lv_i2b (v := r4.toInt8.toInt32) hx hb d_Writer_findDigits_82 rfl ?_
      obtain ⟨c5, h⟩ := ck_x h
      refine va_bast (D := (dC, dI)) hx hb hK hP hD hS 1 0 rfl rfl c5 d_Writer_findDigits_83 (fun H locs hP hD hS => ?_)
      obtain ⟨a6, e_a6⟩ : ∃ y, y = upd a_digits v_count.toNatClampNeg ((r4.toInt8.toInt32).toInt8.toInt32) := ⟨_, rfl⟩
      have hP : va_P (dC, dI) classes (WS_Writer_findDigits g_this_page g_this_exact h_this h_this_digits c_this_digits v_count v_letter v_flags v_width v_precision a6) H := by rw [e_a6]; exact hP
      have hD : va_D A (WS_Writer_findDigits g_this_page g_this_exact h_this h_this_digits c_this_digits v_count v_letter v_flags v_width v_precision a6) := by rw [e_a6]; exact hD
      have h := bd_g e_a6 h
      refine lv_aload_n hx hb d_Writer_findDigits_84 rfl (lv_at hl 1 rfl) ?_
      refine lv_dup hx hb d_Writer_findDigits_85 rfl ?_
      refine va_get (D := (dC, dI)) (ci := 6) (v := .int v_count) (C := R_Writer) (T := F_Writer) (N := 8) hx hb ht i_Writer hown hK hP 0 rfl rfl 3 (by decide) (ht _ q_247) (fun _ h9 => h9) rfl d_Writer_findDigits_86 ?_
      refine lv_iconst (v := 1) hx hb d_Writer_findDigits_89 (by decide) ?_
      refine lv_iadd hx hb d_Writer_findDigits_90 ?_
      refine lv_topi (fun x7 e_x7 => ?_)
      have h := bd_g e_x7 h
      refine va_put (D := (dC, dI)) (ci := 6) (v := .int x7) (ty := .int) (C := R_Writer) (T := F_Writer) (N := 8) hx hb ht i_Writer t_Writer t_Writer_ok n_Writer hown hK hP hD hS 0 rfl rfl 3 (by decide) (ht _ q_247) (fun _ h9 => h9) rfl (t_Writer_ok 3 (by decide)) rfl rfl (Nat.le_of_ble_eq_true rfl) d_Writer_findDigits_91 (fun H locs hP hD hS => ?_)
      have hP : va_P (dC, dI) classes (WS_Writer_findDigits g_this_page g_this_exact h_this h_this_digits c_this_digits x7 v_letter v_flags v_width v_precision a6) H := hP
      have hD : va_D A (WS_Writer_findDigits g_this_page g_this_exact h_this h_this_digits c_this_digits x7 v_letter v_flags v_width v_precision a6) := hD
      refine lv_lload hx hb d_Writer_findDigits_94 (lv_at hl 3 rfl) ?_
      refine lv_iload_n hx hb d_Writer_findDigits_96 rfl (lv_at hl 2 rfl) ?_
      refine lv_lushr (v := lus y4 y3) hx hb d_Writer_findDigits_97 rfl ?_
      refine lv_topl (fun x8 e_x8 => ?_)
      have h := bd_g e_x8 h
      refine lv_lstore (lv' := [(4, .long x8), (6, .long x3), (0, .ref h_this), (3, .int y3)]) hx hb d_Writer_findDigits_98 hl (by decide) rfl (fun ls hl => ?_)
      refine lv_goto (tgt := 38) hx hb d_Writer_findDigits_100 (by decide) ?_
      exact hk38 x7 v_letter a6 y3 x8 H locs ls hP hD hS (lv_sub hl [2, 3, 0] rfl) h
set_option maxHeartbeats 4000000 in
set_option maxRecDepth 100000 in
theorem s_Writer_findDigits_38 {p : Program} {l : Launch} {e : Env} {s : State} {m : MethodId} {args : Array Value} {below : List Frame} {meth : Method} {c : Code} {dC : Nat → ClassId} {dI : Nat → Nat → Nat} {A : Nat → Prop} {X : SXT} {g_this_page : Nat} {g_this_exact : Nat} {h_this : Nat} {h_this_digits : Nat} {c_this_digits : ClassId} {v_flags : Int32} {v_width : Int32} {v_precision : Int32} {res : Int32 × (Nat → Int32)}  (cx : cxx p s m args meth c b_Writer_findDigits 8 none R_Writer) (hK : va_K (dC, dI) classes [(c_this_digits, .byte)] s) (hA : ∀ q, s.heap.size ≤ q → A q) (hX : SX X A s s.heap)  : ∀ n : Nat, ∀ (v_count : Int32) (v_letter : Int32) (a_digits : (Nat → Int32)) (y3 : Int32) (y4 : Int64) (H : Heap) (locs : List Loc) (ls : Array Slot), va_P (dC, dI) classes (WS_Writer_findDigits g_this_page g_this_exact h_this h_this_digits c_this_digits v_count v_letter v_flags v_width v_precision a_digits) H → va_D A (WS_Writer_findDigits g_this_page g_this_exact h_this h_this_digits c_this_digits v_count v_letter v_flags v_width v_precision a_digits) → va_S A s.heap H locs → lv_has ls 8 [(0, .ref h_this), (3, .int y3), (4, .long y4)] → f_Writer_findDigits_38 n v_count v_letter a_digits y3 y4 = some res → W p l e ({ frames := 5, cells := 0, slots := 0, locals := 108 }) s m args below meth c H locs 0 0 (MQ below (va_Qv (fun (u : Int32 × (Nat → Int32)) => some u = some res) (gB (dC, dI) [(c_this_digits, .byte)] A (fun (u : Int32 × (Nat → Int32)) => (WS_Writer_findDigits g_this_page g_this_exact h_this h_this_digits c_this_digits u.1 v_letter v_flags v_width v_precision u.2))) A) args s 0 0 A) (F0 m 38 ls []) := by
  intro n
  induction n with
  | zero =>
    intro v_count v_letter a_digits y3 y4 H locs ls hP hD hS hl h
    have h9 : (none : Option (Int32 × (Nat → Int32))) = some res := h
    cases h9
  | succ n ih =>
    intro v_count v_letter a_digits y3 y4 H locs ls hP hD hS hl h
    exact s_Writer_findDigits_38b cx hK hA hX ih v_count v_letter a_digits y3 y4 H locs ls hP hD hS hl h
set_option maxHeartbeats 4000000 in
set_option maxRecDepth 100000 in
theorem s_Writer_findDigits_29 {p : Program} {l : Launch} {e : Env} {s : State} {m : MethodId} {args : Array Value} {below : List Frame} {meth : Method} {c : Code} {dC : Nat → ClassId} {dI : Nat → Nat → Nat} {A : Nat → Prop} {X : SXT} {g_this_page : Nat} {g_this_exact : Nat} {h_this : Nat} {h_this_digits : Nat} {c_this_digits : ClassId} {v_flags : Int32} {v_width : Int32} {v_precision : Int32} {res : Int32 × (Nat → Int32)}  (cx : cxx p s m args meth c b_Writer_findDigits 8 none R_Writer) (hK : va_K (dC, dI) classes [(c_this_digits, .byte)] s) (hA : ∀ q, s.heap.size ≤ q → A q) (hX : SX X A s s.heap)  : ∀ (v_count : Int32) (v_letter : Int32) (a_digits : (Nat → Int32)) (y1 : Int64) (z0 : Int32) (H : Heap) (locs : List Loc) (ls : Array Slot), va_P (dC, dI) classes (WS_Writer_findDigits g_this_page g_this_exact h_this h_this_digits c_this_digits v_count v_letter v_flags v_width v_precision a_digits) H → va_D A (WS_Writer_findDigits g_this_page g_this_exact h_this h_this_digits c_this_digits v_count v_letter v_flags v_width v_precision a_digits) → va_S A s.heap H locs → lv_has ls 8 [(0, .ref h_this), (1, .long y1)] → f_Writer_findDigits_29 v_count v_letter a_digits y1 z0 = some res → W p l e ({ frames := 5, cells := 0, slots := 0, locals := 108 }) s m args below meth c H locs 0 0 (MQ below (va_Qv (fun (u : Int32 × (Nat → Int32)) => some u = some res) (gB (dC, dI) [(c_this_digits, .byte)] A (fun (u : Int32 × (Nat → Int32)) => (WS_Writer_findDigits g_this_page g_this_exact h_this h_this_digits c_this_digits u.1 v_letter v_flags v_width v_precision u.2))) A) args s 0 0 A) (F0 m 29 ls [.int z0]) := by
  intro v_count v_letter a_digits y1 z0 H locs ls hP hD hS hl h
  obtain ⟨hx, hb, hr, hml, hown, ht, hlk⟩ := id cx
  refine lv_istore_n (lv' := [(3, .int z0), (0, .ref h_this), (1, .long y1)]) hx hb d_Writer_findDigits_29 rfl hl (by decide) rfl (fun ls hl => ?_)
  refine lv_lload_n hx hb d_Writer_findDigits_30 rfl (lv_at hl 2 rfl) ?_
  refine lv_lstore (lv' := [(4, .long y1), (3, .int z0), (0, .ref h_this), (1, .long y1)]) hx hb d_Writer_findDigits_31 hl (by decide) rfl (fun ls hl => ?_)
  refine lv_aload_n hx hb d_Writer_findDigits_33 rfl (lv_at hl 2 rfl) ?_
  refine lv_iconst (v := 0) hx hb d_Writer_findDigits_34 (by decide) ?_
  refine va_put (D := (dC, dI)) (ci := 6) (v := .int (0 : Int32)) (ty := .int) (C := R_Writer) (T := F_Writer) (N := 8) hx hb ht i_Writer t_Writer t_Writer_ok n_Writer hown hK hP hD hS 0 rfl rfl 3 (by decide) (ht _ q_247) (fun _ h9 => h9) rfl (t_Writer_ok 3 (by decide)) rfl rfl (Nat.le_of_ble_eq_true rfl) d_Writer_findDigits_35 (fun H locs hP hD hS => ?_)
  have hP : va_P (dC, dI) classes (WS_Writer_findDigits g_this_page g_this_exact h_this h_this_digits c_this_digits (0 : Int32) v_letter v_flags v_width v_precision a_digits) H := hP
  have hD : va_D A (WS_Writer_findDigits g_this_page g_this_exact h_this h_this_digits c_this_digits (0 : Int32) v_letter v_flags v_width v_precision a_digits) := hD
  exact s_Writer_findDigits_38 cx hK hA hX fu (0 : Int32) v_letter a_digits z0 y1 H locs ls hP hD hS (lv_sub hl [2, 1, 0] rfl) h
set_option maxHeartbeats 4000000 in
set_option maxRecDepth 100000 in
theorem s_Writer_findDigits_e {p : Program} {l : Launch} {e : Env} {s : State} {m : MethodId} {args : Array Value} {below : List Frame} {meth : Method} {c : Code} {dC : Nat → ClassId} {dI : Nat → Nat → Nat} {A : Nat → Prop} {X : SXT} {g_this_page : Nat} {g_this_exact : Nat} {h_this : Nat} {h_this_digits : Nat} {c_this_digits : ClassId} {v_flags : Int32} {v_width : Int32} {v_precision : Int32} {res : Int32 × (Nat → Int32)} (cx : cxx p s m args meth c b_Writer_findDigits 8 none R_Writer) (hK : va_K (dC, dI) classes [(c_this_digits, .byte)] s) (hA : ∀ q, s.heap.size ≤ q → A q) (hX : SX X A s s.heap) : ∀ (v_count : Int32) (v_letter : Int32) (a_digits : (Nat → Int32)) (p1 : Int64) (H : Heap) (locs : List Loc) (ls : Array Slot), va_P (dC, dI) classes (WS_Writer_findDigits g_this_page g_this_exact h_this h_this_digits c_this_digits v_count v_letter v_flags v_width v_precision a_digits) H → va_D A (WS_Writer_findDigits g_this_page g_this_exact h_this h_this_digits c_this_digits v_count v_letter v_flags v_width v_precision a_digits) → va_S A s.heap H locs → lv_has ls 8 [(0, .ref h_this), (1, .long p1)] → f_Writer_findDigits v_count v_letter a_digits p1 = some res → W p l e ({ frames := 5, cells := 0, slots := 0, locals := 108 }) s m args below meth c H locs 0 0 (MQ below (va_Qv (fun (u : Int32 × (Nat → Int32)) => some u = some res) (gB (dC, dI) [(c_this_digits, .byte)] A (fun (u : Int32 × (Nat → Int32)) => (WS_Writer_findDigits g_this_page g_this_exact h_this h_this_digits c_this_digits u.1 v_letter v_flags v_width v_precision u.2))) A) args s 0 0 A) (F0 m 0 ls []) := by
  intro v_count v_letter a_digits p1 H locs ls hP hD hS hl h
  obtain ⟨hx, hb, hr, hml, hown, ht, hlk⟩ := id cx
  refine lv_aload_n hx hb d_Writer_findDigits_0 rfl (lv_at hl 0 rfl) ?_
  refine va_get (D := (dC, dI)) (ci := 6) (v := .int v_letter) (C := R_Writer) (T := F_Writer) (N := 8) hx hb ht i_Writer hown hK hP 0 rfl rfl 4 (by decide) (ht _ q_230) (fun _ h9 => h9) rfl d_Writer_findDigits_1 ?_
  refine lv_bipush (v := 100) hx hb d_Writer_findDigits_4 (by decide) ?_
  refine lv_icmp_ne (tgt := 15) hx hb d_Writer_findDigits_6 (by decide) (fun c9 => ?_) (fun c9 => ?_)
  · have h := if_f c9 h
    refine lv_aload_n hx hb d_Writer_findDigits_15 rfl (lv_at hl 0 rfl) ?_
    refine va_get (D := (dC, dI)) (ci := 6) (v := .int v_letter) (C := R_Writer) (T := F_Writer) (N := 8) hx hb ht i_Writer hown hK hP 0 rfl rfl 4 (by decide) (ht _ q_230) (fun _ h9 => h9) rfl d_Writer_findDigits_16 ?_
    refine lv_bipush (v := 111) hx hb d_Writer_findDigits_19 (by decide) ?_
    refine lv_icmp_ne (tgt := 28) hx hb d_Writer_findDigits_21 (by decide) (fun c10 => ?_) (fun c10 => ?_)
    · have h := if_f c10 h
      refine lv_iconst (v := 4) hx hb d_Writer_findDigits_28 (by decide) ?_
      exact s_Writer_findDigits_29 cx hK hA hX v_count v_letter a_digits p1 (4 : Int32) H locs ls hP hD hS (lv_sub hl [0, 1] rfl) h
    · have h := if_t c10 h
      refine lv_iconst (v := 3) hx hb d_Writer_findDigits_24 (by decide) ?_
      refine lv_goto (tgt := 29) hx hb d_Writer_findDigits_25 (by decide) ?_
      exact s_Writer_findDigits_29 cx hK hA hX v_count v_letter a_digits p1 (3 : Int32) H locs ls hP hD hS (lv_sub hl [0, 1] rfl) h
  · have h := if_t c9 h
    refine lv_aload_n hx hb d_Writer_findDigits_9 rfl (lv_at hl 0 rfl) ?_
    refine lv_lload_n hx hb d_Writer_findDigits_10 rfl (lv_at hl 1 rfl) ?_
    obtain ⟨v11, a12, hf, h⟩ := bi2_x h
    refine clVv (D := (dC, dI)) (n := 1) (As := [.long p1]) ⟨hx, hb, hml, hown, ht⟩ (c_Writer_findTens l dC dI X g_this_page g_this_exact h_this h_this_digits c_this_digits H.size v_count v_letter v_flags v_width v_precision a_digits p1 (v11, a12) hf) (gV q_283 q_284 q_285 q_239 q_286) (by decide +kernel) ⟨rfl, rfl, Nat.le_of_ble_eq_true rfl, Nat.le_of_ble_eq_true rfl⟩ hK hP hD hS hA hX [0, 1] [] [0] rfl (wr := []) rfl (by decide) (by decide) (by decide) rfl (va_recv hK hP (ci := 6) (q0 := 0) rfl rfl) rfl hl.1 rfl (lv_room (Nat.le_of_ble_eq_true rfl)) d_Writer_findDigits_11 ⟨Nat.zero_le _, Nat.zero_le _⟩ (fun u9 H locs h9 hP hD hS => ?_)
    cases h9
    have hP : va_P (dC, dI) classes (WS_Writer_findDigits g_this_page g_this_exact h_this h_this_digits c_this_digits v11 v_letter v_flags v_width v_precision a12) H := hP.sub [0, 1] rfl
    have hD : va_D A (WS_Writer_findDigits g_this_page g_this_exact h_this h_this_digits c_this_digits v11 v_letter v_flags v_width v_precision a12) := hD.sub [0, 1] (by decide) rfl
    exact W.vret hx hb hr (fun t ht9 hW => ⟨⟨(v11, a12), rfl, h, by rw [ht9]; exact hP, va_K.moved hW.alike hK, hD⟩, hS.F ht9⟩) hS.2.2 d_Writer_findDigits_14 hlk
set_option maxHeartbeats 4000000 in
set_option maxRecDepth 100000 in
theorem c_Writer_findDigits (l : Launch) (dC : Nat → ClassId) (dI : Nat → Nat → Nat) (X : SXT) (g_this_page : Nat) (g_this_exact : Nat) (h_this : Nat) (h_this_digits : Nat) (c_this_digits : ClassId) (sz : Nat) (v_count : Int32) (v_letter : Int32) (v_flags : Int32) (v_width : Int32) (v_precision : Int32) (a_digits : (Nat → Int32)) (p1 : Int64) (res : Int32 × (Nat → Int32)) (hf : f_Writer_findDigits v_count v_letter a_digits p1 = some res) : Met l y_Writer_findDigits (.code y_Writer_findDigits b_Writer_findDigits 8 none :: w0) ({ frames := 5, cells := 0, slots := 0, locals := 108 }) (va_Pc [.ref h_this, .long p1] (gP (dC, dI) (WS_Writer_findDigits g_this_page g_this_exact h_this h_this_digits c_this_digits v_count v_letter v_flags v_width v_precision a_digits) [(c_this_digits, .byte)] sz X)) (va_Qv (fun (u : Int32 × (Nat → Int32)) => some u = some res) (gB (dC, dI) [(c_this_digits, .byte)] (va_A (WS_Writer_findDigits g_this_page g_this_exact h_this h_this_digits c_this_digits v_count v_letter v_flags v_width v_precision a_digits) sz) (fun (u : Int32 × (Nat → Int32)) => (WS_Writer_findDigits g_this_page g_this_exact h_this h_this_digits c_this_digits u.1 v_letter v_flags v_width v_precision u.2))) (va_A (WS_Writer_findDigits g_this_page g_this_exact h_this h_this_digits c_this_digits v_count v_letter v_flags v_width v_precision a_digits) sz)) 0 0 (va_A (WS_Writer_findDigits g_this_page g_this_exact h_this h_this_digits c_this_digits v_count v_letter v_flags v_width v_precision a_digits) sz) := by
  refine Met.ofW (cc := b_Writer_findDigits) (maxL := 8) (ret := none) (by decide) rfl ?_
  intro p e s m args below meth c s₁ B hml hv
  obtain ⟨rfl, hsz, hP, hK, hD0, hX⟩ := hv
  subst hsz
  have cx : cxx p s m ([.ref h_this, .long p1] : List Value).toArray meth c b_Writer_findDigits 8 none R_Writer := ⟨B.exec, B.bytes, B.returns, hml, findClass_of_methodNamed B.named, fun w9 hw => atoms_spec (ws := .code y_Writer_findDigits b_Writer_findDigits 8 none :: w0) B.pre w9 (List.mem_cons_of_mem _ hw), B.notSynchronized⟩
  have hD := hD0.self (sz := s.heap.size)
  generalize hAe : va_A (WS_Writer_findDigits g_this_page g_this_exact h_this h_this_digits c_this_digits v_count v_letter v_flags v_width v_precision a_digits) s.heap.size = A at hD hX ⊢
  have hA : ∀ q : Nat, s.heap.size ≤ q → A q := fun q h => by rw [← hAe]; exact Or.inr h
  have hS : va_S A s.heap s.heap [] := va_S.rf
  have hl := lv_entry ([.ref h_this, .long p1]) (n := 8) (Nat.le_of_ble_eq_true rfl)
  rw [lg_entry_eq]
  generalize (lg_sl ([.ref h_this, .long p1]) ++ List.replicate (8 - (lg_sl ([.ref h_this, .long p1])).length) Slot.unset).toArray = ls at hl ⊢
  have hl : lv_has ls 8 [(0, .ref h_this), (1, .long p1)] := hl
  exact s_Writer_findDigits_e cx hK hA hX v_count v_letter a_digits p1 s.heap [] ls hP hD hS hl hf

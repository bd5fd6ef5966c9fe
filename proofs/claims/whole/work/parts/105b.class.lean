abbrev WS_Writer_precisionOr (g_this_page : Nat) (g_this_exact : Nat) (g_this_digits : Nat) (h_this : Nat)  (v_count : Int32) (v_letter : Int32) (v_flags : Int32) (v_width : Int32) (v_precision : Int32) : va_W := [(h_this, .inr (6, [.ref g_this_page, .ref g_this_exact, .ref g_this_digits, .int v_count, .int v_letter, .int v_flags, .int v_width, .int v_precision]))]
def f_Writer_precisionOr (v_precision : Int32) (p1 : Int32) : Option (Int32) :=
  if v_precision = (-1 : Int32) then
    some p1
  else
    some v_precision
set_option maxHeartbeats 4000000 in
set_option maxRecDepth 100000 in
theorem s_Writer_precisionOr_e {p : Program} {l : Launch} {e : Env} {s : State} {m : MethodId} {args : Array Value} {below : List Frame} {meth : Method} {c : Code} {dC : Nat → ClassId} {dI : Nat → Nat → Nat} {A : Nat → Prop} {X : SXT} {g_this_page : Nat} {g_this_exact : Nat} {g_this_digits : Nat} {h_this : Nat} {v_count : Int32} {v_letter : Int32} {v_flags : Int32} {v_width : Int32} {res : Int32} (cx : cxx p s m args meth c b_Writer_precisionOr 2 (some .int) R_Writer) (hK : va_K (dC, dI) classes [] s) (hA : ∀ q, s.heap.size ≤ q → A q) (hX : SX X A s s.heap) : ∀ (v_precision : Int32) (p1 : Int32) (H : Heap) (locs : List Loc) (ls : Array Slot), va_P (dC, dI) classes (WS_Writer_precisionOr g_this_page g_this_exact g_this_digits h_this v_count v_letter v_flags v_width v_precision) H → va_D A (WS_Writer_precisionOr g_this_page g_this_exact g_this_digits h_this v_count v_letter v_flags v_width v_precision) → va_S A s.heap H locs → lv_has ls 2 [(0, .ref h_this), (1, .int p1)] → f_Writer_precisionOr v_precision p1 = some res → W p l e ({ frames := 0, cells := 0, slots := 0, locals := 0 }) s m args below meth c H locs 0 0 (MQ below (va_Qi (fun (r : Int32) (_ : Unit) => some r = some res) (gB (dC, dI) [] A (fun (u : Unit) => (WS_Writer_precisionOr g_this_page g_this_exact g_this_digits h_this v_count v_letter v_flags v_width v_precision))) A) args s 0 0 A) (F0 m 0 ls []) := by
  intro v_precision p1 H locs ls hP hD hS hl h
  obtain ⟨hx, hb, hr, hml, hown, ht, hlk⟩ := id cx
  refine lv_aload_n hx hb d_Writer_precisionOr_0 rfl (lv_at hl 0 rfl) ?_
  refine va_get (D := (dC, dI)) (ci := 6) (v := .int v_precision) (C := R_Writer) (T := F_Writer) (N := 8) hx hb ht i_Writer hown hK hP 0 rfl rfl 7 (by decide) (ht _ q_233) (fun _ h9 => h9) rfl d_Writer_precisionOr_1 ?_
  refine lv_iconst (v := -1) hx hb d_Writer_precisionOr_4 (by decide) ?_
  refine lv_icmp_ne (tgt := 12) hx hb d_Writer_precisionOr_5 (by decide) (fun c1 => ?_) (fun c1 => ?_)
  · have h := if_f c1 h
    refine lv_aload_n hx hb d_Writer_precisionOr_12 rfl (lv_at hl 0 rfl) ?_
    refine va_get (D := (dC, dI)) (ci := 6) (v := .int v_precision) (C := R_Writer) (T := F_Writer) (N := 8) hx hb ht i_Writer hown hK hP 0 rfl rfl 7 (by decide) (ht _ q_233) (fun _ h9 => h9) rfl d_Writer_precisionOr_13 ?_
    exact W.iret (v := v_precision) hx hb hr (fun t ht9 hW => ⟨⟨v_precision, (), rfl, h, by rw [ht9]; exact hP, va_K.moved hW.alike hK, hD⟩, hS.F ht9⟩) hS.2.2 d_Writer_precisionOr_16 hlk
  · have h := if_t c1 h
    refine lv_iload_n hx hb d_Writer_precisionOr_8 rfl (lv_at hl 1 rfl) ?_
    refine lv_goto (tgt := 16) hx hb d_Writer_precisionOr_9 (by decide) ?_
    exact W.iret (v := p1) hx hb hr (fun t ht9 hW => ⟨⟨p1, (), rfl, h, by rw [ht9]; exact hP, va_K.moved hW.alike hK, hD⟩, hS.F ht9⟩) hS.2.2 d_Writer_precisionOr_16 hlk
set_option maxHeartbeats 4000000 in
set_option maxRecDepth 100000 in
theorem c_Writer_precisionOr (l : Launch) (dC : Nat → ClassId) (dI : Nat → Nat → Nat) (X : SXT) (g_this_page : Nat) (g_this_exact : Nat) (g_this_digits : Nat) (h_this : Nat) (sz : Nat) (v_count : Int32) (v_letter : Int32) (v_flags : Int32) (v_width : Int32) (v_precision : Int32) (p1 : Int32) (res : Int32) (hf : f_Writer_precisionOr v_precision p1 = some res) : Met l y_Writer_precisionOr (.code y_Writer_precisionOr b_Writer_precisionOr 2 (some .int) :: w0) ({ frames := 0, cells := 0, slots := 0, locals := 0 }) (va_Pc [.ref h_this, .int p1] (gP (dC, dI) (WS_Writer_precisionOr g_this_page g_this_exact g_this_digits h_this v_count v_letter v_flags v_width v_precision) [] sz X)) (va_Qi (fun (r : Int32) (_ : Unit) => some r = some res) (gB (dC, dI) [] (va_A (WS_Writer_precisionOr g_this_page g_this_exact g_this_digits h_this v_count v_letter v_flags v_width v_precision) sz) (fun (u : Unit) => (WS_Writer_precisionOr g_this_page g_this_exact g_this_digits h_this v_count v_letter v_flags v_width v_precision))) (va_A (WS_Writer_precisionOr g_this_page g_this_exact g_this_digits h_this v_count v_letter v_flags v_width v_precision) sz)) 0 0 (va_A (WS_Writer_precisionOr g_this_page g_this_exact g_this_digits h_this v_count v_letter v_flags v_width v_precision) sz) := by
  refine Met.ofW (cc := b_Writer_precisionOr) (maxL := 2) (ret := (some .int)) (by decide) rfl ?_
  intro p e s m args below meth c s₁ B hml hv
  obtain ⟨rfl, hsz, hP, hK, hD0, hX⟩ := hv
  subst hsz
  have cx : cxx p s m ([.ref h_this, .int p1] : List Value).toArray meth c b_Writer_precisionOr 2 (some .int) R_Writer := ⟨B.exec, B.bytes, B.returns, hml, findClass_of_methodNamed B.named, fun w9 hw => atoms_spec (ws := .code y_Writer_precisionOr b_Writer_precisionOr 2 (some .int) :: w0) B.pre w9 (List.mem_cons_of_mem _ hw), B.notSynchronized⟩
  have hD := hD0.self (sz := s.heap.size)
  generalize hAe : va_A (WS_Writer_precisionOr g_this_page g_this_exact g_this_digits h_this v_count v_letter v_flags v_width v_precision) s.heap.size = A at hD hX ⊢
  have hA : ∀ q : Nat, s.heap.size ≤ q → A q := fun q h => by rw [← hAe]; exact Or.inr h
  have hS : va_S A s.heap s.heap [] := va_S.rf
  have hl := lv_entry ([.ref h_this, .int p1]) (n := 2) (Nat.le_of_ble_eq_true rfl)
  rw [lg_entry_eq]
  generalize (lg_sl ([.ref h_this, .int p1]) ++ List.replicate (2 - (lg_sl ([.ref h_this, .int p1])).length) Slot.unset).toArray = ls at hl ⊢
  have hl : lv_has ls 2 [(0, .ref h_this), (1, .int p1)] := hl
  exact s_Writer_precisionOr_e cx hK hA hX v_precision p1 s.heap [] ls hP hD hS hl hf
abbrev WS_Writer_smallLetter (g_this_page : Nat) (g_this_exact : Nat) (g_this_digits : Nat) (h_this : Nat)  (v_count : Int32) (v_letter : Int32) (v_flags : Int32) (v_width : Int32) (v_precision : Int32) : va_W := [(h_this, .inr (6, [.ref g_this_page, .ref g_this_exact, .ref g_this_digits, .int v_count, .int v_letter, .int v_flags, .int v_width, .int v_precision]))]
def f_Writer_smallLetter (v_letter : Int32) : Option (Int32) :=
  some (v_letter ||| (32 : Int32))
set_option maxHeartbeats 4000000 in
set_option maxRecDepth 100000 in
theorem s_Writer_smallLetter_e {p : Program} {l : Launch} {e : Env} {s : State} {m : MethodId} {args : Array Value} {below : List Frame} {meth : Method} {c : Code} {dC : Nat → ClassId} {dI : Nat → Nat → Nat} {A : Nat → Prop} {X : SXT} {g_this_page : Nat} {g_this_exact : Nat} {g_this_digits : Nat} {h_this : Nat} {v_count : Int32} {v_flags : Int32} {v_width : Int32} {v_precision : Int32} {res : Int32} (cx : cxx p s m args meth c b_Writer_smallLetter 1 (some .int) R_Writer) (hK : va_K (dC, dI) classes [] s) (hA : ∀ q, s.heap.size ≤ q → A q) (hX : SX X A s s.heap) : ∀ (v_letter : Int32) (H : Heap) (locs : List Loc) (ls : Array Slot), va_P (dC, dI) classes (WS_Writer_smallLetter g_this_page g_this_exact g_this_digits h_this v_count v_letter v_flags v_width v_precision) H → va_D A (WS_Writer_smallLetter g_this_page g_this_exact g_this_digits h_this v_count v_letter v_flags v_width v_precision) → va_S A s.heap H locs → lv_has ls 1 [(0, .ref h_this)] → f_Writer_smallLetter v_letter = some res → W p l e ({ frames := 0, cells := 0, slots := 0, locals := 0 }) s m args below meth c H locs 0 0 (MQ below (va_Qi (fun (r : Int32) (_ : Unit) => some r = some res) (gB (dC, dI) [] A (fun (u : Unit) => (WS_Writer_smallLetter g_this_page g_this_exact g_this_digits h_this v_count v_letter v_flags v_width v_precision))) A) args s 0 0 A) (F0 m 0 ls []) := by
  intro v_letter H locs ls hP hD hS hl h
  obtain ⟨hx, hb, hr, hml, hown, ht, hlk⟩ := id cx
  refine lv_aload_n hx hb d_Writer_smallLetter_0 rfl (lv_at hl 0 rfl) ?_
  refine va_get (D := (dC, dI)) (ci := 6) (v := .int v_letter) (C := R_Writer) (T := F_Writer) (N := 8) hx hb ht i_Writer hown hK hP 0 rfl rfl 4 (by decide) (ht _ q_230) (fun _ h9 => h9) rfl d_Writer_smallLetter_1 ?_
  refine lv_bipush (v := 32) hx hb d_Writer_smallLetter_4 (by decide) ?_
  refine lv_ior hx hb d_Writer_smallLetter_6 ?_
  exact W.iret (v := (v_letter ||| (32 : Int32))) hx hb hr (fun t ht9 hW => ⟨⟨(v_letter ||| (32 : Int32)), (), rfl, h, by rw [ht9]; exact hP, va_K.moved hW.alike hK, hD⟩, hS.F ht9⟩) hS.2.2 d_Writer_smallLetter_7 hlk
set_option maxHeartbeats 4000000 in
set_option maxRecDepth 100000 in
theorem c_Writer_smallLetter (l : Launch) (dC : Nat → ClassId) (dI : Nat → Nat → Nat) (X : SXT) (g_this_page : Nat) (g_this_exact : Nat) (g_this_digits : Nat) (h_this : Nat) (sz : Nat) (v_count : Int32) (v_letter : Int32) (v_flags : Int32) (v_width : Int32) (v_precision : Int32) (res : Int32) (hf : f_Writer_smallLetter v_letter = some res) : Met l y_Writer_smallLetter (.code y_Writer_smallLetter b_Writer_smallLetter 1 (some .int) :: w0) ({ frames := 0, cells := 0, slots := 0, locals := 0 }) (va_Pc [.ref h_this] (gP (dC, dI) (WS_Writer_smallLetter g_this_page g_this_exact g_this_digits h_this v_count v_letter v_flags v_width v_precision) [] sz X)) (va_Qi (fun (r : Int32) (_ : Unit) => some r = some res) (gB (dC, dI) [] (va_A (WS_Writer_smallLetter g_this_page g_this_exact g_this_digits h_this v_count v_letter v_flags v_width v_precision) sz) (fun (u : Unit) => (WS_Writer_smallLetter g_this_page g_this_exact g_this_digits h_this v_count v_letter v_flags v_width v_precision))) (va_A (WS_Writer_smallLetter g_this_page g_this_exact g_this_digits h_this v_count v_letter v_flags v_width v_precision) sz)) 0 0 (va_A (WS_Writer_smallLetter g_this_page g_this_exact g_this_digits h_this v_count v_letter v_flags v_width v_precision) sz) := by
  refine Met.ofW (cc := b_Writer_smallLetter) (maxL := 1) (ret := (some .int)) (by decide) rfl ?_
  intro p e s m args below meth c s₁ B hml hv
  obtain ⟨rfl, hsz, hP, hK, hD0, hX⟩ := hv
  subst hsz
  have cx : cxx p s m ([.ref h_this] : List Value).toArray meth c b_Writer_smallLetter 1 (some .int) R_Writer := ⟨B.exec, B.bytes, B.returns, hml, findClass_of_methodNamed B.named, fun w9 hw => atoms_spec (ws := .code y_Writer_smallLetter b_Writer_smallLetter 1 (some .int) :: w0) B.pre w9 (List.mem_cons_of_mem _ hw), B.notSynchronized⟩
  have hD := hD0.self (sz := s.heap.size)
  generalize hAe : va_A (WS_Writer_smallLetter g_this_page g_this_exact g_this_digits h_this v_count v_letter v_flags v_width v_precision) s.heap.size = A at hD hX ⊢
  have hA : ∀ q : Nat, s.heap.size ≤ q → A q := fun q h => by rw [← hAe]; exact Or.inr h
  have hS : va_S A s.heap s.heap [] := va_S.rf
  have hl := lv_entry ([.ref h_this]) (n := 1) (Nat.le_of_ble_eq_true rfl)
  rw [lg_entry_eq]
  generalize (lg_sl ([.ref h_this]) ++ List.replicate (1 - (lg_sl ([.ref h_this])).length) Slot.unset).toArray = ls at hl ⊢
  have hl : lv_has ls 1 [(0, .ref h_this)] := hl
  exact s_Writer_smallLetter_e cx hK hA hX v_letter s.heap [] ls hP hD hS hl hf
abbrev WS_Writer_putMarkOfBase (g_this_exact : Nat) (g_this_digits : Nat) (h_this : Nat) (h_this_page : Nat) (h_this_page_row : Nat) (c_this_page_row : ClassId) (v_count : Int32) (v_letter : Int32) (v_flags : Int32) (v_width : Int32) (v_precision : Int32) (v_page_length : Int32) (a_page_row : (Nat → Int32)) : va_W := [(h_this, .inr (6, [.ref h_this_page, .ref g_this_exact, .ref g_this_digits, .int v_count, .int v_letter, .int v_flags, .int v_width, .int v_precision])), (h_this_page, .inr (5, [.ref h_this_page_row, .int v_page_length])), (h_this_page_row, .inl (c_this_page_row, 420, .inl a_page_row))]
def f_Writer_putMarkOfBase_38 (v_letter : Int32) (v_page_length : Int32) (a_page_row : (Nat → Int32)) (y3 : Int32) : Option (Int32 × (Nat → Int32)) :=
  if v_letter = (111 : Int32) then
    if y3 = 0 then
      bi2 (f_Page_put v_page_length a_page_row (48 : Int32)) fun v3 a4 =>
      some (v3, a4)
    else
      some (v_page_length, a_page_row)
  else
    some (v_page_length, a_page_row)
def f_Writer_putMarkOfBase (v_letter : Int32) (v_page_length : Int32) (a_page_row : (Nat → Int32)) (p1 : Int64) (p3 : Int32) : Option (Int32 × (Nat → Int32)) :=
  bi1 (f_Writer_smallLetter v_letter) fun r5 =>
  if r5 = (120 : Int32) then
    if p1 = (0 : Int64) then
      f_Writer_putMarkOfBase_38 v_letter v_page_length a_page_row p3
    else
      bi2 (f_Page_put v_page_length a_page_row (48 : Int32)) fun v8 a9 =>
      bi2 (f_Page_put v8 a9 v_letter) fun v10 a11 =>
      some (v10, a11)
  else
    f_Writer_putMarkOfBase_38 v_letter v_page_length a_page_row p3
set_option maxHeartbeats 4000000 in
set_option maxRecDepth 100000 in
theorem s_Writer_putMarkOfBase_38 {p : Program} {l : Launch} {e : Env} {s : State} {m : MethodId} {args : Array Value} {below : List Frame} {meth : Method} {c : Code} {dC : Nat → ClassId} {dI : Nat → Nat → Nat} {A : Nat → Prop} {X : SXT} {g_this_exact : Nat} {g_this_digits : Nat} {h_this : Nat} {h_this_page : Nat} {h_this_page_row : Nat} {c_this_page_row : ClassId} {v_count : Int32} {v_flags : Int32} {v_width : Int32} {v_precision : Int32} {res : Int32 × (Nat → Int32)}  (cx : cxx p s m args meth c b_Writer_putMarkOfBase 4 none R_Writer) (hK : va_K (dC, dI) classes [(c_this_page_row, .byte)] s) (hA : ∀ q, s.heap.size ≤ q → A q) (hX : SX X A s s.heap)  : ∀ (v_letter : Int32) (v_page_length : Int32) (a_page_row : (Nat → Int32)) (y3 : Int32) (H : Heap) (locs : List Loc) (ls : Array Slot), va_P (dC, dI) classes (WS_Writer_putMarkOfBase g_this_exact g_this_digits h_this h_this_page h_this_page_row c_this_page_row v_count v_letter v_flags v_width v_precision v_page_length a_page_row) H → va_D A (WS_Writer_putMarkOfBase g_this_exact g_this_digits h_this h_this_page h_this_page_row c_this_page_row v_count v_letter v_flags v_width v_precision v_page_length a_page_row) → va_S A s.heap H locs → lv_has ls 4 [(0, .ref h_this), (3, .int y3)] → f_Writer_putMarkOfBase_38 v_letter v_page_length a_page_row y3 = some res → W p l e ({ frames := 1, cells := 0, slots := 0, locals := 21 }) s m args below meth c H locs 0 0 (MQ below (va_Qv (fun (u : Int32 × (Nat → Int32)) => some u = some res) (gB (dC, dI) [(c_this_page_row, .byte)] A (fun (u : Int32 × (Nat → Int32)) => (WS_Writer_putMarkOfBase g_this_exact g_this_digits h_this h_this_page h_this_page_row c_this_page_row v_count v_letter v_flags v_width v_precision u.1 u.2))) A) args s 0 0 A) (F0 m 38 ls []) := by
  intro v_letter v_page_length a_page_row y3 H locs ls hP hD hS hl h
  obtain ⟨hx, hb, hr, hml, hown, ht, hlk⟩ := id cx
  refine lv_aload_n hx hb d_Writer_putMarkOfBase_38 rfl (lv_at hl 0 rfl) ?_
  refine va_get (D := (dC, dI)) (ci := 6) (v := .int v_letter) (C := R_Writer) (T := F_Writer) (N := 8) hx hb ht i_Writer hown hK hP 0 rfl rfl 4 (by decide) (ht _ q_230) (fun _ h9 => h9) rfl d_Writer_putMarkOfBase_39 ?_
  refine lv_bipush (v := 111) hx hb d_Writer_putMarkOfBase_42 (by decide) ?_
  refine lv_icmp_ne (tgt := 60) hx hb d_Writer_putMarkOfBase_44 (by decide) (fun c1 => ?_) (fun c1 => ?_)
  · have h := if_f c1 h
    exact W.vret hx hb hr (fun t ht9 hW => ⟨⟨(v_page_length, a_page_row), rfl, h, by rw [ht9]; exact hP, va_K.moved hW.alike hK, hD⟩, hS.F ht9⟩) hS.2.2 d_Writer_putMarkOfBase_60 hlk
  · have h := if_t c1 h
    refine lv_iload_n hx hb d_Writer_putMarkOfBase_47 rfl (lv_at hl 1 rfl) ?_
    refine lv_if_ne (tgt := 60) hx hb d_Writer_putMarkOfBase_48 (by decide) (fun c2 => ?_) (fun c2 => ?_)
    · have h := if_f c2 h
      exact W.vret hx hb hr (fun t ht9 hW => ⟨⟨(v_page_length, a_page_row), rfl, h, by rw [ht9]; exact hP, va_K.moved hW.alike hK, hD⟩, hS.F ht9⟩) hS.2.2 d_Writer_putMarkOfBase_60 hlk
    · have h := if_t c2 h
      refine lv_aload_n hx hb d_Writer_putMarkOfBase_51 rfl (lv_at hl 0 rfl) ?_
      refine va_get (D := (dC, dI)) (ci := 6) (v := .ref h_this_page) (C := R_Writer) (T := F_Writer) (N := 8) hx hb ht i_Writer hown hK hP 0 rfl rfl 0 (by decide) (ht _ q_241) (fun _ h9 => h9) rfl d_Writer_putMarkOfBase_52 ?_
      refine lv_bipush (v := 48) hx hb d_Writer_putMarkOfBase_55 (by decide) ?_
      obtain ⟨v3, a4, hf, h⟩ := bi2_x h
      refine clVv (D := (dC, dI)) (n := 1) (As := [.int (48 : Int32)]) ⟨hx, hb, hml, hown, ht⟩ (c_Page_put l dC dI X h_this_page h_this_page_row c_this_page_row H.size v_page_length a_page_row (48 : Int32) (v3, a4) hf) (gV q_242 q_243 q_244 q_245 q_246) (by decide +kernel) ⟨rfl, rfl, Nat.le_of_ble_eq_true rfl, Nat.le_of_ble_eq_true rfl⟩ hK hP hD hS hA hX [1, 2] [0] [0] rfl (wr := [(h_this, .inr (6, [.ref h_this_page, .ref g_this_exact, .ref g_this_digits, .int v_count, .int v_letter, .int v_flags, .int v_width, .int v_precision]))]) rfl (by decide) (by decide) (by decide) rfl (va_recv hK hP (ci := 5) (q0 := 1) rfl rfl) rfl hl.1 rfl (lv_room (Nat.le_of_ble_eq_true rfl)) d_Writer_putMarkOfBase_57 ⟨Nat.zero_le _, Nat.zero_le _⟩ (fun u9 H locs h9 hP hD hS => ?_)
      cases h9
      have hP : va_P (dC, dI) classes (WS_Writer_putMarkOfBase g_this_exact g_this_digits h_this h_this_page h_this_page_row c_this_page_row v_count v_letter v_flags v_width v_precision v3 a4) H := hP.sub [0, 1, 2] rfl
      have hD : va_D A (WS_Writer_putMarkOfBase g_this_exact g_this_digits h_this h_this_page h_this_page_row c_this_page_row v_count v_letter v_flags v_width v_precision v3 a4) := hD.sub [0, 1, 2] (by decide) rfl
      exact W.vret hx hb hr (fun t ht9 hW => ⟨⟨(v3, a4), rfl, h, by rw [ht9]; exact hP, va_K.moved hW.alike hK, hD⟩, hS.F ht9⟩) hS.2.2 d_Writer_putMarkOfBase_60 hlk
set_option maxHeartbeats 4000000 in
set_option maxRecDepth 100000 in
theorem s_Writer_putMarkOfBase_e {p : Program} {l : Launch} {e : Env} {s : State} {m : MethodId} {args : Array Value} {below : List Frame} {meth : Method} {c : Code} {dC : Nat → ClassId} {dI : Nat → Nat → Nat} {A : Nat → Prop} {X : SXT} {g_this_exact : Nat} {g_this_digits : Nat} {h_this : Nat} {h_this_page : Nat} {h_this_page_row : Nat} {c_this_page_row : ClassId} {v_count : Int32} {v_flags : Int32} {v_width : Int32} {v_precision : Int32} {res : Int32 × (Nat → Int32)} (cx : cxx p s m args meth c b_Writer_putMarkOfBase 4 none R_Writer) (hK : va_K (dC, dI) classes [(c_this_page_row, .byte)] s) (hA : ∀ q, s.heap.size ≤ q → A q) (hX : SX X A s s.heap) : ∀ (v_letter : Int32) (v_page_length : Int32) (a_page_row : (Nat → Int32)) (p1 : Int64) (p3 : Int32) (H : Heap) (locs : List Loc) (ls : Array Slot), va_P (dC, dI) classes (WS_Writer_putMarkOfBase g_this_exact g_this_digits h_this h_this_page h_this_page_row c_this_page_row v_count v_letter v_flags v_width v_precision v_page_length a_page_row) H → va_D A (WS_Writer_putMarkOfBase g_this_exact g_this_digits h_this h_this_page h_this_page_row c_this_page_row v_count v_letter v_flags v_width v_precision v_page_length a_page_row) → va_S A s.heap H locs → lv_has ls 4 [(0, .ref h_this), (1, .long p1), (3, .int p3)] → f_Writer_putMarkOfBase v_letter v_page_length a_page_row p1 p3 = some res → W p l e ({ frames := 1, cells := 0, slots := 0, locals := 21 }) s m args below meth c H locs 0 0 (MQ below (va_Qv (fun (u : Int32 × (Nat → Int32)) => some u = some res) (gB (dC, dI) [(c_this_page_row, .byte)] A (fun (u : Int32 × (Nat → Int32)) => (WS_Writer_putMarkOfBase g_this_exact g_this_digits h_this h_this_page h_this_page_row c_this_page_row v_count v_letter v_flags v_width v_precision u.1 u.2))) A) args s 0 0 A) (F0 m 0 ls []) := by
  intro v_letter v_page_length a_page_row p1 p3 H locs ls hP hD hS hl h
  obtain ⟨hx, hb, hr, hml, hown, ht, hlk⟩ := id cx
  refine lv_aload_n hx hb d_Writer_putMarkOfBase_0 rfl (lv_at hl 0 rfl) ?_
  obtain ⟨r5, hf, h⟩ := bi1_x h
  refine clVi (D := (dC, dI)) (n := 0) (As := []) ⟨hx, hb, hml, hown, ht⟩ (c_Writer_smallLetter l dC dI X h_this_page g_this_exact g_this_digits h_this H.size v_count v_letter v_flags v_width v_precision r5 hf) (gV q_287 q_288 q_289 q_239 q_290) (by decide +kernel) ⟨rfl, rfl, Nat.le_of_ble_eq_true rfl, Nat.le_of_ble_eq_true rfl⟩ hK hP hD hS hA hX [0] [1, 2] [] rfl (wr := [(h_this_page, .inr (5, [.ref h_this_page_row, .int v_page_length])), (h_this_page_row, .inl (c_this_page_row, 420, .inl a_page_row))]) rfl (by decide) (by decide) (by decide) rfl (va_recv hK hP (ci := 6) (q0 := 0) rfl rfl) rfl hl.1 rfl (lv_room (Nat.le_of_ble_eq_true rfl)) d_Writer_putMarkOfBase_1 ⟨Nat.zero_le _, Nat.zero_le _⟩ (fun r9 u9 H locs h9 hP hD hS => ?_)
  cases h9
  have hP : va_P (dC, dI) classes (WS_Writer_putMarkOfBase g_this_exact g_this_digits h_this h_this_page h_this_page_row c_this_page_row v_count v_letter v_flags v_width v_precision v_page_length a_page_row) H := hP.sub [2, 0, 1] rfl
  have hD : va_D A (WS_Writer_putMarkOfBase g_this_exact g_this_digits h_this h_this_page h_this_page_row c_this_page_row v_count v_letter v_flags v_width v_precision v_page_length a_page_row) := hD.sub [2, 0, 1] (by decide) rfl
  refine lv_bipush (v := 120) hx hb d_Writer_putMarkOfBase_4 (by decide) ?_
  refine lv_icmp_ne (tgt := 38) hx hb d_Writer_putMarkOfBase_6 (by decide) (fun c6 => ?_) (fun c6 => ?_)
  · have h := if_f c6 h
    exact s_Writer_putMarkOfBase_38 cx hK hA hX v_letter v_page_length a_page_row p3 H locs ls hP hD hS (lv_sub hl [0, 2] rfl) h
  · have h := if_t c6 h
    refine lv_lload_n hx hb d_Writer_putMarkOfBase_9 rfl (lv_at hl 1 rfl) ?_
    refine lv_lconst (v := 0) hx hb d_Writer_putMarkOfBase_10 (by decide) ?_
    refine W.lcmp hx hb d_Writer_putMarkOfBase_11 ?_
    refine lv_if_eq (tgt := 38) hx hb d_Writer_putMarkOfBase_12 (by decide) (fun c7 => ?_) (fun c7 => ?_)
    · have c7 := (lg_cmp_eq _ _).mp c7
      have h := if_t c7 h
      exact s_Writer_putMarkOfBase_38 cx hK hA hX v_letter v_page_length a_page_row p3 H locs ls hP hD hS (lv_sub hl [0, 2] rfl) h
    · have c7 := fun h9 => c7 ((lg_cmp_eq _ _).mpr h9)
      have h := if_f c7 h
      refine lv_aload_n hx hb d_Writer_putMarkOfBase_15 rfl (lv_at hl 0 rfl) ?_
      refine va_get (D := (dC, dI)) (ci := 6) (v := .ref h_this_page) (C := R_Writer) (T := F_Writer) (N := 8) hx hb ht i_Writer hown hK hP 0 rfl rfl 0 (by decide) (ht _ q_241) (fun _ h9 => h9) rfl d_Writer_putMarkOfBase_16 ?_
      refine lv_bipush (v := 48) hx hb d_Writer_putMarkOfBase_19 (by decide) ?_
      obtain ⟨v8, a9, hf, h⟩ := bi2_x h
      refine clVv (D := (dC, dI)) (n := 1) (As := [.int (48 : Int32)]) ⟨hx, hb, hml, hown, ht⟩ (c_Page_put l dC dI X h_this_page h_this_page_row c_this_page_row H.size v_page_length a_page_row (48 : Int32) (v8, a9) hf) (gV q_242 q_243 q_244 q_245 q_246) (by decide +kernel) ⟨rfl, rfl, Nat.le_of_ble_eq_true rfl, Nat.le_of_ble_eq_true rfl⟩ hK hP hD hS hA hX [1, 2] [0] [0] rfl (wr := [(h_this, .inr (6, [.ref h_this_page, .ref g_this_exact, .ref g_this_digits, .int v_count, .int v_letter, .int v_flags, .int v_width, .int v_precision]))]) rfl (by decide) (by decide) (by decide) rfl (va_recv hK hP (ci := 5) (q0 := 1) rfl rfl) rfl hl.1 rfl (lv_room (Nat.le_of_ble_eq_true rfl)) d_Writer_putMarkOfBase_21 ⟨Nat.zero_le _, Nat.zero_le _⟩ (fun u9 H locs h9 hP hD hS => ?_)
      cases h9
      have hP : va_P (dC, dI) classes (WS_Writer_putMarkOfBase g_this_exact g_this_digits h_this h_this_page h_this_page_row c_this_page_row v_count v_letter v_flags v_width v_precision v8 a9) H := hP.sub [0, 1, 2] rfl
      have hD : va_D A (WS_Writer_putMarkOfBase g_this_exact g_this_digits h_this h_this_page h_this_page_row c_this_page_row v_count v_letter v_flags v_width v_precision v8 a9) := hD.sub [0, 1, 2] (by decide) rfl
      refine lv_aload_n hx hb d_Writer_putMarkOfBase_24 rfl (lv_at hl 0 rfl) ?_
      refine va_get (D := (dC, dI)) (ci := 6) (v := .ref h_this_page) (C := R_Writer) (T := F_Writer) (N := 8) hx hb ht i_Writer hown hK hP 0 rfl rfl 0 (by decide) (ht _ q_241) (fun _ h9 => h9) rfl d_Writer_putMarkOfBase_25 ?_
      refine lv_aload_n hx hb d_Writer_putMarkOfBase_28 rfl (lv_at hl 0 rfl) ?_
      refine va_get (D := (dC, dI)) (ci := 6) (v := .int v_letter) (C := R_Writer) (T := F_Writer) (N := 8) hx hb ht i_Writer hown hK hP 0 rfl rfl 4 (by decide) (ht _ q_230) (fun _ h9 => h9) rfl d_Writer_putMarkOfBase_29 ?_
      obtain ⟨v10, a11, hf, h⟩ := bi2_x h
      refine clVv (D := (dC, dI)) (n := 1) (As := [.int v_letter]) ⟨hx, hb, hml, hown, ht⟩ (c_Page_put l dC dI X h_this_page h_this_page_row c_this_page_row H.size v8 a9 v_letter (v10, a11) hf) (gV q_242 q_243 q_244 q_245 q_246) (by decide +kernel) ⟨rfl, rfl, Nat.le_of_ble_eq_true rfl, Nat.le_of_ble_eq_true rfl⟩ hK hP hD hS hA hX [1, 2] [0] [0] rfl (wr := [(h_this, .inr (6, [.ref h_this_page, .ref g_this_exact, .ref g_this_digits, .int v_count, .int v_letter, .int v_flags, .int v_width, .int v_precision]))]) rfl (by decide) (by decide) (by decide) rfl (va_recv hK hP (ci := 5) (q0 := 1) rfl rfl) rfl hl.1 rfl (lv_room (Nat.le_of_ble_eq_true rfl)) d_Writer_putMarkOfBase_32 ⟨Nat.zero_le _, Nat.zero_le _⟩ (fun u9 H locs h9 hP hD hS => ?_)
      cases h9
      have hP : va_P (dC, dI) classes (WS_Writer_putMarkOfBase g_this_exact g_this_digits h_this h_this_page h_this_page_row c_this_page_row v_count v_letter v_flags v_width v_precision v10 a11) H := hP.sub [0, 1, 2] rfl
      have hD : va_D A (WS_Writer_putMarkOfBase g_this_exact g_this_digits h_this h_this_page h_this_page_row c_this_page_row v_count v_letter v_flags v_width v_precision v10 a11) := hD.sub [0, 1, 2] (by decide) rfl
      refine lv_goto (tgt := 60) hx hb d_Writer_putMarkOfBase_35 (by decide) ?_
      exact W.vret hx hb hr (fun t ht9 hW => ⟨⟨(v10, a11), rfl, h, by rw [ht9]; exact hP, va_K.moved hW.alike hK, hD⟩, hS.F ht9⟩) hS.2.2 d_Writer_putMarkOfBase_60 hlk
set_option maxHeartbeats 4000000 in
set_option maxRecDepth 100000 in
theorem c_Writer_putMarkOfBase (l : Launch) (dC : Nat → ClassId) (dI : Nat → Nat → Nat) (X : SXT) (g_this_exact : Nat) (g_this_digits : Nat) (h_this : Nat) (h_this_page : Nat) (h_this_page_row : Nat) (c_this_page_row : ClassId) (sz : Nat) (v_count : Int32) (v_letter : Int32) (v_flags : Int32) (v_width : Int32) (v_precision : Int32) (v_page_length : Int32) (a_page_row : (Nat → Int32)) (p1 : Int64) (p3 : Int32) (res : Int32 × (Nat → Int32)) (hf : f_Writer_putMarkOfBase v_letter v_page_length a_page_row p1 p3 = some res) : Met l y_Writer_putMarkOfBase (.code y_Writer_putMarkOfBase b_Writer_putMarkOfBase 4 none :: w0) ({ frames := 1, cells := 0, slots := 0, locals := 21 }) (va_Pc [.ref h_this, .long p1, .int p3] (gP (dC, dI) (WS_Writer_putMarkOfBase g_this_exact g_this_digits h_this h_this_page h_this_page_row c_this_page_row v_count v_letter v_flags v_width v_precision v_page_length a_page_row) [(c_this_page_row, .byte)] sz X)) (va_Qv (fun (u : Int32 × (Nat → Int32)) => some u = some res) (gB (dC, dI) [(c_this_page_row, .byte)] (va_A (WS_Writer_putMarkOfBase g_this_exact g_this_digits h_this h_this_page h_this_page_row c_this_page_row v_count v_letter v_flags v_width v_precision v_page_length a_page_row) sz) (fun (u : Int32 × (Nat → Int32)) => (WS_Writer_putMarkOfBase g_this_exact g_this_digits h_this h_this_page h_this_page_row c_this_page_row v_count v_letter v_flags v_width v_precision u.1 u.2))) (va_A (WS_Writer_putMarkOfBase g_this_exact g_this_digits h_this h_this_page h_this_page_row c_this_page_row v_count v_letter v_flags v_width v_precision v_page_length a_page_row) sz)) 0 0 (va_A (WS_Writer_putMarkOfBase g_this_exact g_this_digits h_this h_this_page h_this_page_row c_this_page_row v_count v_letter v_flags v_width v_precision v_page_length a_page_row) sz) := by
  refine Met.ofW (cc := b_Writer_putMarkOfBase) (maxL := 4) (ret := none) (by decide) rfl ?_
  intro p e s m args below meth c s₁ B hml hv
  obtain ⟨rfl, hsz, hP, hK, hD0, hX⟩ := hv
  subst hsz
  have cx : cxx p s m ([.ref h_this, .long p1, .int p3] : List Value).toArray meth c b_Writer_putMarkOfBase 4 none R_Writer := ⟨B.exec, B.bytes, B.returns, hml, findClass_of_methodNamed B.named, fun w9 hw => atoms_spec (ws := .code y_Writer_putMarkOfBase b_Writer_putMarkOfBase 4 none :: w0) B.pre w9 (List.mem_cons_of_mem _ hw), B.notSynchronized⟩
  have hD := hD0.self (sz := s.heap.size)
  generalize hAe : va_A (WS_Writer_putMarkOfBase g_this_exact g_this_digits h_this h_this_page h_this_page_row c_this_page_row v_count v_letter v_flags v_width v_precision v_page_length a_page_row) s.heap.size = A at hD hX ⊢
  have hA : ∀ q : Nat, s.heap.size ≤ q → A q := fun q h => by rw [← hAe]; exact Or.inr h
  have hS : va_S A s.heap s.heap [] := va_S.rf
  have hl := lv_entry ([.ref h_this, .long p1, .int p3]) (n := 4) (Nat.le_of_ble_eq_true rfl)
  rw [lg_entry_eq]
  generalize (lg_sl ([.ref h_this, .long p1, .int p3]) ++ List.replicate (4 - (lg_sl ([.ref h_this, .long p1, .int p3])).length) Slot.unset).toArray = ls at hl ⊢
  have hl : lv_has ls 4 [(0, .ref h_this), (1, .long p1), (3, .int p3)] := hl
  exact s_Writer_putMarkOfBase_e cx hK hA hX v_letter v_page_length a_page_row p1 p3 s.heap [] ls hP hD hS hl hf
abbrev WS_Page_length (g_this_row : Nat) (h_this : Nat)  (v_length : Int32) : va_W := [(h_this, .inr (5, [.ref g_this_row, .int v_length]))]
def f_Page_length (v_length : Int32) : Option (Int32) :=
  some v_length
set_option maxHeartbeats 4000000 in
set_option maxRecDepth 100000 in
theorem s_Page_length_e {p : Program} {l : Launch} {e : Env} {s : State} {m : MethodId} {args : Array Value} {below : List Frame} {meth : Method} {c : Code} {dC : Nat → ClassId} {dI : Nat → Nat → Nat} {A : Nat → Prop} {X : SXT} {g_this_row : Nat} {h_this : Nat} {res : Int32} (cx : cxx p s m args meth c b_Page_length 1 (some .int) R_Page) (hK : va_K (dC, dI) classes [] s) (hA : ∀ q, s.heap.size ≤ q → A q) (hX : SX X A s s.heap) : ∀ (v_length : Int32) (H : Heap) (locs : List Loc) (ls : Array Slot), va_P (dC, dI) classes (WS_Page_length g_this_row h_this v_length) H → va_D A (WS_Page_length g_this_row h_this v_length) → va_S A s.heap H locs → lv_has ls 1 [(0, .ref h_this)] → f_Page_length v_length = some res → W p l e ({ frames := 0, cells := 0, slots := 0, locals := 0 }) s m args below meth c H locs 0 0 (MQ below (va_Qi (fun (r : Int32) (_ : Unit) => some r = some res) (gB (dC, dI) [] A (fun (u : Unit) => (WS_Page_length g_this_row h_this v_length))) A) args s 0 0 A) (F0 m 0 ls []) := by
  intro v_length H locs ls hP hD hS hl h
  obtain ⟨hx, hb, hr, hml, hown, ht, hlk⟩ := id cx
  refine lv_aload_n hx hb d_Page_length_0 rfl (lv_at hl 0 rfl) ?_
  refine va_get (D := (dC, dI)) (ci := 5) (v := .int v_length) (C := R_Page) (T := F_Page) (N := 2) hx hb ht i_Page hown hK hP 0 rfl rfl 1 (by decide) (ht _ q_234) (fun _ h9 => h9) rfl d_Page_length_1 ?_
  exact W.iret (v := v_length) hx hb hr (fun t ht9 hW => ⟨⟨v_length, (), rfl, h, by rw [ht9]; exact hP, va_K.moved hW.alike hK, hD⟩, hS.F ht9⟩) hS.2.2 d_Page_length_4 hlk
set_option maxHeartbeats 4000000 in
set_option maxRecDepth 100000 in
theorem c_Page_length (l : Launch) (dC : Nat → ClassId) (dI : Nat → Nat → Nat) (X : SXT) (g_this_row : Nat) (h_this : Nat) (sz : Nat) (v_length : Int32) (res : Int32) (hf : f_Page_length v_length = some res) : Met l y_Page_length (.code y_Page_length b_Page_length 1 (some .int) :: w0) ({ frames := 0, cells := 0, slots := 0, locals := 0 }) (va_Pc [.ref h_this] (gP (dC, dI) (WS_Page_length g_this_row h_this v_length) [] sz X)) (va_Qi (fun (r : Int32) (_ : Unit) => some r = some res) (gB (dC, dI) [] (va_A (WS_Page_length g_this_row h_this v_length) sz) (fun (u : Unit) => (WS_Page_length g_this_row h_this v_length))) (va_A (WS_Page_length g_this_row h_this v_length) sz)) 0 0 (va_A (WS_Page_length g_this_row h_this v_length) sz) := by
  refine Met.ofW (cc := b_Page_length) (maxL := 1) (ret := (some .int)) (by decide) rfl ?_
  intro p e s m args below meth c s₁ B hml hv
  obtain ⟨rfl, hsz, hP, hK, hD0, hX⟩ := hv
  subst hsz
  have cx : cxx p s m ([.ref h_this] : List Value).toArray meth c b_Page_length 1 (some .int) R_Page := ⟨B.exec, B.bytes, B.returns, hml, findClass_of_methodNamed B.named, fun w9 hw => atoms_spec (ws := .code y_Page_length b_Page_length 1 (some .int) :: w0) B.pre w9 (List.mem_cons_of_mem _ hw), B.notSynchronized⟩
  have hD := hD0.self (sz := s.heap.size)
  generalize hAe : va_A (WS_Page_length g_this_row h_this v_length) s.heap.size = A at hD hX ⊢
  have hA : ∀ q : Nat, s.heap.size ≤ q → A q := fun q h => by rw [← hAe]; exact Or.inr h
  have hS : va_S A s.heap s.heap [] := va_S.rf
  have hl := lv_entry ([.ref h_this]) (n := 1) (Nat.le_of_ble_eq_true rfl)
  rw [lg_entry_eq]
  generalize (lg_sl ([.ref h_this]) ++ List.replicate (1 - (lg_sl ([.ref h_this])).length) Slot.unset).toArray = ls at hl ⊢
  have hl : lv_has ls 1 [(0, .ref h_this)] := hl
  exact s_Page_length_e cx hK hA hX v_length s.heap [] ls hP hD hS hl hf
abbrev WS_Page_putMany (h_this : Nat) (h_this_row : Nat) (c_this_row : ClassId) (v_length : Int32) (a_row : (Nat → Int32)) : va_W := [(h_this, .inr (5, [.ref h_this_row, .int v_length])), (h_this_row, .inl (c_this_row, 420, .inl a_row))]
def f_Page_putMany_2b (k2 : Int32 → (Nat → Int32) → Int32 → Int32 → Int32 → Option (Int32 × (Nat → Int32))) (v_length : Int32) (a_row : (Nat → Int32)) (y1 : Int32) (y2 : Int32) (y3 : Int32) : Option (Int32 × (Nat → Int32)) :=
  if y2 ≤ y3 then
    some (v_length, a_row)
  else
    bi2 (f_Page_put v_length a_row y1) fun v2 a3 =>
    bd (y3 + (1 : Int32)) fun x4 =>
    k2 v2 a3 y1 y2 x4
def f_Page_putMany_2 : Nat → Int32 → (Nat → Int32) → Int32 → Int32 → Int32 → Option (Int32 × (Nat → Int32))
  | 0 => fun _ _ _ _ _ => none
  | n + 1 => fun v_length a_row y1 y2 y3 => f_Page_putMany_2b (f_Page_putMany_2 n) v_length a_row y1 y2 y3
def f_Page_putMany (v_length : Int32) (a_row : (Nat → Int32)) (p1 : Int32) (p2 : Int32) : Option (Int32 × (Nat → Int32)) :=
  f_Page_putMany_2 fu v_length a_row p1 p2 (0 : Int32)
set_option maxHeartbeats 4000000 in
set_option maxRecDepth 100000 in
theorem s_Page_putMany_2b {p : Program} {l : Launch} {e : Env} {s : State} {m : MethodId} {args : Array Value} {below : List Frame} {meth : Method} {c : Code} {dC : Nat → ClassId} {dI : Nat → Nat → Nat} {A : Nat → Prop} {X : SXT} {h_this : Nat} {h_this_row : Nat} {c_this_row : ClassId} {res : Int32 × (Nat → Int32)} {k2 : Int32 → (Nat → Int32) → Int32 → Int32 → Int32 → Option (Int32 × (Nat → Int32))} (cx : cxx p s m args meth c b_Page_putMany 4 none R_Page) (hK : va_K (dC, dI) classes [(c_this_row, .byte)] s) (hA : ∀ q, s.heap.size ≤ q → A q) (hX : SX X A s s.heap) (hk2 : ∀ (v_length : Int32) (a_row : (Nat → Int32)) (y1 : Int32) (y2 : Int32) (y3 : Int32) (H : Heap) (locs : List Loc) (ls : Array Slot), va_P (dC, dI) classes (WS_Page_putMany h_this h_this_row c_this_row v_length a_row) H → va_D A (WS_Page_putMany h_this h_this_row c_this_row v_length a_row) → va_S A s.heap H locs → lv_has ls 4 [(0, .ref h_this), (1, .int y1), (2, .int y2), (3, .int y3)] → k2 v_length a_row y1 y2 y3 = some res → W p l e ({ frames := 1, cells := 0, slots := 0, locals := 21 }) s m args below meth c H locs 0 0 (MQ below (va_Qv (fun (u : Int32 × (Nat → Int32)) => some u = some res) (gB (dC, dI) [(c_this_row, .byte)] A (fun (u : Int32 × (Nat → Int32)) => (WS_Page_putMany h_this h_this_row c_this_row u.1 u.2))) A) args s 0 0 A) (F0 m 2 ls [])) : ∀ (v_length : Int32) (a_row : (Nat → Int32)) (y1 : Int32) (y2 : Int32) (y3 : Int32) (H : Heap) (locs : List Loc) (ls : Array Slot), va_P (dC, dI) classes (WS_Page_putMany h_this h_this_row c_this_row v_length a_row) H → va_D A (WS_Page_putMany h_this h_this_row c_this_row v_length a_row) → va_S A s.heap H locs → lv_has ls 4 [(0, .ref h_this), (1, .int y1), (2, .int y2), (3, .int y3)] → f_Page_putMany_2b k2 v_length a_row y1 y2 y3 = some res → W p l e ({ frames := 1, cells := 0, slots := 0, locals := 21 }) s m args below meth c H locs 0 0 (MQ below (va_Qv (fun (u : Int32 × (Nat → Int32)) => some u = some res) (gB (dC, dI) [(c_this_row, .byte)] A (fun (u : Int32 × (Nat → Int32)) => (WS_Page_putMany h_this h_this_row c_this_row u.1 u.2))) A) args s 0 0 A) (F0 m 2 ls []) := by
  intro v_length a_row y1 y2 y3 H locs ls hP hD hS hl h
  obtain ⟨hx, hb, hr, hml, hown, ht, hlk⟩ := id cx
  refine lv_iload_n hx hb d_Page_putMany_2 rfl (lv_at hl 3 rfl) ?_
  refine lv_iload_n hx hb d_Page_putMany_3 rfl (lv_at hl 2 rfl) ?_
  refine lv_icmp_ge (tgt := 18) hx hb d_Page_putMany_4 (by decide) (fun c1 => ?_) (fun c1 => ?_)
  · have h := if_t c1 h
    exact W.vret hx hb hr (fun t ht9 hW => ⟨⟨(v_length, a_row), rfl, h, by rw [ht9]; exact hP, va_K.moved hW.alike hK, hD⟩, hS.F ht9⟩) hS.2.2 d_Page_putMany_18 hlk
  · have h := if_f c1 h
    refine lv_aload_n hx hb d_Page_putMany_7 rfl (lv_at hl 0 rfl) ?_
    refine lv_iload_n hx hb d_Page_putMany_8 rfl (lv_at hl 1 rfl) ?_
    obtain ⟨v2, a3, hf, h⟩ := bi2_x h
    refine clVv (D := (dC, dI)) (n := 1) (As := [.int y1]) ⟨hx, hb, hml, hown, ht⟩ (c_Page_put l dC dI X h_this h_this_row c_this_row H.size v_length a_row y1 (v2, a3) hf) (gV q_291 q_243 q_244 q_245 q_246) (by decide +kernel) ⟨rfl, rfl, Nat.le_of_ble_eq_true rfl, Nat.le_of_ble_eq_true rfl⟩ hK hP hD hS hA hX [0, 1] [] [0] rfl (wr := []) rfl (by decide) (by decide) (by decide) rfl (va_recv hK hP (ci := 5) (q0 := 0) rfl rfl) rfl hl.1 rfl (lv_room (Nat.le_of_ble_eq_true rfl)) d_Page_putMany_9 ⟨Nat.zero_le _, Nat.zero_le _⟩ (fun u9 H locs h9 hP hD hS => ?_)
    cases h9
    have hP : va_P (dC, dI) classes (WS_Page_putMany h_this h_this_row c_this_row v2 a3) H := hP.sub [0, 1] rfl
    have hD : va_D A (WS_Page_putMany h_this h_this_row c_this_row v2 a3) := hD.sub [0, 1] (by decide) rfl
    obtain ⟨x4, e_x4⟩ : ∃ y : Int32, y = y3 + (1 : Int32) := ⟨_, rfl⟩
    refine lv_iinc (v := x4) (lv' := [(3, .int x4), (0, .ref h_this), (1, .int y1), (2, .int y2)]) hx hb d_Page_putMany_12 hl (k := 3) rfl (by rw [e_x4]; rfl) (by decide) rfl (fun ls hl => ?_)
    have h := bd_g e_x4 h
    refine lv_goto (tgt := 2) hx hb d_Page_putMany_15 (by decide) ?_
    exact hk2 v2 a3 y1 y2 x4 H locs ls hP hD hS (lv_sub hl [1, 2, 3, 0] rfl) h
set_option maxHeartbeats 4000000 in
set_option maxRecDepth 100000 in
theorem s_Page_putMany_2 {p : Program} {l : Launch} {e : Env} {s : State} {m : MethodId} {args : Array Value} {below : List Frame} {meth : Method} {c : Code} {dC : Nat → ClassId} {dI : Nat → Nat → Nat} {A : Nat → Prop} {X : SXT} {h_this : Nat} {h_this_row : Nat} {c_this_row : ClassId} {res : Int32 × (Nat → Int32)}  (cx : cxx p s m args meth c b_Page_putMany 4 none R_Page) (hK : va_K (dC, dI) classes [(c_this_row, .byte)] s) (hA : ∀ q, s.heap.size ≤ q → A q) (hX : SX X A s s.heap)  : ∀ n : Nat, ∀ (v_length : Int32) (a_row : (Nat → Int32)) (y1 : Int32) (y2 : Int32) (y3 : Int32) (H : Heap) (locs : List Loc) (ls : Array Slot), va_P (dC, dI) classes (WS_Page_putMany h_this h_this_row c_this_row v_length a_row) H → va_D A (WS_Page_putMany h_this h_this_row c_this_row v_length a_row) → va_S A s.heap H locs → lv_has ls 4 [(0, .ref h_this), (1, .int y1), (2, .int y2), (3, .int y3)] → f_Page_putMany_2 n v_length a_row y1 y2 y3 = some res → W p l e ({ frames := 1, cells := 0, slots := 0, locals := 21 }) s m args below meth c H locs 0 0 (MQ below (va_Qv (fun (u : Int32 × (Nat → Int32)) => some u = some res) (gB (dC, dI) [(c_this_row, .byte)] A (fun (u : Int32 × (Nat → Int32)) => (WS_Page_putMany h_this h_this_row c_this_row u.1 u.2))) A) args s 0 0 A) (F0 m 2 ls []) := by
  intro n
  induction n with
  | zero =>
    intro v_length a_row y1 y2 y3 H locs ls hP hD hS hl h
    have h9 : (none : Option (Int32 × (Nat → Int32))) = some res := h
    cases h9
  | succ n ih =>
    intro v_length a_row y1 y2 y3 H locs ls hP hD hS hl h
    exact s_Page_putMany_2b cx hK hA hX ih v_length a_row y1 y2 y3 H locs ls hP hD hS hl h
set_option maxHeartbeats 4000000 in
set_option maxRecDepth 100000 in
theorem s_Page_putMany_e {p : Program} {l : Launch} {e : Env} {s : State} {m : MethodId} {args : Array Value} {below : List Frame} {meth : Method} {c : Code} {dC : Nat → ClassId} {dI : Nat → Nat → Nat} {A : Nat → Prop} {X : SXT} {h_this : Nat} {h_this_row : Nat} {c_this_row : ClassId} {res : Int32 × (Nat → Int32)} (cx : cxx p s m args meth c b_Page_putMany 4 none R_Page) (hK : va_K (dC, dI) classes [(c_this_row, .byte)] s) (hA : ∀ q, s.heap.size ≤ q → A q) (hX : SX X A s s.heap) : ∀ (v_length : Int32) (a_row : (Nat → Int32)) (p1 : Int32) (p2 : Int32) (H : Heap) (locs : List Loc) (ls : Array Slot), va_P (dC, dI) classes (WS_Page_putMany h_this h_this_row c_this_row v_length a_row) H → va_D A (WS_Page_putMany h_this h_this_row c_this_row v_length a_row) → va_S A s.heap H locs → lv_has ls 4 [(0, .ref h_this), (1, .int p1), (2, .int p2)] → f_Page_putMany v_length a_row p1 p2 = some res → W p l e ({ frames := 1, cells := 0, slots := 0, locals := 21 }) s m args below meth c H locs 0 0 (MQ below (va_Qv (fun (u : Int32 × (Nat → Int32)) => some u = some res) (gB (dC, dI) [(c_this_row, .byte)] A (fun (u : Int32 × (Nat → Int32)) => (WS_Page_putMany h_this h_this_row c_this_row u.1 u.2))) A) args s 0 0 A) (F0 m 0 ls []) := by
  intro v_length a_row p1 p2 H locs ls hP hD hS hl h
  obtain ⟨hx, hb, hr, hml, hown, ht, hlk⟩ := id cx
  refine lv_iconst (v := 0) hx hb d_Page_putMany_0 (by decide) ?_
  refine lv_istore_n (lv' := [(3, .int (0 : Int32)), (0, .ref h_this), (1, .int p1), (2, .int p2)]) hx hb d_Page_putMany_1 rfl hl (by decide) rfl (fun ls hl => ?_)
  exact s_Page_putMany_2 cx hK hA hX fu v_length a_row p1 p2 (0 : Int32) H locs ls hP hD hS (lv_sub hl [1, 2, 3, 0] rfl) h
set_option maxHeartbeats 4000000 in
set_option maxRecDepth 100000 in
theorem c_Page_putMany (l : Launch) (dC : Nat → ClassId) (dI : Nat → Nat → Nat) (X : SXT) (h_this : Nat) (h_this_row : Nat) (c_this_row : ClassId) (sz : Nat) (v_length : Int32) (a_row : (Nat → Int32)) (p1 : Int32) (p2 : Int32) (res : Int32 × (Nat → Int32)) (hf : f_Page_putMany v_length a_row p1 p2 = some res) : Met l y_Page_putMany (.code y_Page_putMany b_Page_putMany 4 none :: w0) ({ frames := 1, cells := 0, slots := 0, locals := 21 }) (va_Pc [.ref h_this, .int p1, .int p2] (gP (dC, dI) (WS_Page_putMany h_this h_this_row c_this_row v_length a_row) [(c_this_row, .byte)] sz X)) (va_Qv (fun (u : Int32 × (Nat → Int32)) => some u = some res) (gB (dC, dI) [(c_this_row, .byte)] (va_A (WS_Page_putMany h_this h_this_row c_this_row v_length a_row) sz) (fun (u : Int32 × (Nat → Int32)) => (WS_Page_putMany h_this h_this_row c_this_row u.1 u.2))) (va_A (WS_Page_putMany h_this h_this_row c_this_row v_length a_row) sz)) 0 0 (va_A (WS_Page_putMany h_this h_this_row c_this_row v_length a_row) sz) := by
  refine Met.ofW (cc := b_Page_putMany) (maxL := 4) (ret := none) (by decide) rfl ?_
  intro p e s m args below meth c s₁ B hml hv
  obtain ⟨rfl, hsz, hP, hK, hD0, hX⟩ := hv
  subst hsz
  have cx : cxx p s m ([.ref h_this, .int p1, .int p2] : List Value).toArray meth c b_Page_putMany 4 none R_Page := ⟨B.exec, B.bytes, B.returns, hml, findClass_of_methodNamed B.named, fun w9 hw => atoms_spec (ws := .code y_Page_putMany b_Page_putMany 4 none :: w0) B.pre w9 (List.mem_cons_of_mem _ hw), B.notSynchronized⟩
  have hD := hD0.self (sz := s.heap.size)
  generalize hAe : va_A (WS_Page_putMany h_this h_this_row c_this_row v_length a_row) s.heap.size = A at hD hX ⊢
  have hA : ∀ q : Nat, s.heap.size ≤ q → A q := fun q h => by rw [← hAe]; exact Or.inr h
  have hS : va_S A s.heap s.heap [] := va_S.rf
  have hl := lv_entry ([.ref h_this, .int p1, .int p2]) (n := 4) (Nat.le_of_ble_eq_true rfl)
  rw [lg_entry_eq]
  generalize (lg_sl ([.ref h_this, .int p1, .int p2]) ++ List.replicate (4 - (lg_sl ([.ref h_this, .int p1, .int p2])).length) Slot.unset).toArray = ls at hl ⊢
  have hl : lv_has ls 4 [(0, .ref h_this), (1, .int p1), (2, .int p2)] := hl
  exact s_Page_putMany_e cx hK hA hX v_length a_row p1 p2 s.heap [] ls hP hD hS hl hf
abbrev WS_Writer_putFoundDigits (g_this_exact : Nat) (h_this : Nat) (h_this_digits : Nat) (h_this_page : Nat) (h_this_page_row : Nat) (c_this_digits : ClassId) (c_this_page_row : ClassId) (v_count : Int32) (v_letter : Int32) (v_flags : Int32) (v_width : Int32) (v_precision : Int32) (a_digits : (Nat → Int32)) (v_page_length : Int32) (a_page_row : (Nat → Int32)) : va_W := [(h_this, .inr (6, [.ref h_this_page, .ref g_this_exact, .ref h_this_digits, .int v_count, .int v_letter, .int v_flags, .int v_width, .int v_precision])), (h_this_digits, .inl (c_this_digits, 22, .inl a_digits)), (h_this_page, .inr (5, [.ref h_this_page_row, .int v_page_length])), (h_this_page_row, .inl (c_this_page_row, 420, .inl a_page_row))]
def f_Writer_putFoundDigits_15b (k15 : Int32 → (Nat → Int32) → Int32 → (Nat → Int32) → Int32 → Option (Int32 × (Nat → Int32))) (v_count : Int32) (a_digits : (Nat → Int32)) (v_page_length : Int32) (a_page_row : (Nat → Int32)) (y1 : Int32) : Option (Int32 × (Nat → Int32)) :=
  if y1 < 0 then
    some (v_page_length, a_page_row)
  else
    ck (gin y1 22) <|
    bi2 (f_Page_put v_page_length a_page_row (a_digits y1.toNatClampNeg)) fun v3 a4 =>
    bd (y1 + (-1 : Int32)) fun x5 =>
    k15 v_count a_digits v3 a4 x5
def f_Writer_putFoundDigits_15 : Nat → Int32 → (Nat → Int32) → Int32 → (Nat → Int32) → Int32 → Option (Int32 × (Nat → Int32))
  | 0 => fun _ _ _ _ _ => none
  | n + 1 => fun v_count a_digits v_page_length a_page_row y1 => f_Writer_putFoundDigits_15b (f_Writer_putFoundDigits_15 n) v_count a_digits v_page_length a_page_row y1
def f_Writer_putFoundDigits (v_count : Int32) (a_digits : (Nat → Int32)) (v_page_length : Int32) (a_page_row : (Nat → Int32)) : Option (Int32 × (Nat → Int32)) :=
  bd ((imn v_count (22 : Int32)) - (1 : Int32)) fun x6 =>
  f_Writer_putFoundDigits_15 fu v_count a_digits v_page_length a_page_row x6
set_option maxHeartbeats 4000000 in
set_option maxRecDepth 100000 in
theorem s_Writer_putFoundDigits_15b {p : Program} {l : Launch} {e : Env} {s : State} {m : MethodId} {args : Array Value} {below : List Frame} {meth : Method} {c : Code} {dC : Nat → ClassId} {dI : Nat → Nat → Nat} {A : Nat → Prop} {X : SXT} {g_this_exact : Nat} {h_this : Nat} {h_this_digits : Nat} {h_this_page : Nat} {h_this_page_row : Nat} {c_this_digits : ClassId} {c_this_page_row : ClassId} {v_letter : Int32} {v_flags : Int32} {v_width : Int32} {v_precision : Int32} {res : Int32 × (Nat → Int32)} {k15 : Int32 → (Nat → Int32) → Int32 → (Nat → Int32) → Int32 → Option (Int32 × (Nat → Int32))} (cx : cxx p s m args meth c b_Writer_putFoundDigits 2 none R_Writer) (hK : va_K (dC, dI) classes [(c_this_digits, .byte), (c_this_page_row, .byte)] s) (hA : ∀ q, s.heap.size ≤ q → A q) (hX : SX X A s s.heap) (hk15 : ∀ (v_count : Int32) (a_digits : (Nat → Int32)) (v_page_length : Int32) (a_page_row : (Nat → Int32)) (y1 : Int32) (H : Heap) (locs : List Loc) (ls : Array Slot), va_P (dC, dI) classes (WS_Writer_putFoundDigits g_this_exact h_this h_this_digits h_this_page h_this_page_row c_this_digits c_this_page_row v_count v_letter v_flags v_width v_precision a_digits v_page_length a_page_row) H → va_D A (WS_Writer_putFoundDigits g_this_exact h_this h_this_digits h_this_page h_this_page_row c_this_digits c_this_page_row v_count v_letter v_flags v_width v_precision a_digits v_page_length a_page_row) → va_S A s.heap H locs → lv_has ls 2 [(0, .ref h_this), (1, .int y1)] → k15 v_count a_digits v_page_length a_page_row y1 = some res → W p l e ({ frames := 1, cells := 0, slots := 0, locals := 21 }) s m args below meth c H locs 0 0 (MQ below (va_Qv (fun (u : Int32 × (Nat → Int32)) => some u = some res) (gB (dC, dI) [(c_this_digits, .byte), (c_this_page_row, .byte)] A (fun (u : Int32 × (Nat → Int32)) => (WS_Writer_putFoundDigits g_this_exact h_this h_this_digits h_this_page h_this_page_row c_this_digits c_this_page_row v_count v_letter v_flags v_width v_precision a_digits u.1 u.2))) A) args s 0 0 A) (F0 m 15 ls [])) : ∀ (v_count : Int32) (a_digits : (Nat → Int32)) (v_page_length : Int32) (a_page_row : (Nat → Int32)) (y1 : Int32) (H : Heap) (locs : List Loc) (ls : Array Slot), va_P (dC, dI) classes (WS_Writer_putFoundDigits g_this_exact h_this h_this_digits h_this_page h_this_page_row c_this_digits c_this_page_row v_count v_letter v_flags v_width v_precision a_digits v_page_length a_page_row) H → va_D A (WS_Writer_putFoundDigits g_this_exact h_this h_this_digits h_this_page h_this_page_row c_this_digits c_this_page_row v_count v_letter v_flags v_width v_precision a_digits v_page_length a_page_row) → va_S A s.heap H locs → lv_has ls 2 [(0, .ref h_this), (1, .int y1)] → f_Writer_putFoundDigits_15b k15 v_count a_digits v_page_length a_page_row y1 = some res → W p l e ({ frames := 1, cells := 0, slots := 0, locals := 21 }) s m args below meth c H locs 0 0 (MQ below (va_Qv (fun (u : Int32 × (Nat → Int32)) => some u = some res) (gB (dC, dI) [(c_this_digits, .byte), (c_this_page_row, .byte)] A (fun (u : Int32 × (Nat → Int32)) => (WS_Writer_putFoundDigits g_this_exact h_this h_this_digits h_this_page h_this_page_row c_this_digits c_this_page_row v_count v_letter v_flags v_width v_precision a_digits u.1 u.2))) A) args s 0 0 A) (F0 m 15 ls []) := by
  intro v_count a_digits v_page_length a_page_row y1 H locs ls hP hD hS hl h
  obtain ⟨hx, hb, hr, hml, hown, ht, hlk⟩ := id cx
  refine lv_iload_n hx hb d_Writer_putFoundDigits_15 rfl (lv_at hl 1 rfl) ?_
  refine lv_if_lt (tgt := 38) hx hb d_Writer_putFoundDigits_16 (by decide) (fun c1 => ?_) (fun c1 => ?_)
  · have h := if_t c1 h
    exact W.vret hx hb hr (fun t ht9 hW => ⟨⟨(v_page_length, a_page_row), rfl, h, by rw [ht9]; exact hP, va_K.moved hW.alike hK, hD⟩, hS.F ht9⟩) hS.2.2 d_Writer_putFoundDigits_38 hlk
  · have h := if_f c1 h
    refine lv_aload_n hx hb d_Writer_putFoundDigits_19 rfl (lv_at hl 0 rfl) ?_
    refine va_get (D := (dC, dI)) (ci := 6) (v := .ref h_this_page) (C := R_Writer) (T := F_Writer) (N := 8) hx hb ht i_Writer hown hK hP 0 rfl rfl 0 (by decide) (ht _ q_241) (fun _ h9 => h9) rfl d_Writer_putFoundDigits_20 ?_
    refine lv_aload_n hx hb d_Writer_putFoundDigits_23 rfl (lv_at hl 0 rfl) ?_
    refine va_get (D := (dC, dI)) (ci := 6) (v := .ref h_this_digits) (C := R_Writer) (T := F_Writer) (N := 8) hx hb ht i_Writer hown hK hP 0 rfl rfl 2 (by decide) (ht _ q_249) (fun _ h9 => h9) rfl d_Writer_putFoundDigits_24 ?_
    refine lv_iload_n hx hb d_Writer_putFoundDigits_27 rfl (lv_at hl 1 rfl) ?_
    obtain ⟨c2, h⟩ := ck_x h
    refine va_bald (D := (dC, dI)) hx hb hK hP 1 0 rfl rfl c2 d_Writer_putFoundDigits_28 ?_
    obtain ⟨v3, a4, hf, h⟩ := bi2_x h
    refine clVv (D := (dC, dI)) (n := 1) (As := [.int (a_digits y1.toNatClampNeg)]) ⟨hx, hb, hml, hown, ht⟩ (c_Page_put l dC dI X h_this_page h_this_page_row c_this_page_row H.size v_page_length a_page_row (a_digits y1.toNatClampNeg) (v3, a4) hf) (gV q_242 q_243 q_244 q_245 q_246) (by decide +kernel) ⟨rfl, rfl, Nat.le_of_ble_eq_true rfl, Nat.le_of_ble_eq_true rfl⟩ hK hP hD hS hA hX [2, 3] [0, 1] [1] rfl (wr := [(h_this, .inr (6, [.ref h_this_page, .ref g_this_exact, .ref h_this_digits, .int v_count, .int v_letter, .int v_flags, .int v_width, .int v_precision])), (h_this_digits, .inl (c_this_digits, 22, .inl a_digits))]) rfl (by decide) (by decide) (by decide) rfl (va_recv hK hP (ci := 5) (q0 := 2) rfl rfl) rfl hl.1 rfl (lv_room (Nat.le_of_ble_eq_true rfl)) d_Writer_putFoundDigits_29 ⟨Nat.zero_le _, Nat.zero_le _⟩ (fun u9 H locs h9 hP hD hS => ?_)
    cases h9
    have hP : va_P (dC, dI) classes (WS_Writer_putFoundDigits g_this_exact h_this h_this_digits h_this_page h_this_page_row c_this_digits c_this_page_row v_count v_letter v_flags v_width v_precision a_digits v3 a4) H := hP.sub [0, 1, 2, 3] rfl
    have hD : va_D A (WS_Writer_putFoundDigits g_this_exact h_this h_this_digits h_this_page h_this_page_row c_this_digits c_this_page_row v_count v_letter v_flags v_width v_precision a_digits v3 a4) := hD.sub [0, 1, 2, 3] (by decide) rfl
    obtain ⟨x5, e_x5⟩ : ∃ y : Int32, y = y1 + (-1 : Int32) := ⟨_, rfl⟩
    refine lv_iinc (v := x5) (lv' := [(1, .int x5), (0, .ref h_this)]) hx hb d_Writer_putFoundDigits_32 hl (k := 1) rfl (by rw [e_x5]; rfl) (by decide) rfl (fun ls hl => ?_)
    have h := bd_g e_x5 h
    refine lv_goto (tgt := 15) hx hb d_Writer_putFoundDigits_35 (by decide) ?_
    exact hk15 v_count a_digits v3 a4 x5 H locs ls hP hD hS (lv_sub hl [1, 0] rfl) h
set_option maxHeartbeats 4000000 in
set_option maxRecDepth 100000 in
theorem s_Writer_putFoundDigits_15 {p : Program} {l : Launch} {e : Env} {s : State} {m : MethodId} {args : Array Value} {below : List Frame} {meth : Method} {c : Code} {dC : Nat → ClassId} {dI : Nat → Nat → Nat} {A : Nat → Prop} {X : SXT} {g_this_exact : Nat} {h_this : Nat} {h_this_digits : Nat} {h_this_page : Nat} {h_this_page_row : Nat} {c_this_digits : ClassId} {c_this_page_row : ClassId} {v_letter : Int32} {v_flags : Int32} {v_width : Int32} {v_precision : Int32} {res : Int32 × (Nat → Int32)}  (cx : cxx p s m args meth c b_Writer_putFoundDigits 2 none R_Writer) (hK : va_K (dC, dI) classes [(c_this_digits, .byte), (c_this_page_row, .byte)] s) (hA : ∀ q, s.heap.size ≤ q → A q) (hX : SX X A s s.heap)  : ∀ n : Nat, ∀ (v_count : Int32) (a_digits : (Nat → Int32)) (v_page_length : Int32) (a_page_row : (Nat → Int32)) (y1 : Int32) (H : Heap) (locs : List Loc) (ls : Array Slot), va_P (dC, dI) classes (WS_Writer_putFoundDigits g_this_exact h_this h_this_digits h_this_page h_this_page_row c_this_digits c_this_page_row v_count v_letter v_flags v_width v_precision a_digits v_page_length a_page_row) H → va_D A (WS_Writer_putFoundDigits g_this_exact h_this h_this_digits h_this_page h_this_page_row c_this_digits c_this_page_row v_count v_letter v_flags v_width v_precision a_digits v_page_length a_page_row) → va_S A s.heap H locs → lv_has ls 2 [(0, .ref h_this), (1, .int y1)] → f_Writer_putFoundDigits_15 n v_count a_digits v_page_length a_page_row y1 = some res → W p l e ({ frames := 1, cells := 0, slots := 0, locals := 21 }) s m args below meth c H locs 0 0 (MQ below (va_Qv (fun (u : Int32 × (Nat → Int32)) => some u = some res) (gB (dC, dI) [(c_this_digits, .byte), (c_this_page_row, .byte)] A (fun (u : Int32 × (Nat → Int32)) => (WS_Writer_putFoundDigits g_this_exact h_this h_this_digits h_this_page h_this_page_row c_this_digits c_this_page_row v_count v_letter v_flags v_width v_precision a_digits u.1 u.2))) A) args s 0 0 A) (F0 m 15 ls []) := by
  intro n
  induction n with
  | zero =>
    intro v_count a_digits v_page_length a_page_row y1 H locs ls hP hD hS hl h
    have h9 : (none : Option (Int32 × (Nat → Int32))) = some res := h
    cases h9
  | succ n ih =>
    intro v_count a_digits v_page_length a_page_row y1 H locs ls hP hD hS hl h
    exact s_Writer_putFoundDigits_15b cx hK hA hX ih v_count a_digits v_page_length a_page_row y1 H locs ls hP hD hS hl h
set_option maxHeartbeats 4000000 in
set_option maxRecDepth 100000 in
theorem s_Writer_putFoundDigits_e {p : Program} {l : Launch} {e : Env} {s : State} {m : MethodId} {args : Array Value} {below : List Frame} {meth : Method} {c : Code} {dC : Nat → ClassId} {dI : Nat → Nat → Nat} {A : Nat → Prop} {X : SXT} {g_this_exact : Nat} {h_this : Nat} {h_this_digits : Nat} {h_this_page : Nat} {h_this_page_row : Nat} {c_this_digits : ClassId} {c_this_page_row : ClassId} {v_letter : Int32} {v_flags : Int32} {v_width : Int32} {v_precision : Int32} {res : Int32 × (Nat → Int32)} (cx : cxx p s m args meth c b_Writer_putFoundDigits 2 none R_Writer) (hK : va_K (dC, dI) classes [(c_this_digits, .byte), (c_this_page_row, .byte)] s) (hA : ∀ q, s.heap.size ≤ q → A q) (hX : SX X A s s.heap) : ∀ (v_count : Int32) (a_digits : (Nat → Int32)) (v_page_length : Int32) (a_page_row : (Nat → Int32)) (H : Heap) (locs : List Loc) (ls : Array Slot), va_P (dC, dI) classes (WS_Writer_putFoundDigits g_this_exact h_this h_this_digits h_this_page h_this_page_row c_this_digits c_this_page_row v_count v_letter v_flags v_width v_precision a_digits v_page_length a_page_row) H → va_D A (WS_Writer_putFoundDigits g_this_exact h_this h_this_digits h_this_page h_this_page_row c_this_digits c_this_page_row v_count v_letter v_flags v_width v_precision a_digits v_page_length a_page_row) → va_S A s.heap H locs → lv_has ls 2 [(0, .ref h_this)] → f_Writer_putFoundDigits v_count a_digits v_page_length a_page_row = some res → W p l e ({ frames := 1, cells := 0, slots := 0, locals := 21 }) s m args below meth c H locs 0 0 (MQ below (va_Qv (fun (u : Int32 × (Nat → Int32)) => some u = some res) (gB (dC, dI) [(c_this_digits, .byte), (c_this_page_row, .byte)] A (fun (u : Int32 × (Nat → Int32)) => (WS_Writer_putFoundDigits g_this_exact h_this h_this_digits h_this_page h_this_page_row c_this_digits c_this_page_row v_count v_letter v_flags v_width v_precision a_digits u.1 u.2))) A) args s 0 0 A) (F0 m 0 ls []) := by
  intro v_count a_digits v_page_length a_page_row H locs ls hP hD hS hl h
  obtain ⟨hx, hb, hr, hml, hown, ht, hlk⟩ := id cx
  refine lv_aload_n hx hb d_Writer_putFoundDigits_0 rfl (lv_at hl 0 rfl) ?_
  refine va_get (D := (dC, dI)) (ci := 6) (v := .int v_count) (C := R_Writer) (T := F_Writer) (N := 8) hx hb ht i_Writer hown hK hP 0 rfl rfl 3 (by decide) (ht _ q_247) (fun _ h9 => h9) rfl d_Writer_putFoundDigits_1 ?_
  refine lv_aload_n hx hb d_Writer_putFoundDigits_4 rfl (lv_at hl 0 rfl) ?_
  refine va_get (D := (dC, dI)) (ci := 6) (v := .ref h_this_digits) (C := R_Writer) (T := F_Writer) (N := 8) hx hb ht i_Writer hown hK hP 0 rfl rfl 2 (by decide) (ht _ q_249) (fun _ h9 => h9) rfl d_Writer_putFoundDigits_5 ?_
  refine va_alen (D := (dC, dI)) (v := 22) hx hb hK hP 1 0 rfl rfl rfl d_Writer_putFoundDigits_8 ?_
  refine va_mmin hx hb (hml.trans hl.1.symm) hown (ht _ q_292) (ht _ q_39) (ht _ q_40) (ht _ q_41) (Nat.le_of_ble_eq_true rfl) (Nat.le_of_ble_eq_true rfl) (Nat.zero_le _) (Nat.zero_le _) d_Writer_putFoundDigits_9 ?_
  refine W.eq (g2 := F0 m 12 ls (.int (imn v_count (22 : Int32)) :: [])) rfl ?_
  refine lv_iconst (v := 1) hx hb d_Writer_putFoundDigits_12 (by decide) ?_
  refine lv_isub hx hb d_Writer_putFoundDigits_13 ?_
  refine lv_topi (fun x6 e_x6 => ?_)
  have h := bd_g e_x6 h
  refine lv_istore_n (lv' := [(1, .int x6), (0, .ref h_this)]) hx hb d_Writer_putFoundDigits_14 rfl hl (by decide) rfl (fun ls hl => ?_)
  exact s_Writer_putFoundDigits_15 cx hK hA hX fu v_count a_digits v_page_length a_page_row x6 H locs ls hP hD hS (lv_sub hl [1, 0] rfl) h
set_option maxHeartbeats 4000000 in
set_option maxRecDepth 100000 in
theorem c_Writer_putFoundDigits (l : Launch) (dC : Nat → ClassId) (dI : Nat → Nat → Nat) (X : SXT) (g_this_exact : Nat) (h_this : Nat) (h_this_digits : Nat) (h_this_page : Nat) (h_this_page_row : Nat) (c_this_digits : ClassId) (c_this_page_row : ClassId) (sz : Nat) (v_count : Int32) (v_letter : Int32) (v_flags : Int32) (v_width : Int32) (v_precision : Int32) (a_digits : (Nat → Int32)) (v_page_length : Int32) (a_page_row : (Nat → Int32)) (res : Int32 × (Nat → Int32)) (hf : f_Writer_putFoundDigits v_count a_digits v_page_length a_page_row = some res) : Met l y_Writer_putFoundDigits (.code y_Writer_putFoundDigits b_Writer_putFoundDigits 2 none :: w0) ({ frames := 1, cells := 0, slots := 0, locals := 21 }) (va_Pc [.ref h_this] (gP (dC, dI) (WS_Writer_putFoundDigits g_this_exact h_this h_this_digits h_this_page h_this_page_row c_this_digits c_this_page_row v_count v_letter v_flags v_width v_precision a_digits v_page_length a_page_row) [(c_this_digits, .byte), (c_this_page_row, .byte)] sz X)) (va_Qv (fun (u : Int32 × (Nat → Int32)) => some u = some res) (gB (dC, dI) [(c_this_digits, .byte), (c_this_page_row, .byte)] (va_A (WS_Writer_putFoundDigits g_this_exact h_this h_this_digits h_this_page h_this_page_row c_this_digits c_this_page_row v_count v_letter v_flags v_width v_precision a_digits v_page_length a_page_row) sz) (fun (u : Int32 × (Nat → Int32)) => (WS_Writer_putFoundDigits g_this_exact h_this h_this_digits h_this_page h_this_page_row c_this_digits c_this_page_row v_count v_letter v_flags v_width v_precision a_digits u.1 u.2))) (va_A (WS_Writer_putFoundDigits g_this_exact h_this h_this_digits h_this_page h_this_page_row c_this_digits c_this_page_row v_count v_letter v_flags v_width v_precision a_digits v_page_length a_page_row) sz)) 0 0 (va_A (WS_Writer_putFoundDigits g_this_exact h_this h_this_digits h_this_page h_this_page_row c_this_digits c_this_page_row v_count v_letter v_flags v_width v_precision a_digits v_page_length a_page_row) sz) := by
  refine Met.ofW (cc := b_Writer_putFoundDigits) (maxL := 2) (ret := none) (by decide) rfl ?_
  intro p e s m args below meth c s₁ B hml hv
  obtain ⟨rfl, hsz, hP, hK, hD0, hX⟩ := hv
  subst hsz
  have cx : cxx p s m ([.ref h_this] : List Value).toArray meth c b_Writer_putFoundDigits 2 none R_Writer := ⟨B.exec, B.bytes, B.returns, hml, findClass_of_methodNamed B.named, fun w9 hw => atoms_spec (ws := .code y_Writer_putFoundDigits b_Writer_putFoundDigits 2 none :: w0) B.pre w9 (List.mem_cons_of_mem _ hw), B.notSynchronized⟩
  have hD := hD0.self (sz := s.heap.size)
  generalize hAe : va_A (WS_Writer_putFoundDigits g_this_exact h_this h_this_digits h_this_page h_this_page_row c_this_digits c_this_page_row v_count v_letter v_flags v_width v_precision a_digits v_page_length a_page_row) s.heap.size = A at hD hX ⊢
  have hA : ∀ q : Nat, s.heap.size ≤ q → A q := fun q h => by rw [← hAe]; exact Or.inr h
  have hS : va_S A s.heap s.heap [] := va_S.rf
  have hl := lv_entry ([.ref h_this]) (n := 2) (Nat.le_of_ble_eq_true rfl)
  rw [lg_entry_eq]
  generalize (lg_sl ([.ref h_this]) ++ List.replicate (2 - (lg_sl ([.ref h_this])).length) Slot.unset).toArray = ls at hl ⊢
  have hl : lv_has ls 2 [(0, .ref h_this)] := hl
  exact s_Writer_putFoundDigits_e cx hK hA hX v_count a_digits v_page_length a_page_row s.heap [] ls hP hD hS hl hf
abbrev WS_Page_at (h_this : Nat) (h_this_row : Nat) (c_this_row : ClassId) (v_length : Int32) (a_row : (Nat → Int32)) : va_W := [(h_this, .inr (5, [.ref h_this_row, .int v_length])), (h_this_row, .inl (c_this_row, 420, .inl a_row))]
def f_Page_at_21 (v_length : Int32) (a_row : (Nat → Int32)) : Option (Int32) :=
  some (-1 : Int32)
def f_Page_at (v_length : Int32) (a_row : (Nat → Int32)) (p1 : Int32) : Option (Int32) :=
  if p1 < 0 then
    f_Page_at_21 v_length a_row
  else
    if v_length ≤ p1 then
      f_Page_at_21 v_length a_row
    else
      if p1 < (420 : Int32) then
        ck (gin p1 420) <|
        some (a_row p1.toNatClampNeg)
      else
        f_Page_at_21 v_length a_row
set_option maxHeartbeats 4000000 in
set_option maxRecDepth 100000 in
theorem s_Page_at_21 {p : Program} {l : Launch} {e : Env} {s : State} {m : MethodId} {args : Array Value} {below : List Frame} {meth : Method} {c : Code} {dC : Nat → ClassId} {dI : Nat → Nat → Nat} {A : Nat → Prop} {X : SXT} {h_this : Nat} {h_this_row : Nat} {c_this_row : ClassId} {res : Int32}  (cx : cxx p s m args meth c b_Page_at 2 (some .int) R_Page) (hK : va_K (dC, dI) classes [(c_this_row, .byte)] s) (hA : ∀ q, s.heap.size ≤ q → A q) (hX : SX X A s s.heap)  : ∀ (v_length : Int32) (a_row : (Nat → Int32)) (H : Heap) (locs : List Loc) (ls : Array Slot), va_P (dC, dI) classes (WS_Page_at h_this h_this_row c_this_row v_length a_row) H → va_D A (WS_Page_at h_this h_this_row c_this_row v_length a_row) → va_S A s.heap H locs → lv_has ls 2 [(0, .ref h_this)] → f_Page_at_21 v_length a_row = some res → W p l e ({ frames := 0, cells := 0, slots := 0, locals := 0 }) s m args below meth c H locs 0 0 (MQ below (va_Qi (fun (r : Int32) (_ : Unit) => some r = some res) (gB (dC, dI) [(c_this_row, .byte)] A (fun (u : Unit) => (WS_Page_at h_this h_this_row c_this_row v_length a_row))) A) args s 0 0 A) (F0 m 21 ls []) := by
  intro v_length a_row H locs ls hP hD hS hl h
  obtain ⟨hx, hb, hr, hml, hown, ht, hlk⟩ := id cx
  refine lv_iconst (v := -1) hx hb d_Page_at_21 (by decide) ?_
  refine lv_goto (tgt := 31) hx hb d_Page_at_22 (by decide) ?_
  exact W.iret (v := (-1 : Int32)) hx hb hr (fun t ht9 hW => ⟨⟨(-1 : Int32), (), rfl, h, by rw [ht9]; exact hP, va_K.moved hW.alike hK, hD⟩, hS.F ht9⟩) hS.2.2 d_Page_at_31 hlk
set_option maxHeartbeats 4000000 in
set_option maxRecDepth 100000 in
theorem s_Page_at_e {p : Program} {l : Launch} {e : Env} {s : State} {m : MethodId} {args : Array Value} {below : List Frame} {meth : Method} {c : Code} {dC : Nat → ClassId} {dI : Nat → Nat → Nat} {A : Nat → Prop} {X : SXT} {h_this : Nat} {h_this_row : Nat} {c_this_row : ClassId} {res : Int32} (cx : cxx p s m args meth c b_Page_at 2 (some .int) R_Page) (hK : va_K (dC, dI) classes [(c_this_row, .byte)] s) (hA : ∀ q, s.heap.size ≤ q → A q) (hX : SX X A s s.heap) : ∀ (v_length : Int32) (a_row : (Nat → Int32)) (p1 : Int32) (H : Heap) (locs : List Loc) (ls : Array Slot), va_P (dC, dI) classes (WS_Page_at h_this h_this_row c_this_row v_length a_row) H → va_D A (WS_Page_at h_this h_this_row c_this_row v_length a_row) → va_S A s.heap H locs → lv_has ls 2 [(0, .ref h_this), (1, .int p1)] → f_Page_at v_length a_row p1 = some res → W p l e ({ frames := 0, cells := 0, slots := 0, locals := 0 }) s m args below meth c H locs 0 0 (MQ below (va_Qi (fun (r : Int32) (_ : Unit) => some r = some res) (gB (dC, dI) [(c_this_row, .byte)] A (fun (u : Unit) => (WS_Page_at h_this h_this_row c_this_row v_length a_row))) A) args s 0 0 A) (F0 m 0 ls []) := by
  intro v_length a_row p1 H locs ls hP hD hS hl h
  obtain ⟨hx, hb, hr, hml, hown, ht, hlk⟩ := id cx
  refine lv_iload_n hx hb d_Page_at_0 rfl (lv_at hl 1 rfl) ?_
  refine lv_if_lt (tgt := 21) hx hb d_Page_at_1 (by decide) (fun c1 => ?_) (fun c1 => ?_)
  · have h := if_t c1 h
    exact s_Page_at_21 cx hK hA hX v_length a_row H locs ls hP hD hS (lv_sub hl [0] rfl) h
  · have h := if_f c1 h
    refine lv_iload_n hx hb d_Page_at_4 rfl (lv_at hl 1 rfl) ?_
    refine lv_aload_n hx hb d_Page_at_5 rfl (lv_at hl 0 rfl) ?_
    refine va_get (D := (dC, dI)) (ci := 5) (v := .int v_length) (C := R_Page) (T := F_Page) (N := 2) hx hb ht i_Page hown hK hP 0 rfl rfl 1 (by decide) (ht _ q_234) (fun _ h9 => h9) rfl d_Page_at_6 ?_
    refine lv_icmp_ge (tgt := 21) hx hb d_Page_at_9 (by decide) (fun c2 => ?_) (fun c2 => ?_)
    · have h := if_t c2 h
      exact s_Page_at_21 cx hK hA hX v_length a_row H locs ls hP hD hS (lv_sub hl [0] rfl) h
    · have h := if_f c2 h
      refine lv_iload_n hx hb d_Page_at_12 rfl (lv_at hl 1 rfl) ?_
      refine lv_aload_n hx hb d_Page_at_13 rfl (lv_at hl 0 rfl) ?_
      refine va_get (D := (dC, dI)) (ci := 5) (v := .ref h_this_row) (C := R_Page) (T := F_Page) (N := 2) hx hb ht i_Page hown hK hP 0 rfl rfl 0 (by decide) (ht _ q_235) (fun _ h9 => h9) rfl d_Page_at_14 ?_
      refine va_alen (D := (dC, dI)) (v := 420) hx hb hK hP 1 0 rfl rfl rfl d_Page_at_17 ?_
      refine lv_icmp_lt (tgt := 25) hx hb d_Page_at_18 (by decide) (fun c3 => ?_) (fun c3 => ?_)
      · have h := if_t c3 h
        refine lv_aload_n hx hb d_Page_at_25 rfl (lv_at hl 0 rfl) ?_
        refine va_get (D := (dC, dI)) (ci := 5) (v := .ref h_this_row) (C := R_Page) (T := F_Page) (N := 2) hx hb ht i_Page hown hK hP 0 rfl rfl 0 (by decide) (ht _ q_235) (fun _ h9 => h9) rfl d_Page_at_26 ?_
        refine lv_iload_n hx hb d_Page_at_29 rfl (lv_at hl 1 rfl) ?_
        obtain ⟨c4, h⟩ := ck_x h
        refine va_bald (D := (dC, dI)) hx hb hK hP 1 0 rfl rfl c4 d_Page_at_30 ?_
        exact W.iret (v := (a_row p1.toNatClampNeg)) hx hb hr (fun t ht9 hW => ⟨⟨(a_row p1.toNatClampNeg), (), rfl, h, by rw [ht9]; exact hP, va_K.moved hW.alike hK, hD⟩, hS.F ht9⟩) hS.2.2 d_Page_at_31 hlk
      · have h := if_f c3 h
        exact s_Page_at_21 cx hK hA hX v_length a_row H locs ls hP hD hS (lv_sub hl [0] rfl) h
set_option maxHeartbeats 4000000 in
set_option maxRecDepth 100000 in
theorem c_Page_at (l : Launch) (dC : Nat → ClassId) (dI : Nat → Nat → Nat) (X : SXT) (h_this : Nat) (h_this_row : Nat) (c_this_row : ClassId) (sz : Nat) (v_length : Int32) (a_row : (Nat → Int32)) (p1 : Int32) (res : Int32) (hf : f_Page_at v_length a_row p1 = some res) : Met l y_Page_at (.code y_Page_at b_Page_at 2 (some .int) :: w0) ({ frames := 0, cells := 0, slots := 0, locals := 0 }) (va_Pc [.ref h_this, .int p1] (gP (dC, dI) (WS_Page_at h_this h_this_row c_this_row v_length a_row) [(c_this_row, .byte)] sz X)) (va_Qi (fun (r : Int32) (_ : Unit) => some r = some res) (gB (dC, dI) [(c_this_row, .byte)] (va_A (WS_Page_at h_this h_this_row c_this_row v_length a_row) sz) (fun (u : Unit) => (WS_Page_at h_this h_this_row c_this_row v_length a_row))) (va_A (WS_Page_at h_this h_this_row c_this_row v_length a_row) sz)) 0 0 (va_A (WS_Page_at h_this h_this_row c_this_row v_length a_row) sz) := by
  refine Met.ofW (cc := b_Page_at) (maxL := 2) (ret := (some .int)) (by decide) rfl ?_
  intro p e s m args below meth c s₁ B hml hv
  obtain ⟨rfl, hsz, hP, hK, hD0, hX⟩ := hv
  subst hsz
  have cx : cxx p s m ([.ref h_this, .int p1] : List Value).toArray meth c b_Page_at 2 (some .int) R_Page := ⟨B.exec, B.bytes, B.returns, hml, findClass_of_methodNamed B.named, fun w9 hw => atoms_spec (ws := .code y_Page_at b_Page_at 2 (some .int) :: w0) B.pre w9 (List.mem_cons_of_mem _ hw), B.notSynchronized⟩
  have hD := hD0.self (sz := s.heap.size)
  generalize hAe : va_A (WS_Page_at h_this h_this_row c_this_row v_length a_row) s.heap.size = A at hD hX ⊢
  have hA : ∀ q : Nat, s.heap.size ≤ q → A q := fun q h => by rw [← hAe]; exact Or.inr h
  have hS : va_S A s.heap s.heap [] := va_S.rf
  have hl := lv_entry ([.ref h_this, .int p1]) (n := 2) (Nat.le_of_ble_eq_true rfl)
  rw [lg_entry_eq]
  generalize (lg_sl ([.ref h_this, .int p1]) ++ List.replicate (2 - (lg_sl ([.ref h_this, .int p1])).length) Slot.unset).toArray = ls at hl ⊢
  have hl : lv_has ls 2 [(0, .ref h_this), (1, .int p1)] := hl
  exact s_Page_at_e cx hK hA hX v_length a_row p1 s.heap [] ls hP hD hS hl hf
abbrev WS_Page_insert (h_this : Nat) (h_this_row : Nat) (c_this_row : ClassId) (v_length : Int32) (a_row : (Nat → Int32)) : va_W := [(h_this, .inr (5, [.ref h_this_row, .int v_length])), (h_this_row, .inl (c_this_row, 420, .inl a_row))]
def f_Page_insert_76 (k20 : Int32 → (Nat → Int32) → Int32 → Int32 → Int32 → Int32 → Int32 → Option (Int32 × (Nat → Int32))) (v_length : Int32) (a_row : (Nat → Int32)) (y1 : Int32) (y2 : Int32) (y3 : Int32) (y4 : Int32) (y5 : Int32) (z1 : Int32) (z2 : Int32) : Option (Int32 × (Nat → Int32)) :=
  ck (gin z1 420) <|
  bd (upd a_row z1.toNatClampNeg ((z2.toInt8.toInt32).toInt8.toInt32)) fun a2 =>
  bd (y5 + (-1 : Int32)) fun x3 =>
  k20 v_length a2 y1 y2 y3 y4 x3
def f_Page_insert_75 (k20 : Int32 → (Nat → Int32) → Int32 → Int32 → Int32 → Int32 → Int32 → Option (Int32 × (Nat → Int32))) (v_length : Int32) (a_row : (Nat → Int32)) (y1 : Int32) (y2 : Int32) (y3 : Int32) (y4 : Int32) (y5 : Int32) (z1 : Int32) : Option (Int32 × (Nat → Int32)) :=
  f_Page_insert_76 k20 v_length a_row y1 y2 y3 y4 y5 z1 y2
def f_Page_insert_20b (k20 : Int32 → (Nat → Int32) → Int32 → Int32 → Int32 → Int32 → Int32 → Option (Int32 × (Nat → Int32))) (v_length : Int32) (a_row : (Nat → Int32)) (y1 : Int32) (y2 : Int32) (y3 : Int32) (y4 : Int32) (y5 : Int32) : Option (Int32 × (Nat → Int32)) :=
  if y5 < y1 then
    some (v_length, a_row)
  else
    if y5 < 0 then
      some (v_length, a_row)
    else
      if (420 : Int32) ≤ y5 then
        some (v_length, a_row)
      else
        bd (y5 - y3) fun x7 =>
        if x7 < y1 then
          f_Page_insert_75 k20 v_length a_row y1 y2 y3 y4 y5 y5
        else
          if y4 ≤ x7 then
            f_Page_insert_75 k20 v_length a_row y1 y2 y3 y4 y5 y5
          else
            bi1 (f_Page_at v_length a_row x7) fun r10 =>
            f_Page_insert_76 k20 v_length a_row y1 y2 y3 y4 y5 y5 r10
def f_Page_insert_20 : Nat → Int32 → (Nat → Int32) → Int32 → Int32 → Int32 → Int32 → Int32 → Option (Int32 × (Nat → Int32))
  | 0 => fun _ _ _ _ _ _ _ => none
  | n + 1 => fun v_length a_row y1 y2 y3 y4 y5 => f_Page_insert_20b (f_Page_insert_20 n) v_length a_row y1 y2 y3 y4 y5
def f_Page_insert (v_length : Int32) (a_row : (Nat → Int32)) (p1 : Int32) (p2 : Int32) (p3 : Int32) : Option (Int32 × (Nat → Int32)) :=
  bi2 (f_Page_putMany v_length a_row p2 p3) fun v11 a12 =>
  bd (v11 - (1 : Int32)) fun x13 =>
  f_Page_insert_20 fu v11 a12 p1 p2 p3 v_length x13
set_option maxHeartbeats 4000000 in
set_option maxRecDepth 100000 in
theorem s_Page_insert_76 {p : Program} {l : Launch} {e : Env} {s : State} {m : MethodId} {args : Array Value} {below : List Frame} {meth : Method} {c : Code} {dC : Nat → ClassId} {dI : Nat → Nat → Nat} {A : Nat → Prop} {X : SXT} {h_this : Nat} {h_this_row : Nat} {c_this_row : ClassId} {res : Int32 × (Nat → Int32)} {k20 : Int32 → (Nat → Int32) → Int32 → Int32 → Int32 → Int32 → Int32 → Option (Int32 × (Nat → Int32))} (cx : cxx p s m args meth c b_Page_insert 7 none R_Page) (hK : va_K (dC, dI) classes [(c_this_row, .byte)] s) (hA : ∀ q, s.heap.size ≤ q → A q) (hX : SX X A s s.heap) (hk20 : ∀ (v_length : Int32) (a_row : (Nat → Int32)) (y1 : Int32) (y2 : Int32) (y3 : Int32) (y4 : Int32) (y5 : Int32) (H : Heap) (locs : List Loc) (ls : Array Slot), va_P (dC, dI) classes (WS_Page_insert h_this h_this_row c_this_row v_length a_row) H → va_D A (WS_Page_insert h_this h_this_row c_this_row v_length a_row) → va_S A s.heap H locs → lv_has ls 7 [(0, .ref h_this), (1, .int y1), (2, .int y2), (3, .int y3), (4, .int y4), (5, .int y5)] → k20 v_length a_row y1 y2 y3 y4 y5 = some res → W p l e ({ frames := 2, cells := 0, slots := 0, locals := 44 }) s m args below meth c H locs 0 0 (MQ below (va_Qv (fun (u : Int32 × (Nat → Int32)) => some u = some res) (gB (dC, dI) [(c_this_row, .byte)] A (fun (u : Int32 × (Nat → Int32)) => (WS_Page_insert h_this h_this_row c_this_row u.1 u.2))) A) args s 0 0 A) (F0 m 20 ls [])) : ∀ (v_length : Int32) (a_row : (Nat → Int32)) (y1 : Int32) (y2 : Int32) (y3 : Int32) (y4 : Int32) (y5 : Int32) (z1 : Int32) (z2 : Int32) (H : Heap) (locs : List Loc) (ls : Array Slot), va_P (dC, dI) classes (WS_Page_insert h_this h_this_row c_this_row v_length a_row) H → va_D A (WS_Page_insert h_this h_this_row c_this_row v_length a_row) → va_S A s.heap H locs → lv_has ls 7 [(0, .ref h_this), (1, .int y1), (2, .int y2), (3, .int y3), (4, .int y4), (5, .int y5)] → f_Page_insert_76 k20 v_length a_row y1 y2 y3 y4 y5 z1 z2 = some res → W p l e ({ frames := 2, cells := 0, slots := 0, locals := 44 }) s m args below meth c H locs 0 0 (MQ below (va_Qv (fun (u : Int32 × (Nat → Int32)) => some u = some res) (gB (dC, dI) [(c_this_row, .byte)] A (fun (u : Int32 × (Nat → Int32)) => (WS_Page_insert h_this h_this_row c_this_row u.1 u.2))) A) args s 0 0 A) (F0 m 76 ls [.int z2, .int z1, .ref h_this_row]) := by
  intro v_length a_row y1 y2 y3 y4 y5 z1 z2 H locs ls hP hD hS hl h
  obtain ⟨hx, hb, hr, hml, hown, ht, hlk⟩ := id cx
  refine lv_i2b (v := z2.toInt8.toInt32) hx hb d_Page_insert_76 rfl ?_
  obtain ⟨c1, h⟩ := ck_x h
  refine va_bast (D := (dC, dI)) hx hb hK hP hD hS 1 0 rfl rfl c1 d_Page_insert_77 (fun H locs hP hD hS => ?_)
  obtain ⟨a2, e_a2⟩ : ∃ y, y = upd a_row z1.toNatClampNeg ((z2.toInt8.toInt32).toInt8.toInt32) := ⟨_, rfl⟩
  have hP : va_P (dC, dI) classes (WS_Page_insert h_this h_this_row c_this_row v_length a2) H := by rw [e_a2]; exact hP
  have hD : va_D A (WS_Page_insert h_this h_this_row c_this_row v_length a2) := by rw [e_a2]; exact hD
  have h := bd_g e_a2 h
  obtain ⟨x3, e_x3⟩ : ∃ y : Int32, y = y5 + (-1 : Int32) := ⟨_, rfl⟩
  refine lv_iinc (v := x3) (lv' := [(5, .int x3), (0, .ref h_this), (1, .int y1), (2, .int y2), (3, .int y3), (4, .int y4)]) hx hb d_Page_insert_78 hl (k := 5) rfl (by rw [e_x3]; rfl) (by decide) rfl (fun ls hl => ?_)
  have h := bd_g e_x3 h
  refine lv_goto (tgt := 20) hx hb d_Page_insert_81 (by decide) ?_
  exact hk20 v_length a2 y1 y2 y3 y4 x3 H locs ls hP hD hS (lv_sub hl [1, 2, 3, 4, 5, 0] rfl) h
set_option maxHeartbeats 4000000 in
set_option maxRecDepth 100000 in
theorem s_Page_insert_75 {p : Program} {l : Launch} {e : Env} {s : State} {m : MethodId} {args : Array Value} {below : List Frame} {meth : Method} {c : Code} {dC : Nat → ClassId} {dI : Nat → Nat → Nat} {A : Nat → Prop} {X : SXT} {h_this : Nat} {h_this_row : Nat} {c_this_row : ClassId} {res : Int32 × (Nat → Int32)} {k20 : Int32 → (Nat → Int32) → Int32 → Int32 → Int32 → Int32 → Int32 → Option (Int32 × (Nat → Int32))} (cx : cxx p s m args meth c b_Page_insert 7 none R_Page) (hK : va_K (dC, dI) classes [(c_this_row, .byte)] s) (hA : ∀ q, s.heap.size ≤ q → A q) (hX : SX X A s s.heap) (hk20 : ∀ (v_length : Int32) (a_row : (Nat → Int32)) (y1 : Int32) (y2 : Int32) (y3 : Int32) (y4 : Int32) (y5 : Int32) (H : Heap) (locs : List Loc) (ls : Array Slot), va_P (dC, dI) classes (WS_Page_insert h_this h_this_row c_this_row v_length a_row) H → va_D A (WS_Page_insert h_this h_this_row c_this_row v_length a_row) → va_S A s.heap H locs → lv_has ls 7 [(0, .ref h_this), (1, .int y1), (2, .int y2), (3, .int y3), (4, .int y4), (5, .int y5)] → k20 v_length a_row y1 y2 y3 y4 y5 = some res → W p l e ({ frames := 2, cells := 0, slots := 0, locals := 44 }) s m args below meth c H locs 0 0 (MQ below (va_Qv (fun (u : Int32 × (Nat → Int32)) => some u = some res) (gB (dC, dI) [(c_this_row, .byte)] A (fun (u : Int32 × (Nat → Int32)) => (WS_Page_insert h_this h_this_row c_this_row u.1 u.2))) A) args s 0 0 A) (F0 m 20 ls [])) : ∀ (v_length : Int32) (a_row : (Nat → Int32)) (y1 : Int32) (y2 : Int32) (y3 : Int32) (y4 : Int32) (y5 : Int32) (z1 : Int32) (H : Heap) (locs : List Loc) (ls : Array Slot), va_P (dC, dI) classes (WS_Page_insert h_this h_this_row c_this_row v_length a_row) H → va_D A (WS_Page_insert h_this h_this_row c_this_row v_length a_row) → va_S A s.heap H locs → lv_has ls 7 [(0, .ref h_this), (1, .int y1), (2, .int y2), (3, .int y3), (4, .int y4), (5, .int y5)] → f_Page_insert_75 k20 v_length a_row y1 y2 y3 y4 y5 z1 = some res → W p l e ({ frames := 2, cells := 0, slots := 0, locals := 44 }) s m args below meth c H locs 0 0 (MQ below (va_Qv (fun (u : Int32 × (Nat → Int32)) => some u = some res) (gB (dC, dI) [(c_this_row, .byte)] A (fun (u : Int32 × (Nat → Int32)) => (WS_Page_insert h_this h_this_row c_this_row u.1 u.2))) A) args s 0 0 A) (F0 m 75 ls [.int z1, .ref h_this_row]) := by
  intro v_length a_row y1 y2 y3 y4 y5 z1 H locs ls hP hD hS hl h
  obtain ⟨hx, hb, hr, hml, hown, ht, hlk⟩ := id cx
  refine lv_iload_n hx hb d_Page_insert_75 rfl (lv_at hl 2 rfl) ?_
  exact s_Page_insert_76 cx hK hA hX hk20 v_length a_row y1 y2 y3 y4 y5 z1 y2 H locs ls hP hD hS (lv_sub hl [0, 1, 2, 3, 4, 5] rfl) h
set_option maxHeartbeats 4000000 in
set_option maxRecDepth 100000 in
theorem s_Page_insert_20b {p : Program} {l : Launch} {e : Env} {s : State} {m : MethodId} {args : Array Value} {below : List Frame} {meth : Method} {c : Code} {dC : Nat → ClassId} {dI : Nat → Nat → Nat} {A : Nat → Prop} {X : SXT} {h_this : Nat} {h_this_row : Nat} {c_this_row : ClassId} {res : Int32 × (Nat → Int32)} {k20 : Int32 → (Nat → Int32) → Int32 → Int32 → Int32 → Int32 → Int32 → Option (Int32 × (Nat → Int32))} (cx : cxx p s m args meth c b_Page_insert 7 none R_Page) (hK : va_K (dC, dI) classes [(c_this_row, .byte)] s) (hA : ∀ q, s.heap.size ≤ q → A q) (hX : SX X A s s.heap) (hk20 : ∀ (v_length : Int32) (a_row : (Nat → Int32)) (y1 : Int32) (y2 : Int32) (y3 : Int32) (y4 : Int32) (y5 : Int32) (H : Heap) (locs : List Loc) (ls : Array Slot), va_P (dC, dI) classes (WS_Page_insert h_this h_this_row c_this_row v_length a_row) H → va_D A (WS_Page_insert h_this h_this_row c_this_row v_length a_row) → va_S A s.heap H locs → lv_has ls 7 [(0, .ref h_this), (1, .int y1), (2, .int y2), (3, .int y3), (4, .int y4), (5, .int y5)] → k20 v_length a_row y1 y2 y3 y4 y5 = some res → W p l e ({ frames := 2, cells := 0, slots := 0, locals := 44 }) s m args below meth c H locs 0 0 (MQ below (va_Qv (fun (u : Int32 × (Nat → Int32)) => some u = some res) (gB (dC, dI) [(c_this_row, .byte)] A (fun (u : Int32 × (Nat → Int32)) => (WS_Page_insert h_this h_this_row c_this_row u.1 u.2))) A) args s 0 0 A) (F0 m 20 ls [])) : ∀ (v_length : Int32) (a_row : (Nat → Int32)) (y1 : Int32) (y2 : Int32) (y3 : Int32) (y4 : Int32) (y5 : Int32) (H : Heap) (locs : List Loc) (ls : Array Slot), va_P (dC, dI) classes (WS_Page_insert h_this h_this_row c_this_row v_length a_row) H → va_D A (WS_Page_insert h_this h_this_row c_this_row v_length a_row) → va_S A s.heap H locs → lv_has ls 7 [(0, .ref h_this), (1, .int y1), (2, .int y2), (3, .int y3), (4, .int y4), (5, .int y5)] → f_Page_insert_20b k20 v_length a_row y1 y2 y3 y4 y5 = some res → W p l e ({ frames := 2, cells := 0, slots := 0, locals := 44 }) s m args below meth c H locs 0 0 (MQ below (va_Qv (fun (u : Int32 × (Nat → Int32)) => some u = some res) (gB (dC, dI) [(c_this_row, .byte)] A (fun (u : Int32 × (Nat → Int32)) => (WS_Page_insert h_this h_this_row c_this_row u.1 u.2))) A) args s 0 0 A) (F0 m 20 ls []) := by
  intro v_length a_row y1 y2 y3 y4 y5 H locs ls hP hD hS hl h
  obtain ⟨hx, hb, hr, hml, hown, ht, hlk⟩ := id cx
  refine lv_iload hx hb d_Page_insert_20 (lv_at hl 5 rfl) ?_
  refine lv_iload_n hx hb d_Page_insert_22 rfl (lv_at hl 1 rfl) ?_
  refine lv_icmp_lt (tgt := 84) hx hb d_Page_insert_23 (by decide) (fun c4 => ?_) (fun c4 => ?_)
  · have h := if_t c4 h
    exact W.vret hx hb hr (fun t ht9 hW => ⟨⟨(v_length, a_row), rfl, h, by rw [ht9]; exact hP, va_K.moved hW.alike hK, hD⟩, hS.F ht9⟩) hS.2.2 d_Page_insert_84 hlk
  · have h := if_f c4 h
    refine lv_iload hx hb d_Page_insert_26 (lv_at hl 5 rfl) ?_
    refine lv_if_lt (tgt := 84) hx hb d_Page_insert_28 (by decide) (fun c5 => ?_) (fun c5 => ?_)
    · have h := if_t c5 h
      exact W.vret hx hb hr (fun t ht9 hW => ⟨⟨(v_length, a_row), rfl, h, by rw [ht9]; exact hP, va_K.moved hW.alike hK, hD⟩, hS.F ht9⟩) hS.2.2 d_Page_insert_84 hlk
    · have h := if_f c5 h
      refine lv_iload hx hb d_Page_insert_31 (lv_at hl 5 rfl) ?_
      refine lv_aload_n hx hb d_Page_insert_33 rfl (lv_at hl 0 rfl) ?_
      refine va_get (D := (dC, dI)) (ci := 5) (v := .ref h_this_row) (C := R_Page) (T := F_Page) (N := 2) hx hb ht i_Page hown hK hP 0 rfl rfl 0 (by decide) (ht _ q_235) (fun _ h9 => h9) rfl d_Page_insert_34 ?_
      refine va_alen (D := (dC, dI)) (v := 420) hx hb hK hP 1 0 rfl rfl rfl d_Page_insert_37 ?_
      refine lv_icmp_ge (tgt := 84) hx hb d_Page_insert_38 (by decide) (fun c6 => ?_) (fun c6 => ?_)
      · have h := if_t c6 h
        exact W.vret hx hb hr (fun t ht9 hW => ⟨⟨(v_length, a_row), rfl, h, by rw [ht9]; exact hP, va_K.moved hW.alike hK, hD⟩, hS.F ht9⟩) hS.2.2 d_Page_insert_84 hlk
      · have h := if_f c6 h
        refine lv_iload hx hb d_Page_insert_41 (lv_at hl 5 rfl) ?_
        refine lv_iload_n hx hb d_Page_insert_43 rfl (lv_at hl 3 rfl) ?_
        refine lv_isub hx hb d_Page_insert_44 ?_
        refine lv_topi (fun x7 e_x7 => ?_)
        have h := bd_g e_x7 h
        refine lv_istore (lv' := [(6, .int x7), (0, .ref h_this), (1, .int y1), (2, .int y2), (3, .int y3), (4, .int y4), (5, .int y5)]) hx hb d_Page_insert_45 hl (by decide) rfl (fun ls hl => ?_)
        refine lv_aload_n hx hb d_Page_insert_47 rfl (lv_at hl 1 rfl) ?_
        refine va_get (D := (dC, dI)) (ci := 5) (v := .ref h_this_row) (C := R_Page) (T := F_Page) (N := 2) hx hb ht i_Page hown hK hP 0 rfl rfl 0 (by decide) (ht _ q_235) (fun _ h9 => h9) rfl d_Page_insert_48 ?_
        refine lv_iload hx hb d_Page_insert_51 (lv_at hl 6 rfl) ?_
        refine lv_iload hx hb d_Page_insert_53 (lv_at hl 0 rfl) ?_
        refine lv_iload_n hx hb d_Page_insert_55 rfl (lv_at hl 2 rfl) ?_
        refine lv_icmp_lt (tgt := 75) hx hb d_Page_insert_56 (by decide) (fun c8 => ?_) (fun c8 => ?_)
        · have h := if_t c8 h
          exact s_Page_insert_75 cx hK hA hX hk20 v_length a_row y1 y2 y3 y4 y5 y5 H locs ls hP hD hS (lv_sub hl [1, 2, 3, 4, 5, 6] rfl) h
        · have h := if_f c8 h
          refine lv_iload hx hb d_Page_insert_59 (lv_at hl 0 rfl) ?_
          refine lv_iload hx hb d_Page_insert_61 (lv_at hl 5 rfl) ?_
          refine lv_icmp_ge (tgt := 75) hx hb d_Page_insert_63 (by decide) (fun c9 => ?_) (fun c9 => ?_)
          · have h := if_t c9 h
            exact s_Page_insert_75 cx hK hA hX hk20 v_length a_row y1 y2 y3 y4 y5 y5 H locs ls hP hD hS (lv_sub hl [1, 2, 3, 4, 5, 6] rfl) h
          · have h := if_f c9 h
            refine lv_aload_n hx hb d_Page_insert_66 rfl (lv_at hl 1 rfl) ?_
            refine lv_iload hx hb d_Page_insert_67 (lv_at hl 0 rfl) ?_
            obtain ⟨r10, hf, h⟩ := bi1_x h
            refine clVi (D := (dC, dI)) (n := 1) (As := [.int x7]) ⟨hx, hb, hml, hown, ht⟩ (c_Page_at l dC dI X h_this h_this_row c_this_row H.size v_length a_row x7 r10 hf) (gV q_293 q_294 q_295 q_245 q_296) (by decide +kernel) ⟨rfl, rfl, Nat.le_of_ble_eq_true rfl, Nat.le_of_ble_eq_true rfl⟩ hK hP hD hS hA hX [0, 1] [] [0] rfl (wr := []) rfl (by decide) (by decide) (by decide) rfl (va_recv hK hP (ci := 5) (q0 := 0) rfl rfl) rfl hl.1 rfl (lv_room (Nat.le_of_ble_eq_true rfl)) d_Page_insert_69 ⟨Nat.zero_le _, Nat.zero_le _⟩ (fun r9 u9 H locs h9 hP hD hS => ?_)
            cases h9
            have hP : va_P (dC, dI) classes (WS_Page_insert h_this h_this_row c_this_row v_length a_row) H := hP.sub [0, 1] rfl
            have hD : va_D A (WS_Page_insert h_this h_this_row c_this_row v_length a_row) := hD.sub [0, 1] (by decide) rfl
            refine lv_goto (tgt := 76) hx hb d_Page_insert_72 (by decide) ?_
            exact s_Page_insert_76 cx hK hA hX hk20 v_length a_row y1 y2 y3 y4 y5 y5 r10 H locs ls hP hD hS (lv_sub hl [1, 2, 3, 4, 5, 6] rfl) h
set_option maxHeartbeats 4000000 in
set_option maxRecDepth 100000 in
theorem s_Page_insert_20 {p : Program} {l : Launch} {e : Env} {s : State} {m : MethodId} {args : Array Value} {below : List Frame} {meth : Method} {c : Code} {dC : Nat → ClassId} {dI : Nat → Nat → Nat} {A : Nat → Prop} {X : SXT} {h_this : Nat} {h_this_row : Nat} {c_this_row : ClassId} {res : Int32 × (Nat → Int32)}  (cx : cxx p s m args meth c b_Page_insert 7 none R_Page) (hK : va_K (dC, dI) classes [(c_this_row, .byte)] s) (hA : ∀ q, s.heap.size ≤ q → A q) (hX : SX X A s s.heap)  : ∀ n : Nat, ∀ (v_length : Int32) (a_row : (Nat → Int32)) (y1 : Int32) (y2 : Int32) (y3 : Int32) (y4 : Int32) (y5 : Int32) (H : Heap) (locs : List Loc) (ls : Array Slot), va_P (dC, dI) classes (WS_Page_insert h_this h_this_row c_this_row v_length a_row) H → va_D A (WS_Page_insert h_this h_this_row c_this_row v_length a_row) → va_S A s.heap H locs → lv_has ls 7 [(0, .ref h_this), (1, .int y1), (2, .int y2), (3, .int y3), (4, .int y4), (5, .int y5)] → f_Page_insert_20 n v_length a_row y1 y2 y3 y4 y5 = some res → W p l e ({ frames := 2, cells := 0, slots := 0, locals := 44 }) s m args below meth c H locs 0 0 (MQ below (va_Qv (fun (u : Int32 × (Nat → Int32)) => some u = some res) (gB (dC, dI) [(c_this_row, .byte)] A (fun (u : Int32 × (Nat → Int32)) => (WS_Page_insert h_this h_this_row c_this_row u.1 u.2))) A) args s 0 0 A) (F0 m 20 ls []) := by
  intro n
  induction n with
  | zero =>
    intro v_length a_row y1 y2 y3 y4 y5 H locs ls hP hD hS hl h
    have h9 : (none : Option (Int32 × (Nat → Int32))) = some res := h
    cases h9
  | succ n ih =>
    intro v_length a_row y1 y2 y3 y4 y5 H locs ls hP hD hS hl h
    exact s_Page_insert_20b cx hK hA hX ih v_length a_row y1 y2 y3 y4 y5 H locs ls hP hD hS hl h
set_option maxHeartbeats 4000000 in
set_option maxRecDepth 100000 in
theorem s_Page_insert_e {p : Program} {l : Launch} {e : Env} {s : State} {m : MethodId} {args : Array Value} {below : List Frame} {meth : Method} {c : Code} {dC : Nat → ClassId} {dI : Nat → Nat → Nat} {A : Nat → Prop} {X : SXT} {h_this : Nat} {h_this_row : Nat} {c_this_row : ClassId} {res : Int32 × (Nat → Int32)} (cx : cxx p s m args meth c b_Page_insert 7 none R_Page) (hK : va_K (dC, dI) classes [(c_this_row, .byte)] s) (hA : ∀ q, s.heap.size ≤ q → A q) (hX : SX X A s s.heap) : ∀ (v_length : Int32) (a_row : (Nat → Int32)) (p1 : Int32) (p2 : Int32) (p3 : Int32) (H : Heap) (locs : List Loc) (ls : Array Slot), va_P (dC, dI) classes (WS_Page_insert h_this h_this_row c_this_row v_length a_row) H → va_D A (WS_Page_insert h_this h_this_row c_this_row v_length a_row) → va_S A s.heap H locs → lv_has ls 7 [(0, .ref h_this), (1, .int p1), (2, .int p2), (3, .int p3)] → f_Page_insert v_length a_row p1 p2 p3 = some res → W p l e ({ frames := 2, cells := 0, slots := 0, locals := 44 }) s m args below meth c H locs 0 0 (MQ below (va_Qv (fun (u : Int32 × (Nat → Int32)) => some u = some res) (gB (dC, dI) [(c_this_row, .byte)] A (fun (u : Int32 × (Nat → Int32)) => (WS_Page_insert h_this h_this_row c_this_row u.1 u.2))) A) args s 0 0 A) (F0 m 0 ls []) := by
  intro v_length a_row p1 p2 p3 H locs ls hP hD hS hl h
  obtain ⟨hx, hb, hr, hml, hown, ht, hlk⟩ := id cx
  refine lv_aload_n hx hb d_Page_insert_0 rfl (lv_at hl 0 rfl) ?_
  refine va_get (D := (dC, dI)) (ci := 5) (v := .int v_length) (C := R_Page) (T := F_Page) (N := 2) hx hb ht i_Page hown hK hP 0 rfl rfl 1 (by decide) (ht _ q_234) (fun _ h9 => h9) rfl d_Page_insert_1 ?_
  refine lv_istore (lv' := [(4, .int v_length), (0, .ref h_this), (1, .int p1), (2, .int p2), (3, .int p3)]) hx hb d_Page_insert_4 hl (by decide) rfl (fun ls hl => ?_)
  refine lv_aload_n hx hb d_Page_insert_6 rfl (lv_at hl 1 rfl) ?_
  refine lv_iload_n hx hb d_Page_insert_7 rfl (lv_at hl 3 rfl) ?_
  refine lv_iload_n hx hb d_Page_insert_8 rfl (lv_at hl 4 rfl) ?_
  obtain ⟨v11, a12, hf, h⟩ := bi2_x h
  refine clVv (D := (dC, dI)) (n := 2) (As := [.int p2, .int p3]) ⟨hx, hb, hml, hown, ht⟩ (c_Page_putMany l dC dI X h_this h_this_row c_this_row H.size v_length a_row p2 p3 (v11, a12) hf) (gV q_297 q_298 q_299 q_245 q_300) (by decide +kernel) ⟨rfl, rfl, Nat.le_of_ble_eq_true rfl, Nat.le_of_ble_eq_true rfl⟩ hK hP hD hS hA hX [0, 1] [] [0] rfl (wr := []) rfl (by decide) (by decide) (by decide) rfl (va_recv hK hP (ci := 5) (q0 := 0) rfl rfl) rfl hl.1 rfl (lv_room (Nat.le_of_ble_eq_true rfl)) d_Page_insert_9 ⟨Nat.zero_le _, Nat.zero_le _⟩ (fun u9 H locs h9 hP hD hS => ?_)
  cases h9
  have hP : va_P (dC, dI) classes (WS_Page_insert h_this h_this_row c_this_row v11 a12) H := hP.sub [0, 1] rfl
  have hD : va_D A (WS_Page_insert h_this h_this_row c_this_row v11 a12) := hD.sub [0, 1] (by decide) rfl
  refine lv_aload_n hx hb d_Page_insert_12 rfl (lv_at hl 1 rfl) ?_
  refine va_get (D := (dC, dI)) (ci := 5) (v := .int v11) (C := R_Page) (T := F_Page) (N := 2) hx hb ht i_Page hown hK hP 0 rfl rfl 1 (by decide) (ht _ q_234) (fun _ h9 => h9) rfl d_Page_insert_13 ?_
  refine lv_iconst (v := 1) hx hb d_Page_insert_16 (by decide) ?_
  refine lv_isub hx hb d_Page_insert_17 ?_
  refine lv_topi (fun x13 e_x13 => ?_)
  have h := bd_g e_x13 h
  refine lv_istore (lv' := [(5, .int x13), (4, .int v_length), (0, .ref h_this), (1, .int p1), (2, .int p2), (3, .int p3)]) hx hb d_Page_insert_18 hl (by decide) rfl (fun ls hl => ?_)
  exact s_Page_insert_20 cx hK hA hX fu v11 a12 p1 p2 p3 v_length x13 H locs ls hP hD hS (lv_sub hl [2, 3, 4, 5, 1, 0] rfl) h
set_option maxHeartbeats 4000000 in
set_option maxRecDepth 100000 in
theorem c_Page_insert (l : Launch) (dC : Nat → ClassId) (dI : Nat → Nat → Nat) (X : SXT) (h_this : Nat) (h_this_row : Nat) (c_this_row : ClassId) (sz : Nat) (v_length : Int32) (a_row : (Nat → Int32)) (p1 : Int32) (p2 : Int32) (p3 : Int32) (res : Int32 × (Nat → Int32)) (hf : f_Page_insert v_length a_row p1 p2 p3 = some res) : Met l y_Page_insert (.code y_Page_insert b_Page_insert 7 none :: w0) ({ frames := 2, cells := 0, slots := 0, locals := 44 }) (va_Pc [.ref h_this, .int p1, .int p2, .int p3] (gP (dC, dI) (WS_Page_insert h_this h_this_row c_this_row v_length a_row) [(c_this_row, .byte)] sz X)) (va_Qv (fun (u : Int32 × (Nat → Int32)) => some u = some res) (gB (dC, dI) [(c_this_row, .byte)] (va_A (WS_Page_insert h_this h_this_row c_this_row v_length a_row) sz) (fun (u : Int32 × (Nat → Int32)) => (WS_Page_insert h_this h_this_row c_this_row u.1 u.2))) (va_A (WS_Page_insert h_this h_this_row c_this_row v_length a_row) sz)) 0 0 (va_A (WS_Page_insert h_this h_this_row c_this_row v_length a_row) sz) := by
  refine Met.ofW (cc := b_Page_insert) (maxL := 7) (ret := none) (by decide) rfl ?_
  intro p e s m args below meth c s₁ B hml hv
  obtain ⟨rfl, hsz, hP, hK, hD0, hX⟩ := hv
  subst hsz
  have cx : cxx p s m ([.ref h_this, .int p1, .int p2, .int p3] : List Value).toArray meth c b_Page_insert 7 none R_Page := ⟨B.exec, B.bytes, B.returns, hml, findClass_of_methodNamed B.named, fun w9 hw => atoms_spec (ws := .code y_Page_insert b_Page_insert 7 none :: w0) B.pre w9 (List.mem_cons_of_mem _ hw), B.notSynchronized⟩
  have hD := hD0.self (sz := s.heap.size)
  generalize hAe : va_A (WS_Page_insert h_this h_this_row c_this_row v_length a_row) s.heap.size = A at hD hX ⊢
  have hA : ∀ q : Nat, s.heap.size ≤ q → A q := fun q h => by rw [← hAe]; exact Or.inr h
  have hS : va_S A s.heap s.heap [] := va_S.rf
  have hl := lv_entry ([.ref h_this, .int p1, .int p2, .int p3]) (n := 7) (Nat.le_of_ble_eq_true rfl)
  rw [lg_entry_eq]
  generalize (lg_sl ([.ref h_this, .int p1, .int p2, .int p3]) ++ List.replicate (7 - (lg_sl ([.ref h_this, .int p1, .int p2, .int p3])).length) Slot.unset).toArray = ls at hl ⊢
  have hl : lv_has ls 7 [(0, .ref h_this), (1, .int p1), (2, .int p2), (3, .int p3)] := hl
  exact s_Page_insert_e cx hK hA hX v_length a_row p1 p2 p3 s.heap [] ls hP hD hS hl hf
abbrev WS_Writer_fill (g_this_exact : Nat) (g_this_digits : Nat) (h_this : Nat) (h_this_page : Nat) (h_this_page_row : Nat) (c_this_page_row : ClassId) (v_count : Int32) (v_letter : Int32) (v_flags : Int32) (v_width : Int32) (v_precision : Int32) (v_page_length : Int32) (a_page_row : (Nat → Int32)) : va_W := [(h_this, .inr (6, [.ref h_this_page, .ref g_this_exact, .ref g_this_digits, .int v_count, .int v_letter, .int v_flags, .int v_width, .int v_precision])), (h_this_page, .inr (5, [.ref h_this_page_row, .int v_page_length])), (h_this_page_row, .inl (c_this_page_row, 420, .inl a_page_row))]
def f_Writer_fill_66 (v_flags : Int32) (v_width : Int32) (v_page_length : Int32) (a_page_row : (Nat → Int32)) (y3 : Int32) : Option (Int32 × (Nat → Int32)) :=
  bi2 (f_Page_insert v_page_length a_page_row (0 : Int32) (32 : Int32) y3) fun v1 a2 =>
  some (v1, a2)
def f_Writer_fill (v_flags : Int32) (v_width : Int32) (v_page_length : Int32) (a_page_row : (Nat → Int32)) (p1 : Int32) (p2 : Int32) : Option (Int32 × (Nat → Int32)) :=
  bi1 (f_Page_length v_page_length) fun r3 =>
  bd (v_width - r3) fun x4 =>
  if 0 < x4 then
    bi1 (f_Writer_has v_flags (1 : Int32)) fun r6 =>
    if r6 = 0 then
      bi1 (f_Writer_has v_flags (16 : Int32)) fun r8 =>
      if r8 = 0 then
        f_Writer_fill_66 v_flags v_width v_page_length a_page_row x4
      else
        if p2 = 0 then
          f_Writer_fill_66 v_flags v_width v_page_length a_page_row x4
        else
          bi2 (f_Page_insert v_page_length a_page_row p1 (48 : Int32) x4) fun v11 a12 =>
          some (v11, a12)
    else
      bi2 (f_Page_putMany v_page_length a_page_row (32 : Int32) x4) fun v13 a14 =>
      some (v13, a14)
  else
    some (v_page_length, a_page_row)
set_option maxHeartbeats 4000000 in
set_option maxRecDepth 100000 in
theorem s_Writer_fill_66 {p : Program} {l : Launch} {e : Env} {s : State} {m : MethodId} {args : Array Value} {below : List Frame} {meth : Method} {c : Code} {dC : Nat → ClassId} {dI : Nat → Nat → Nat} {A : Nat → Prop} {X : SXT} {g_this_exact : Nat} {g_this_digits : Nat} {h_this : Nat} {h_this_page : Nat} {h_this_page_row : Nat} {c_this_page_row : ClassId} {v_count : Int32} {v_letter : Int32} {v_precision : Int32} {res : Int32 × (Nat → Int32)}  (cx : cxx p s m args meth c b_Writer_fill 4 none R_Writer) (hK : va_K (dC, dI) classes [(c_this_page_row, .byte)] s) (hA : ∀ q, s.heap.size ≤ q → A q) (hX : SX X A s s.heap)  : ∀ (v_flags : Int32) (v_width : Int32) (v_page_length : Int32) (a_page_row : (Nat → Int32)) (y3 : Int32) (H : Heap) (locs : List Loc) (ls : Array Slot), va_P (dC, dI) classes (WS_Writer_fill g_this_exact g_this_digits h_this h_this_page h_this_page_row c_this_page_row v_count v_letter v_flags v_width v_precision v_page_length a_page_row) H → va_D A (WS_Writer_fill g_this_exact g_this_digits h_this h_this_page h_this_page_row c_this_page_row v_count v_letter v_flags v_width v_precision v_page_length a_page_row) → va_S A s.heap H locs → lv_has ls 4 [(0, .ref h_this), (3, .int y3)] → f_Writer_fill_66 v_flags v_width v_page_length a_page_row y3 = some res → W p l e ({ frames := 3, cells := 0, slots := 0, locals := 70 }) s m args below meth c H locs 0 0 (MQ below (va_Qv (fun (u : Int32 × (Nat → Int32)) => some u = some res) (gB (dC, dI) [(c_this_page_row, .byte)] A (fun (u : Int32 × (Nat → Int32)) => (WS_Writer_fill g_this_exact g_this_digits h_this h_this_page h_this_page_row c_this_page_row v_count v_letter v_flags v_width v_precision u.1 u.2))) A) args s 0 0 A) (F0 m 66 ls []) := by
  intro v_flags v_width v_page_length a_page_row y3 H locs ls hP hD hS hl h
  obtain ⟨hx, hb, hr, hml, hown, ht, hlk⟩ := id cx
  refine lv_aload_n hx hb d_Writer_fill_66 rfl (lv_at hl 0 rfl) ?_
  refine va_get (D := (dC, dI)) (ci := 6) (v := .ref h_this_page) (C := R_Writer) (T := F_Writer) (N := 8) hx hb ht i_Writer hown hK hP 0 rfl rfl 0 (by decide) (ht _ q_241) (fun _ h9 => h9) rfl d_Writer_fill_67 ?_
  refine lv_iconst (v := 0) hx hb d_Writer_fill_70 (by decide) ?_
  refine lv_bipush (v := 32) hx hb d_Writer_fill_71 (by decide) ?_
  refine lv_iload_n hx hb d_Writer_fill_73 rfl (lv_at hl 1 rfl) ?_
  obtain ⟨v1, a2, hf, h⟩ := bi2_x h
  refine clVv (D := (dC, dI)) (n := 3) (As := [.int (0 : Int32), .int (32 : Int32), .int y3]) ⟨hx, hb, hml, hown, ht⟩ (c_Page_insert l dC dI X h_this_page h_this_page_row c_this_page_row H.size v_page_length a_page_row (0 : Int32) (32 : Int32) y3 (v1, a2) hf) (gV q_301 q_302 q_303 q_245 q_304) (by decide +kernel) ⟨rfl, rfl, Nat.le_of_ble_eq_true rfl, Nat.le_of_ble_eq_true rfl⟩ hK hP hD hS hA hX [1, 2] [0] [0] rfl (wr := [(h_this, .inr (6, [.ref h_this_page, .ref g_this_exact, .ref g_this_digits, .int v_count, .int v_letter, .int v_flags, .int v_width, .int v_precision]))]) rfl (by decide) (by decide) (by decide) rfl (va_recv hK hP (ci := 5) (q0 := 1) rfl rfl) rfl hl.1 rfl (lv_room (Nat.le_of_ble_eq_true rfl)) d_Writer_fill_74 ⟨Nat.zero_le _, Nat.zero_le _⟩ (fun u9 H locs h9 hP hD hS => ?_)
  cases h9
  have hP : va_P (dC, dI) classes (WS_Writer_fill g_this_exact g_this_digits h_this h_this_page h_this_page_row c_this_page_row v_count v_letter v_flags v_width v_precision v1 a2) H := hP.sub [0, 1, 2] rfl
  have hD : va_D A (WS_Writer_fill g_this_exact g_this_digits h_this h_this_page h_this_page_row c_this_page_row v_count v_letter v_flags v_width v_precision v1 a2) := hD.sub [0, 1, 2] (by decide) rfl
  exact W.vret hx hb hr (fun t ht9 hW => ⟨⟨(v1, a2), rfl, h, by rw [ht9]; exact hP, va_K.moved hW.alike hK, hD⟩, hS.F ht9⟩) hS.2.2 d_Writer_fill_77 hlk
set_option maxHeartbeats 4000000 in
set_option maxRecDepth 100000 in
theorem s_Writer_fill_e {p : Program} {l : Launch} {e : Env} {s : State} {m : MethodId} {args : Array Value} {below : List Frame} {meth : Method} {c : Code} {dC : Nat → ClassId} {dI : Nat → Nat → Nat} {A : Nat → Prop} {X : SXT} {g_this_exact : Nat} {g_this_digits : Nat} {h_this : Nat} {h_this_page : Nat} {h_this_page_row : Nat} {c_this_page_row : ClassId} {v_count : Int32} {v_letter : Int32} {v_precision : Int32} {res : Int32 × (Nat → Int32)} (cx : cxx p s m args meth c b_Writer_fill 4 none R_Writer) (hK : va_K (dC, dI) classes [(c_this_page_row, .byte)] s) (hA : ∀ q, s.heap.size ≤ q → A q) (hX : SX X A s s.heap) : ∀ (v_flags : Int32) (v_width : Int32) (v_page_length : Int32) (a_page_row : (Nat → Int32)) (p1 : Int32) (p2 : Int32) (H : Heap) (locs : List Loc) (ls : Array Slot), va_P (dC, dI) classes (WS_Writer_fill g_this_exact g_this_digits h_this h_this_page h_this_page_row c_this_page_row v_count v_letter v_flags v_width v_precision v_page_length a_page_row) H → va_D A (WS_Writer_fill g_this_exact g_this_digits h_this h_this_page h_this_page_row c_this_page_row v_count v_letter v_flags v_width v_precision v_page_length a_page_row) → va_S A s.heap H locs → lv_has ls 4 [(0, .ref h_this), (1, .int p1), (2, .int p2)] → f_Writer_fill v_flags v_width v_page_length a_page_row p1 p2 = some res → W p l e ({ frames := 3, cells := 0, slots := 0, locals := 70 }) s m args below meth c H locs 0 0 (MQ below (va_Qv (fun (u : Int32 × (Nat → Int32)) => some u = some res) (gB (dC, dI) [(c_this_page_row, .byte)] A (fun (u : Int32 × (Nat → Int32)) => (WS_Writer_fill g_this_exact g_this_digits h_this h_this_page h_this_page_row c_this_page_row v_count v_letter v_flags v_width v_precision u.1 u.2))) A) args s 0 0 A) (F0 m 0 ls []) := by
  intro v_flags v_width v_page_length a_page_row p1 p2 H locs ls hP hD hS hl h
  obtain ⟨hx, hb, hr, hml, hown, ht, hlk⟩ := id cx
  refine lv_aload_n hx hb d_Writer_fill_0 rfl (lv_at hl 0 rfl) ?_
  refine va_get (D := (dC, dI)) (ci := 6) (v := .int v_width) (C := R_Writer) (T := F_Writer) (N := 8) hx hb ht i_Writer hown hK hP 0 rfl rfl 6 (by decide) (ht _ q_232) (fun _ h9 => h9) rfl d_Writer_fill_1 ?_
  refine lv_aload_n hx hb d_Writer_fill_4 rfl (lv_at hl 0 rfl) ?_
  refine va_get (D := (dC, dI)) (ci := 6) (v := .ref h_this_page) (C := R_Writer) (T := F_Writer) (N := 8) hx hb ht i_Writer hown hK hP 0 rfl rfl 0 (by decide) (ht _ q_241) (fun _ h9 => h9) rfl d_Writer_fill_5 ?_
  obtain ⟨r3, hf, h⟩ := bi1_x h
  refine clVi (D := (dC, dI)) (n := 0) (As := []) ⟨hx, hb, hml, hown, ht⟩ (c_Page_length l dC dI X h_this_page_row h_this_page H.size v_page_length r3 hf) (gV q_305 q_306 q_307 q_245 q_308) (by decide +kernel) ⟨rfl, rfl, Nat.le_of_ble_eq_true rfl, Nat.le_of_ble_eq_true rfl⟩ hK hP hD hS hA hX [1] [0, 2] [] rfl (wr := [(h_this, .inr (6, [.ref h_this_page, .ref g_this_exact, .ref g_this_digits, .int v_count, .int v_letter, .int v_flags, .int v_width, .int v_precision])), (h_this_page_row, .inl (c_this_page_row, 420, .inl a_page_row))]) rfl (by decide) (by decide) (by decide) rfl (va_recv hK hP (ci := 5) (q0 := 1) rfl rfl) rfl hl.1 rfl (lv_room (Nat.le_of_ble_eq_true rfl)) d_Writer_fill_8 ⟨Nat.zero_le _, Nat.zero_le _⟩ (fun r9 u9 H locs h9 hP hD hS => ?_)
  cases h9
  have hP : va_P (dC, dI) classes (WS_Writer_fill g_this_exact g_this_digits h_this h_this_page h_this_page_row c_this_page_row v_count v_letter v_flags v_width v_precision v_page_length a_page_row) H := hP.sub [0, 2, 1] rfl
  have hD : va_D A (WS_Writer_fill g_this_exact g_this_digits h_this h_this_page h_this_page_row c_this_page_row v_count v_letter v_flags v_width v_precision v_page_length a_page_row) := hD.sub [0, 2, 1] (by decide) rfl
  refine lv_isub hx hb d_Writer_fill_11 ?_
  refine lv_topi (fun x4 e_x4 => ?_)
  have h := bd_g e_x4 h
  refine lv_istore_n (lv' := [(3, .int x4), (0, .ref h_this), (1, .int p1), (2, .int p2)]) hx hb d_Writer_fill_12 rfl hl (by decide) rfl (fun ls hl => ?_)
  refine lv_iload_n hx hb d_Writer_fill_13 rfl (lv_at hl 0 rfl) ?_
  refine lv_if_gt (tgt := 18) hx hb d_Writer_fill_14 (by decide) (fun c5 => ?_) (fun c5 => ?_)
  · have h := if_t c5 h
    refine lv_aload_n hx hb d_Writer_fill_18 rfl (lv_at hl 1 rfl) ?_
    refine lv_iconst (v := 1) hx hb d_Writer_fill_19 (by decide) ?_
    obtain ⟨r6, hf, h⟩ := bi1_x h
    refine clVi (D := (dC, dI)) (n := 1) (As := [.int (1 : Int32)]) ⟨hx, hb, hml, hown, ht⟩ (c_Writer_has l dC dI X h_this_page g_this_exact g_this_digits h_this H.size v_count v_letter v_flags v_width v_precision (1 : Int32) r6 hf) (gV q_236 q_237 q_238 q_239 q_240) (by decide +kernel) ⟨rfl, rfl, Nat.le_of_ble_eq_true rfl, Nat.le_of_ble_eq_true rfl⟩ hK hP hD hS hA hX [0] [1, 2] [] rfl (wr := [(h_this_page, .inr (5, [.ref h_this_page_row, .int v_page_length])), (h_this_page_row, .inl (c_this_page_row, 420, .inl a_page_row))]) rfl (by decide) (by decide) (by decide) rfl (va_recv hK hP (ci := 6) (q0 := 0) rfl rfl) rfl hl.1 rfl (lv_room (Nat.le_of_ble_eq_true rfl)) d_Writer_fill_20 ⟨Nat.zero_le _, Nat.zero_le _⟩ (fun r9 u9 H locs h9 hP hD hS => ?_)
    cases h9
    have hP : va_P (dC, dI) classes (WS_Writer_fill g_this_exact g_this_digits h_this h_this_page h_this_page_row c_this_page_row v_count v_letter v_flags v_width v_precision v_page_length a_page_row) H := hP.sub [2, 0, 1] rfl
    have hD : va_D A (WS_Writer_fill g_this_exact g_this_digits h_this h_this_page h_this_page_row c_this_page_row v_count v_letter v_flags v_width v_precision v_page_length a_page_row) := hD.sub [2, 0, 1] (by decide) rfl
    refine lv_if_eq (tgt := 39) hx hb d_Writer_fill_23 (by decide) (fun c7 => ?_) (fun c7 => ?_)
    · have h := if_t c7 h
      refine lv_aload_n hx hb d_Writer_fill_39 rfl (lv_at hl 1 rfl) ?_
      refine lv_bipush (v := 16) hx hb d_Writer_fill_40 (by decide) ?_
      obtain ⟨r8, hf, h⟩ := bi1_x h
      refine clVi (D := (dC, dI)) (n := 1) (As := [.int (16 : Int32)]) ⟨hx, hb, hml, hown, ht⟩ (c_Writer_has l dC dI X h_this_page g_this_exact g_this_digits h_this H.size v_count v_letter v_flags v_width v_precision (16 : Int32) r8 hf) (gV q_236 q_237 q_238 q_239 q_240) (by decide +kernel) ⟨rfl, rfl, Nat.le_of_ble_eq_true rfl, Nat.le_of_ble_eq_true rfl⟩ hK hP hD hS hA hX [0] [1, 2] [] rfl (wr := [(h_this_page, .inr (5, [.ref h_this_page_row, .int v_page_length])), (h_this_page_row, .inl (c_this_page_row, 420, .inl a_page_row))]) rfl (by decide) (by decide) (by decide) rfl (va_recv hK hP (ci := 6) (q0 := 0) rfl rfl) rfl hl.1 rfl (lv_room (Nat.le_of_ble_eq_true rfl)) d_Writer_fill_42 ⟨Nat.zero_le _, Nat.zero_le _⟩ (fun r9 u9 H locs h9 hP hD hS => ?_)
      cases h9
      have hP : va_P (dC, dI) classes (WS_Writer_fill g_this_exact g_this_digits h_this h_this_page h_this_page_row c_this_page_row v_count v_letter v_flags v_width v_precision v_page_length a_page_row) H := hP.sub [2, 0, 1] rfl
      have hD : va_D A (WS_Writer_fill g_this_exact g_this_digits h_this h_this_page h_this_page_row c_this_page_row v_count v_letter v_flags v_width v_precision v_page_length a_page_row) := hD.sub [2, 0, 1] (by decide) rfl
      refine lv_if_eq (tgt := 66) hx hb d_Writer_fill_45 (by decide) (fun c9 => ?_) (fun c9 => ?_)
      · have h := if_t c9 h
        exact s_Writer_fill_66 cx hK hA hX v_flags v_width v_page_length a_page_row x4 H locs ls hP hD hS (lv_sub hl [1, 0] rfl) h
      · have h := if_f c9 h
        refine lv_iload_n hx hb d_Writer_fill_48 rfl (lv_at hl 3 rfl) ?_
        refine lv_if_eq (tgt := 66) hx hb d_Writer_fill_49 (by decide) (fun c10 => ?_) (fun c10 => ?_)
        · have h := if_t c10 h
          exact s_Writer_fill_66 cx hK hA hX v_flags v_width v_page_length a_page_row x4 H locs ls hP hD hS (lv_sub hl [1, 0] rfl) h
        · have h := if_f c10 h
          refine lv_aload_n hx hb d_Writer_fill_52 rfl (lv_at hl 1 rfl) ?_
          refine va_get (D := (dC, dI)) (ci := 6) (v := .ref h_this_page) (C := R_Writer) (T := F_Writer) (N := 8) hx hb ht i_Writer hown hK hP 0 rfl rfl 0 (by decide) (ht _ q_241) (fun _ h9 => h9) rfl d_Writer_fill_53 ?_
          refine lv_iload_n hx hb d_Writer_fill_56 rfl (lv_at hl 2 rfl) ?_
          refine lv_bipush (v := 48) hx hb d_Writer_fill_57 (by decide) ?_
          refine lv_iload_n hx hb d_Writer_fill_59 rfl (lv_at hl 0 rfl) ?_
          obtain ⟨v11, a12, hf, h⟩ := bi2_x h
          refine clVv (D := (dC, dI)) (n := 3) (As := [.int p1, .int (48 : Int32), .int x4]) ⟨hx, hb, hml, hown, ht⟩ (c_Page_insert l dC dI X h_this_page h_this_page_row c_this_page_row H.size v_page_length a_page_row p1 (48 : Int32) x4 (v11, a12) hf) (gV q_301 q_302 q_303 q_245 q_304) (by decide +kernel) ⟨rfl, rfl, Nat.le_of_ble_eq_true rfl, Nat.le_of_ble_eq_true rfl⟩ hK hP hD hS hA hX [1, 2] [0] [0] rfl (wr := [(h_this, .inr (6, [.ref h_this_page, .ref g_this_exact, .ref g_this_digits, .int v_count, .int v_letter, .int v_flags, .int v_width, .int v_precision]))]) rfl (by decide) (by decide) (by decide) rfl (va_recv hK hP (ci := 5) (q0 := 1) rfl rfl) rfl hl.1 rfl (lv_room (Nat.le_of_ble_eq_true rfl)) d_Writer_fill_60 ⟨Nat.zero_le _, Nat.zero_le _⟩ (fun u9 H locs h9 hP hD hS => ?_)
          cases h9
          have hP : va_P (dC, dI) classes (WS_Writer_fill g_this_exact g_this_digits h_this h_this_page h_this_page_row c_this_page_row v_count v_letter v_flags v_width v_precision v11 a12) H := hP.sub [0, 1, 2] rfl
          have hD : va_D A (WS_Writer_fill g_this_exact g_this_digits h_this h_this_page h_this_page_row c_this_page_row v_count v_letter v_flags v_width v_precision v11 a12) := hD.sub [0, 1, 2] (by decide) rfl
          refine lv_goto (tgt := 77) hx hb d_Writer_fill_63 (by decide) ?_
          exact W.vret hx hb hr (fun t ht9 hW => ⟨⟨(v11, a12), rfl, h, by rw [ht9]; exact hP, va_K.moved hW.alike hK, hD⟩, hS.F ht9⟩) hS.2.2 d_Writer_fill_77 hlk
    · have h := if_f c7 h
      refine lv_aload_n hx hb d_Writer_fill_26 rfl (lv_at hl 1 rfl) ?_
      refine va_get (D := (dC, dI)) (ci := 6) (v := .ref h_this_page) (C := R_Writer) (T := F_Writer) (N := 8) hx hb ht i_Writer hown hK hP 0 rfl rfl 0 (by decide) (ht _ q_241) (fun _ h9 => h9) rfl d_Writer_fill_27 ?_
      refine lv_bipush (v := 32) hx hb d_Writer_fill_30 (by decide) ?_
      refine lv_iload_n hx hb d_Writer_fill_32 rfl (lv_at hl 0 rfl) ?_
      obtain ⟨v13, a14, hf, h⟩ := bi2_x h
      refine clVv (D := (dC, dI)) (n := 2) (As := [.int (32 : Int32), .int x4]) ⟨hx, hb, hml, hown, ht⟩ (c_Page_putMany l dC dI X h_this_page h_this_page_row c_this_page_row H.size v_page_length a_page_row (32 : Int32) x4 (v13, a14) hf) (gV q_309 q_298 q_299 q_245 q_300) (by decide +kernel) ⟨rfl, rfl, Nat.le_of_ble_eq_true rfl, Nat.le_of_ble_eq_true rfl⟩ hK hP hD hS hA hX [1, 2] [0] [0] rfl (wr := [(h_this, .inr (6, [.ref h_this_page, .ref g_this_exact, .ref g_this_digits, .int v_count, .int v_letter, .int v_flags, .int v_width, .int v_precision]))]) rfl (by decide) (by decide) (by decide) rfl (va_recv hK hP (ci := 5) (q0 := 1) rfl rfl) rfl hl.1 rfl (lv_room (Nat.le_of_ble_eq_true rfl)) d_Writer_fill_33 ⟨Nat.zero_le _, Nat.zero_le _⟩ (fun u9 H locs h9 hP hD hS => ?_)
      cases h9
      have hP : va_P (dC, dI) classes (WS_Writer_fill g_this_exact g_this_digits h_this h_this_page h_this_page_row c_this_page_row v_count v_letter v_flags v_width v_precision v13 a14) H := hP.sub [0, 1, 2] rfl
      have hD : va_D A (WS_Writer_fill g_this_exact g_this_digits h_this h_this_page h_this_page_row c_this_page_row v_count v_letter v_flags v_width v_precision v13 a14) := hD.sub [0, 1, 2] (by decide) rfl
      refine lv_goto (tgt := 77) hx hb d_Writer_fill_36 (by decide) ?_
      exact W.vret hx hb hr (fun t ht9 hW => ⟨⟨(v13, a14), rfl, h, by rw [ht9]; exact hP, va_K.moved hW.alike hK, hD⟩, hS.F ht9⟩) hS.2.2 d_Writer_fill_77 hlk
  · have h := if_f c5 h
    exact W.vret hx hb hr (fun t ht9 hW => ⟨⟨(v_page_length, a_page_row), rfl, h, by rw [ht9]; exact hP, va_K.moved hW.alike hK, hD⟩, hS.F ht9⟩) hS.2.2 d_Writer_fill_17 hlk
set_option maxHeartbeats 4000000 in
set_option maxRecDepth 100000 in
theorem c_Writer_fill (l : Launch) (dC : Nat → ClassId) (dI : Nat → Nat → Nat) (X : SXT) (g_this_exact : Nat) (g_this_digits : Nat) (h_this : Nat) (h_this_page : Nat) (h_this_page_row : Nat) (c_this_page_row : ClassId) (sz : Nat) (v_count : Int32) (v_letter : Int32) (v_flags : Int32) (v_width : Int32) (v_precision : Int32) (v_page_length : Int32) (a_page_row : (Nat → Int32)) (p1 : Int32) (p2 : Int32) (res : Int32 × (Nat → Int32)) (hf : f_Writer_fill v_flags v_width v_page_length a_page_row p1 p2 = some res) : Met l y_Writer_fill (.code y_Writer_fill b_Writer_fill 4 none :: w0) ({ frames := 3, cells := 0, slots := 0, locals := 70 }) (va_Pc [.ref h_this, .int p1, .int p2] (gP (dC, dI) (WS_Writer_fill g_this_exact g_this_digits h_this h_this_page h_this_page_row c_this_page_row v_count v_letter v_flags v_width v_precision v_page_length a_page_row) [(c_this_page_row, .byte)] sz X)) (va_Qv (fun (u : Int32 × (Nat → Int32)) => some u = some res) (gB (dC, dI) [(c_this_page_row, .byte)] (va_A (WS_Writer_fill g_this_exact g_this_digits h_this h_this_page h_this_page_row c_this_page_row v_count v_letter v_flags v_width v_precision v_page_length a_page_row) sz) (fun (u : Int32 × (Nat → Int32)) => (WS_Writer_fill g_this_exact g_this_digits h_this h_this_page h_this_page_row c_this_page_row v_count v_letter v_flags v_width v_precision u.1 u.2))) (va_A (WS_Writer_fill g_this_exact g_this_digits h_this h_this_page h_this_page_row c_this_page_row v_count v_letter v_flags v_width v_precision v_page_length a_page_row) sz)) 0 0 (va_A (WS_Writer_fill g_this_exact g_this_digits h_this h_this_page h_this_page_row c_this_page_row v_count v_letter v_flags v_width v_precision v_page_length a_page_row) sz) := by
  refine Met.ofW (cc := b_Writer_fill) (maxL := 4) (ret := none) (by decide) rfl ?_
  intro p e s m args below meth c s₁ B hml hv
  obtain ⟨rfl, hsz, hP, hK, hD0, hX⟩ := hv
  subst hsz
  have cx : cxx p s m ([.ref h_this, .int p1, .int p2] : List Value).toArray meth c b_Writer_fill 4 none R_Writer := ⟨B.exec, B.bytes, B.returns, hml, findClass_of_methodNamed B.named, fun w9 hw => atoms_spec (ws := .code y_Writer_fill b_Writer_fill 4 none :: w0) B.pre w9 (List.mem_cons_of_mem _ hw), B.notSynchronized⟩
  have hD := hD0.self (sz := s.heap.size)
  generalize hAe : va_A (WS_Writer_fill g_this_exact g_this_digits h_this h_this_page h_this_page_row c_this_page_row v_count v_letter v_flags v_width v_precision v_page_length a_page_row) s.heap.size = A at hD hX ⊢
  have hA : ∀ q : Nat, s.heap.size ≤ q → A q := fun q h => by rw [← hAe]; exact Or.inr h
  have hS : va_S A s.heap s.heap [] := va_S.rf
  have hl := lv_entry ([.ref h_this, .int p1, .int p2]) (n := 4) (Nat.le_of_ble_eq_true rfl)
  rw [lg_entry_eq]
  generalize (lg_sl ([.ref h_this, .int p1, .int p2]) ++ List.replicate (4 - (lg_sl ([.ref h_this, .int p1, .int p2])).length) Slot.unset).toArray = ls at hl ⊢
  have hl : lv_has ls 4 [(0, .ref h_this), (1, .int p1), (2, .int p2)] := hl
  exact s_Writer_fill_e cx hK hA hX v_flags v_width v_page_length a_page_row p1 p2 s.heap [] ls hP hD hS hl hf
abbrev WS_Writer_writeWhole (g_this_exact : Nat) (h_this : Nat) (h_this_digits : Nat) (h_this_page : Nat) (h_this_page_row : Nat) (c_this_digits : ClassId) (c_this_page_row : ClassId) (v_count : Int32) (v_letter : Int32) (v_flags : Int32) (v_width : Int32) (v_precision : Int32) (a_digits : (Nat → Int32)) (v_page_length : Int32) (a_page_row : (Nat → Int32)) : va_W := [(h_this, .inr (6, [.ref h_this_page, .ref g_this_exact, .ref h_this_digits, .int v_count, .int v_letter, .int v_flags, .int v_width, .int v_precision])), (h_this_digits, .inl (c_this_digits, 22, .inl a_digits)), (h_this_page, .inr (5, [.ref h_this_page_row, .int v_page_length])), (h_this_page_row, .inl (c_this_page_row, 420, .inl a_page_row))]
def f_Writer_writeWhole_105 (v_count : Int32) (v_letter : Int32) (v_flags : Int32) (v_width : Int32) (v_precision : Int32) (a_digits : (Nat → Int32)) (v_page_length : Int32) (a_page_row : (Nat → Int32)) (z1 : Int32) (z2 : Int32) : Option (Int32 × (Nat → Int32) × Int32 × (Nat → Int32)) :=
  bi2 (f_Writer_fill v_flags v_width v_page_length a_page_row z1 z2) fun v1 a2 =>
  some (v_count, a_digits, v1, a2)
def f_Writer_writeWhole_66 (v_count : Int32) (v_letter : Int32) (v_flags : Int32) (v_width : Int32) (v_precision : Int32) (a_digits : (Nat → Int32)) (v_page_length : Int32) (a_page_row : (Nat → Int32)) (y3 : Int32) : Option (Int32 × (Nat → Int32) × Int32 × (Nat → Int32)) :=
  bi1 (f_Page_length v_page_length) fun r3 =>
  bi2 (f_Page_putMany v_page_length a_page_row (48 : Int32) y3) fun v4 a5 =>
  bi2 (f_Writer_putFoundDigits v_count a_digits v4 a5) fun v6 a7 =>
  if v_precision = (-1 : Int32) then
    f_Writer_writeWhole_105 v_count v_letter v_flags v_width v_precision a_digits v6 a7 r3 (1 : Int32)
  else
    f_Writer_writeWhole_105 v_count v_letter v_flags v_width v_precision a_digits v6 a7 r3 (0 : Int32)
def f_Writer_writeWhole_31 (v_count : Int32) (v_letter : Int32) (v_flags : Int32) (v_width : Int32) (v_precision : Int32) (a_digits : (Nat → Int32)) (v_page_length : Int32) (a_page_row : (Nat → Int32)) (y1 : Int64) : Option (Int32 × (Nat → Int32) × Int32 × (Nat → Int32)) :=
  bi2 (f_Writer_findDigits v_count v_letter a_digits y1) fun v9 a10 =>
  bi1 (f_Writer_precisionOr v_precision (1 : Int32)) fun r11 =>
  bd (imx (0 : Int32) (r11 - v9)) fun x12 =>
  bi1 (f_Writer_has v_flags (8 : Int32)) fun r13 =>
  if r13 = 0 then
    f_Writer_writeWhole_66 v9 v_letter v_flags v_width v_precision a10 v_page_length a_page_row x12
  else
    bi2 (f_Writer_putMarkOfBase v_letter v_page_length a_page_row y1 x12) fun v15 a16 =>
    f_Writer_writeWhole_66 v9 v_letter v_flags v_width v_precision a10 v15 a16 x12
def f_Writer_writeWhole_28 (v_count : Int32) (v_letter : Int32) (v_flags : Int32) (v_width : Int32) (v_precision : Int32) (a_digits : (Nat → Int32)) (v_page_length : Int32) (a_page_row : (Nat → Int32)) (y1 : Int64) (z1 : Int32) : Option (Int32 × (Nat → Int32) × Int32 × (Nat → Int32)) :=
  bi2 (f_Writer_putSign v_flags v_page_length a_page_row z1) fun v17 a18 =>
  f_Writer_writeWhole_31 v_count v_letter v_flags v_width v_precision a_digits v17 a18 y1
def f_Writer_writeWhole (v_count : Int32) (v_letter : Int32) (v_flags : Int32) (v_width : Int32) (v_precision : Int32) (a_digits : (Nat → Int32)) (v_page_length : Int32) (a_page_row : (Nat → Int32)) (p1 : Int64) : Option (Int32 × (Nat → Int32) × Int32 × (Nat → Int32)) :=
  bi1 (f_Page_clear v_page_length) fun v19 =>
  if v_letter = (100 : Int32) then
    if (0 : Int64) ≤ p1 then
      f_Writer_writeWhole_28 v_count v_letter v_flags v_width v_precision a_digits v19 a_page_row p1 (0 : Int32)
    else
      f_Writer_writeWhole_28 v_count v_letter v_flags v_width v_precision a_digits v19 a_page_row p1 (1 : Int32)
  else
    f_Writer_writeWhole_31 v_count v_letter v_flags v_width v_precision a_digits v19 a_page_row p1
set_option maxHeartbeats 4000000 in
set_option maxRecDepth 100000 in
theorem s_Writer_writeWhole_105 {p : Program} {l : Launch} {e : Env} {s : State} {m : MethodId} {args : Array Value} {below : List Frame} {meth : Method} {c : Code} {dC : Nat → ClassId} {dI : Nat → Nat → Nat} {A : Nat → Prop} {X : SXT} {g_this_exact : Nat} {h_this : Nat} {h_this_digits : Nat} {h_this_page : Nat} {h_this_page_row : Nat} {c_this_digits : ClassId} {c_this_page_row : ClassId} {res : Int32 × (Nat → Int32) × Int32 × (Nat → Int32)}  (cx : cxx p s m args meth c b_Writer_writeWhole 5 none R_Writer) (hK : va_K (dC, dI) classes [(c_this_digits, .byte), (c_this_page_row, .byte)] s) (hA : ∀ q, s.heap.size ≤ q → A q) (hX : SX X A s s.heap)  : ∀ (v_count : Int32) (v_letter : Int32) (v_flags : Int32) (v_width : Int32) (v_precision : Int32) (a_digits : (Nat → Int32)) (v_page_length : Int32) (a_page_row : (Nat → Int32)) (z1 : Int32) (z2 : Int32) (H : Heap) (locs : List Loc) (ls : Array Slot), va_P (dC, dI) classes (WS_Writer_writeWhole g_this_exact h_this h_this_digits h_this_page h_this_page_row c_this_digits c_this_page_row v_count v_letter v_flags v_width v_precision a_digits v_page_length a_page_row) H → va_D A (WS_Writer_writeWhole g_this_exact h_this h_this_digits h_this_page h_this_page_row c_this_digits c_this_page_row v_count v_letter v_flags v_width v_precision a_digits v_page_length a_page_row) → va_S A s.heap H locs → lv_has ls 5 [(0, .ref h_this)] → f_Writer_writeWhole_105 v_count v_letter v_flags v_width v_precision a_digits v_page_length a_page_row z1 z2 = some res → W p l e ({ frames := 6, cells := 0, slots := 0, locals := 135 }) s m args below meth c H locs 0 0 (MQ below (va_Qv (fun (u : Int32 × (Nat → Int32) × Int32 × (Nat → Int32)) => some u = some res) (gB (dC, dI) [(c_this_digits, .byte), (c_this_page_row, .byte)] A (fun (u : Int32 × (Nat → Int32) × Int32 × (Nat → Int32)) => (WS_Writer_writeWhole g_this_exact h_this h_this_digits h_this_page h_this_page_row c_this_digits c_this_page_row u.1 v_letter v_flags v_width v_precision u.2.1 u.2.2.1 u.2.2.2))) A) args s 0 0 A) (F0 m 105 ls [.int z2, .int z1, .ref h_this]) := by
  intro v_count v_letter v_flags v_width v_precision a_digits v_page_length a_page_row z1 z2 H locs ls hP hD hS hl h
  obtain ⟨hx, hb, hr, hml, hown, ht, hlk⟩ := id cx
  obtain ⟨v1, a2, hf, h⟩ := bi2_x h
  refine clVv (D := (dC, dI)) (n := 2) (As := [.int z1, .int z2]) ⟨hx, hb, hml, hown, ht⟩ (c_Writer_fill l dC dI X g_this_exact h_this_digits h_this h_this_page h_this_page_row c_this_page_row H.size v_count v_letter v_flags v_width v_precision v_page_length a_page_row z1 z2 (v1, a2) hf) (gV q_310 q_311 q_312 q_239 q_313) (by decide +kernel) ⟨rfl, rfl, Nat.le_of_ble_eq_true rfl, Nat.le_of_ble_eq_true rfl⟩ hK hP hD hS hA hX [0, 2, 3] [1] [1] rfl (wr := [(h_this_digits, .inl (c_this_digits, 22, .inl a_digits))]) rfl (by decide) (by decide) (by decide) rfl (va_recv hK hP (ci := 6) (q0 := 0) rfl rfl) rfl hl.1 rfl (lv_room (Nat.le_of_ble_eq_true rfl)) d_Writer_writeWhole_105 ⟨Nat.zero_le _, Nat.zero_le _⟩ (fun u9 H locs h9 hP hD hS => ?_)
  cases h9
  have hP : va_P (dC, dI) classes (WS_Writer_writeWhole g_this_exact h_this h_this_digits h_this_page h_this_page_row c_this_digits c_this_page_row v_count v_letter v_flags v_width v_precision a_digits v1 a2) H := hP.sub [1, 0, 2, 3] rfl
  have hD : va_D A (WS_Writer_writeWhole g_this_exact h_this h_this_digits h_this_page h_this_page_row c_this_digits c_this_page_row v_count v_letter v_flags v_width v_precision a_digits v1 a2) := hD.sub [1, 0, 2, 3] (by decide) rfl
  exact W.vret hx hb hr (fun t ht9 hW => ⟨⟨(v_count, a_digits, v1, a2), rfl, h, by rw [ht9]; exact hP, va_K.moved hW.alike hK, hD⟩, hS.F ht9⟩) hS.2.2 d_Writer_writeWhole_108 hlk
set_option maxHeartbeats 4000000 in
set_option maxRecDepth 100000 in
theorem s_Writer_writeWhole_66 {p : Program} {l : Launch} {e : Env} {s : State} {m : MethodId} {args : Array Value} {below : List Frame} {meth : Method} {c : Code} {dC : Nat → ClassId} {dI : Nat → Nat → Nat} {A : Nat → Prop} {X : SXT} {g_this_exact : Nat} {h_this : Nat} {h_this_digits : Nat} {h_this_page : Nat} {h_this_page_row : Nat} {c_this_digits : ClassId} {c_this_page_row : ClassId} {res : Int32 × (Nat → Int32) × Int32 × (Nat → Int32)}  (cx : cxx p s m args meth c b_Writer_writeWhole 5 none R_Writer) (hK : va_K (dC, dI) classes [(c_this_digits, .byte), (c_this_page_row, .byte)] s) (hA : ∀ q, s.heap.size ≤ q → A q) (hX : SX X A s s.heap)  : ∀ (v_count : Int32) (v_letter : Int32) (v_flags : Int32) (v_width : Int32) (v_precision : Int32) (a_digits : (Nat → Int32)) (v_page_length : Int32) (a_page_row : (Nat → Int32)) (y3 : Int32) (H : Heap) (locs : List Loc) (ls : Array Slot), va_P (dC, dI) classes (WS_Writer_writeWhole g_this_exact h_this h_this_digits h_this_page h_this_page_row c_this_digits c_this_page_row v_count v_letter v_flags v_width v_precision a_digits v_page_length a_page_row) H → va_D A (WS_Writer_writeWhole g_this_exact h_this h_this_digits h_this_page h_this_page_row c_this_digits c_this_page_row v_count v_letter v_flags v_width v_precision a_digits v_page_length a_page_row) → va_S A s.heap H locs → lv_has ls 5 [(0, .ref h_this), (3, .int y3)] → f_Writer_writeWhole_66 v_count v_letter v_flags v_width v_precision a_digits v_page_length a_page_row y3 = some res → W p l e ({ frames := 6, cells := 0, slots := 0, locals := 135 }) s m args below meth c H locs 0 0 (MQ below (va_Qv (fun (u : Int32 × (Nat → Int32) × Int32 × (Nat → Int32)) => some u = some res) (gB (dC, dI) [(c_this_digits, .byte), (c_this_page_row, .byte)] A (fun (u : Int32 × (Nat → Int32) × Int32 × (Nat → Int32)) => (WS_Writer_writeWhole g_this_exact h_this h_this_digits h_this_page h_this_page_row c_this_digits c_this_page_row u.1 v_letter v_flags v_width v_precision u.2.1 u.2.2.1 u.2.2.2))) A) args s 0 0 A) (F0 m 66 ls []) := by
  intro v_count v_letter v_flags v_width v_precision a_digits v_page_length a_page_row y3 H locs ls hP hD hS hl h
  obtain ⟨hx, hb, hr, hml, hown, ht, hlk⟩ := id cx
  refine lv_aload_n hx hb d_Writer_writeWhole_66 rfl (lv_at hl 0 rfl) ?_
  refine va_get (D := (dC, dI)) (ci := 6) (v := .ref h_this_page) (C := R_Writer) (T := F_Writer) (N := 8) hx hb ht i_Writer hown hK hP 0 rfl rfl 0 (by decide) (ht _ q_241) (fun _ h9 => h9) rfl d_Writer_writeWhole_67 ?_
  obtain ⟨r3, hf, h⟩ := bi1_x h
  refine clVi (D := (dC, dI)) (n := 0) (As := []) ⟨hx, hb, hml, hown, ht⟩ (c_Page_length l dC dI X h_this_page_row h_this_page H.size v_page_length r3 hf) (gV q_305 q_306 q_307 q_245 q_308) (by decide +kernel) ⟨rfl, rfl, Nat.le_of_ble_eq_true rfl, Nat.le_of_ble_eq_true rfl⟩ hK hP hD hS hA hX [2] [0, 1, 3] [] rfl (wr := [(h_this, .inr (6, [.ref h_this_page, .ref g_this_exact, .ref h_this_digits, .int v_count, .int v_letter, .int v_flags, .int v_width, .int v_precision])), (h_this_digits, .inl (c_this_digits, 22, .inl a_digits)), (h_this_page_row, .inl (c_this_page_row, 420, .inl a_page_row))]) rfl (by decide) (by decide) (by decide) rfl (va_recv hK hP (ci := 5) (q0 := 2) rfl rfl) rfl hl.1 rfl (lv_room (Nat.le_of_ble_eq_true rfl)) d_Writer_writeWhole_70 ⟨Nat.zero_le _, Nat.zero_le _⟩ (fun r9 u9 H locs h9 hP hD hS => ?_)
  cases h9
  have hP : va_P (dC, dI) classes (WS_Writer_writeWhole g_this_exact h_this h_this_digits h_this_page h_this_page_row c_this_digits c_this_page_row v_count v_letter v_flags v_width v_precision a_digits v_page_length a_page_row) H := hP.sub [0, 1, 3, 2] rfl
  have hD : va_D A (WS_Writer_writeWhole g_this_exact h_this h_this_digits h_this_page h_this_page_row c_this_digits c_this_page_row v_count v_letter v_flags v_width v_precision a_digits v_page_length a_page_row) := hD.sub [0, 1, 3, 2] (by decide) rfl
  refine lv_istore (lv' := [(4, .int r3), (0, .ref h_this), (3, .int y3)]) hx hb d_Writer_writeWhole_73 hl (by decide) rfl (fun ls hl => ?_)
  refine lv_aload_n hx hb d_Writer_writeWhole_75 rfl (lv_at hl 1 rfl) ?_
  refine va_get (D := (dC, dI)) (ci := 6) (v := .ref h_this_page) (C := R_Writer) (T := F_Writer) (N := 8) hx hb ht i_Writer hown hK hP 0 rfl rfl 0 (by decide) (ht _ q_241) (fun _ h9 => h9) rfl d_Writer_writeWhole_76 ?_
  refine lv_bipush (v := 48) hx hb d_Writer_writeWhole_79 (by decide) ?_
  refine lv_iload_n hx hb d_Writer_writeWhole_81 rfl (lv_at hl 2 rfl) ?_
  obtain ⟨v4, a5, hf, h⟩ := bi2_x h
  refine clVv (D := (dC, dI)) (n := 2) (As := [.int (48 : Int32), .int y3]) ⟨hx, hb, hml, hown, ht⟩ (c_Page_putMany l dC dI X h_this_page h_this_page_row c_this_page_row H.size v_page_length a_page_row (48 : Int32) y3 (v4, a5) hf) (gV q_309 q_298 q_299 q_245 q_300) (by decide +kernel) ⟨rfl, rfl, Nat.le_of_ble_eq_true rfl, Nat.le_of_ble_eq_true rfl⟩ hK hP hD hS hA hX [2, 3] [0, 1] [1] rfl (wr := [(h_this, .inr (6, [.ref h_this_page, .ref g_this_exact, .ref h_this_digits, .int v_count, .int v_letter, .int v_flags, .int v_width, .int v_precision])), (h_this_digits, .inl (c_this_digits, 22, .inl a_digits))]) rfl (by decide) (by decide) (by decide) rfl (va_recv hK hP (ci := 5) (q0 := 2) rfl rfl) rfl hl.1 rfl (lv_room (Nat.le_of_ble_eq_true rfl)) d_Writer_writeWhole_82 ⟨Nat.zero_le _, Nat.zero_le _⟩ (fun u9 H locs h9 hP hD hS => ?_)
  cases h9
  have hP : va_P (dC, dI) classes (WS_Writer_writeWhole g_this_exact h_this h_this_digits h_this_page h_this_page_row c_this_digits c_this_page_row v_count v_letter v_flags v_width v_precision a_digits v4 a5) H := hP.sub [0, 1, 2, 3] rfl
  have hD : va_D A (WS_Writer_writeWhole g_this_exact h_this h_this_digits h_this_page h_this_page_row c_this_digits c_this_page_row v_count v_letter v_flags v_width v_precision a_digits v4 a5) := hD.sub [0, 1, 2, 3] (by decide) rfl
  refine lv_aload_n hx hb d_Writer_writeWhole_85 rfl (lv_at hl 1 rfl) ?_
  obtain ⟨v6, a7, hf, h⟩ := bi2_x h
  refine clVv (D := (dC, dI)) (n := 0) (As := []) ⟨hx, hb, hml, hown, ht⟩ (c_Writer_putFoundDigits l dC dI X g_this_exact h_this h_this_digits h_this_page h_this_page_row c_this_digits c_this_page_row H.size v_count v_letter v_flags v_width v_precision a_digits v4 a5 (v6, a7) hf) (gV q_314 q_315 q_316 q_239 q_317) (by decide +kernel) ⟨rfl, rfl, Nat.le_of_ble_eq_true rfl, Nat.le_of_ble_eq_true rfl⟩ hK hP hD hS hA hX [0, 1, 2, 3] [] [0, 1] rfl (wr := []) rfl (by decide) (by decide) (by decide) rfl (va_recv hK hP (ci := 6) (q0 := 0) rfl rfl) rfl hl.1 rfl (lv_room (Nat.le_of_ble_eq_true rfl)) d_Writer_writeWhole_86 ⟨Nat.zero_le _, Nat.zero_le _⟩ (fun u9 H locs h9 hP hD hS => ?_)
  cases h9
  have hP : va_P (dC, dI) classes (WS_Writer_writeWhole g_this_exact h_this h_this_digits h_this_page h_this_page_row c_this_digits c_this_page_row v_count v_letter v_flags v_width v_precision a_digits v6 a7) H := hP.sub [0, 1, 2, 3] rfl
  have hD : va_D A (WS_Writer_writeWhole g_this_exact h_this h_this_digits h_this_page h_this_page_row c_this_digits c_this_page_row v_count v_letter v_flags v_width v_precision a_digits v6 a7) := hD.sub [0, 1, 2, 3] (by decide) rfl
  refine lv_aload_n hx hb d_Writer_writeWhole_89 rfl (lv_at hl 1 rfl) ?_
  refine lv_iload hx hb d_Writer_writeWhole_90 (lv_at hl 0 rfl) ?_
  refine lv_aload_n hx hb d_Writer_writeWhole_92 rfl (lv_at hl 1 rfl) ?_
  refine va_get (D := (dC, dI)) (ci := 6) (v := .int v_precision) (C := R_Writer) (T := F_Writer) (N := 8) hx hb ht i_Writer hown hK hP 0 rfl rfl 7 (by decide) (ht _ q_233) (fun _ h9 => h9) rfl d_Writer_writeWhole_93 ?_
  refine lv_iconst (v := -1) hx hb d_Writer_writeWhole_96 (by decide) ?_
  refine lv_icmp_ne (tgt := 104) hx hb d_Writer_writeWhole_97 (by decide) (fun c8 => ?_) (fun c8 => ?_)
  · have h := if_f c8 h
    refine lv_iconst (v := 0) hx hb d_Writer_writeWhole_104 (by decide) ?_
    exact s_Writer_writeWhole_105 cx hK hA hX v_count v_letter v_flags v_width v_precision a_digits v6 a7 r3 (0 : Int32) H locs ls hP hD hS (lv_sub hl [1] rfl) h
  · have h := if_t c8 h
    refine lv_iconst (v := 1) hx hb d_Writer_writeWhole_100 (by decide) ?_
    refine lv_goto (tgt := 105) hx hb d_Writer_writeWhole_101 (by decide) ?_
    exact s_Writer_writeWhole_105 cx hK hA hX v_count v_letter v_flags v_width v_precision a_digits v6 a7 r3 (1 : Int32) H locs ls hP hD hS (lv_sub hl [1] rfl) h
set_option maxHeartbeats 4000000 in
set_option maxRecDepth 100000 in
theorem s_Writer_writeWhole_31 {p : Program} {l : Launch} {e : Env} {s : State} {m : MethodId} {args : Array Value} {below : List Frame} {meth : Method} {c : Code} {dC : Nat → ClassId} {dI : Nat → Nat → Nat} {A : Nat → Prop} {X : SXT} {g_this_exact : Nat} {h_this : Nat} {h_this_digits : Nat} {h_this_page : Nat} {h_this_page_row : Nat} {c_this_digits : ClassId} {c_this_page_row : ClassId} {res : Int32 × (Nat → Int32) × Int32 × (Nat → Int32)}  (cx : cxx p s m args meth c b_Writer_writeWhole 5 none R_Writer) (hK : va_K (dC, dI) classes [(c_this_digits, .byte), (c_this_page_row, .byte)] s) (hA : ∀ q, s.heap.size ≤ q → A q) (hX : SX X A s s.heap)  : ∀ (v_count : Int32) (v_letter : Int32) (v_flags : Int32) (v_width : Int32) (v_precision : Int32) (a_digits : (Nat → Int32)) (v_page_length : Int32) (a_page_row : (Nat → Int32)) (y1 : Int64) (H : Heap) (locs : List Loc) (ls : Array Slot), va_P (dC, dI) classes (WS_Writer_writeWhole g_this_exact h_this h_this_digits h_this_page h_this_page_row c_this_digits c_this_page_row v_count v_letter v_flags v_width v_precision a_digits v_page_length a_page_row) H → va_D A (WS_Writer_writeWhole g_this_exact h_this h_this_digits h_this_page h_this_page_row c_this_digits c_this_page_row v_count v_letter v_flags v_width v_precision a_digits v_page_length a_page_row) → va_S A s.heap H locs → lv_has ls 5 [(0, .ref h_this), (1, .long y1)] → f_Writer_writeWhole_31 v_count v_letter v_flags v_width v_precision a_digits v_page_length a_page_row y1 = some res → W p l e ({ frames := 6, cells := 0, slots := 0, locals := 135 }) s m args below meth c H locs 0 0 (MQ below (va_Qv (fun (u : Int32 × (Nat → Int32) × Int32 × (Nat → Int32)) => some u = some res) (gB (dC, dI) [(c_this_digits, .byte), (c_this_page_row, .byte)] A (fun (u : Int32 × (Nat → Int32) × Int32 × (Nat → Int32)) => (WS_Writer_writeWhole g_this_exact h_this h_this_digits h_this_page h_this_page_row c_this_digits c_this_page_row u.1 v_letter v_flags v_width v_precision u.2.1 u.2.2.1 u.2.2.2))) A) args s 0 0 A) (F0 m 31 ls []) := by
  intro v_count v_letter v_flags v_width v_precision a_digits v_page_length a_page_row y1 H locs ls hP hD hS hl h
  obtain ⟨hx, hb, hr, hml, hown, ht, hlk⟩ := id cx
  refine lv_aload_n hx hb d_Writer_writeWhole_31 rfl (lv_at hl 0 rfl) ?_
  refine lv_lload_n hx hb d_Writer_writeWhole_32 rfl (lv_at hl 1 rfl) ?_
  obtain ⟨v9, a10, hf, h⟩ := bi2_x h
  refine clVv (D := (dC, dI)) (n := 1) (As := [.long y1]) ⟨hx, hb, hml, hown, ht⟩ (c_Writer_findDigits l dC dI X h_this_page g_this_exact h_this h_this_digits c_this_digits H.size v_count v_letter v_flags v_width v_precision a_digits y1 (v9, a10) hf) (gV q_318 q_319 q_320 q_239 q_321) (by decide +kernel) ⟨rfl, rfl, Nat.le_of_ble_eq_true rfl, Nat.le_of_ble_eq_true rfl⟩ hK hP hD hS hA hX [0, 1] [2, 3] [0] rfl (wr := [(h_this_page, .inr (5, [.ref h_this_page_row, .int v_page_length])), (h_this_page_row, .inl (c_this_page_row, 420, .inl a_page_row))]) rfl (by decide) (by decide) (by decide) rfl (va_recv hK hP (ci := 6) (q0 := 0) rfl rfl) rfl hl.1 rfl (lv_room (Nat.le_of_ble_eq_true rfl)) d_Writer_writeWhole_33 ⟨Nat.zero_le _, Nat.zero_le _⟩ (fun u9 H locs h9 hP hD hS => ?_)
  cases h9
  have hP : va_P (dC, dI) classes (WS_Writer_writeWhole g_this_exact h_this h_this_digits h_this_page h_this_page_row c_this_digits c_this_page_row v9 v_letter v_flags v_width v_precision a10 v_page_length a_page_row) H := hP.sub [2, 3, 0, 1] rfl
  have hD : va_D A (WS_Writer_writeWhole g_this_exact h_this h_this_digits h_this_page h_this_page_row c_this_digits c_this_page_row v9 v_letter v_flags v_width v_precision a10 v_page_length a_page_row) := hD.sub [2, 3, 0, 1] (by decide) rfl
  refine lv_iconst (v := 0) hx hb d_Writer_writeWhole_36 (by decide) ?_
  refine lv_aload_n hx hb d_Writer_writeWhole_37 rfl (lv_at hl 0 rfl) ?_
  refine lv_iconst (v := 1) hx hb d_Writer_writeWhole_38 (by decide) ?_
  obtain ⟨r11, hf, h⟩ := bi1_x h
  refine clVi (D := (dC, dI)) (n := 1) (As := [.int (1 : Int32)]) ⟨hx, hb, hml, hown, ht⟩ (c_Writer_precisionOr l dC dI X h_this_page g_this_exact h_this_digits h_this H.size v9 v_letter v_flags v_width v_precision (1 : Int32) r11 hf) (gV q_322 q_323 q_324 q_239 q_325) (by decide +kernel) ⟨rfl, rfl, Nat.le_of_ble_eq_true rfl, Nat.le_of_ble_eq_true rfl⟩ hK hP hD hS hA hX [0] [1, 2, 3] [] rfl (wr := [(h_this_digits, .inl (c_this_digits, 22, .inl a10)), (h_this_page, .inr (5, [.ref h_this_page_row, .int v_page_length])), (h_this_page_row, .inl (c_this_page_row, 420, .inl a_page_row))]) rfl (by decide) (by decide) (by decide) rfl (va_recv hK hP (ci := 6) (q0 := 0) rfl rfl) rfl hl.1 rfl (lv_room (Nat.le_of_ble_eq_true rfl)) d_Writer_writeWhole_39 ⟨Nat.zero_le _, Nat.zero_le _⟩ (fun r9 u9 H locs h9 hP hD hS => ?_)
  cases h9
  have hP : va_P (dC, dI) classes (WS_Writer_writeWhole g_this_exact h_this h_this_digits h_this_page h_this_page_row c_this_digits c_this_page_row v9 v_letter v_flags v_width v_precision a10 v_page_length a_page_row) H := hP.sub [3, 0, 1, 2] rfl
  have hD : va_D A (WS_Writer_writeWhole g_this_exact h_this h_this_digits h_this_page h_this_page_row c_this_digits c_this_page_row v9 v_letter v_flags v_width v_precision a10 v_page_length a_page_row) := hD.sub [3, 0, 1, 2] (by decide) rfl
  refine lv_aload_n hx hb d_Writer_writeWhole_42 rfl (lv_at hl 0 rfl) ?_
  refine va_get (D := (dC, dI)) (ci := 6) (v := .int v9) (C := R_Writer) (T := F_Writer) (N := 8) hx hb ht i_Writer hown hK hP 0 rfl rfl 3 (by decide) (ht _ q_247) (fun _ h9 => h9) rfl d_Writer_writeWhole_43 ?_
  refine lv_isub hx hb d_Writer_writeWhole_46 ?_
  refine va_mmax hx hb (hml.trans hl.1.symm) hown (ht _ q_326) (ht _ q_101) (ht _ q_40) (ht _ q_102) (Nat.le_of_ble_eq_true rfl) (Nat.le_of_ble_eq_true rfl) (Nat.zero_le _) (Nat.zero_le _) d_Writer_writeWhole_47 ?_
  refine W.eq (g2 := F0 m 50 ls (.int (imx (0 : Int32) (r11 - v9)) :: [])) rfl ?_
  refine lv_topi (fun x12 e_x12 => ?_)
  have h := bd_g e_x12 h
  refine lv_istore_n (lv' := [(3, .int x12), (0, .ref h_this), (1, .long y1)]) hx hb d_Writer_writeWhole_50 rfl hl (by decide) rfl (fun ls hl => ?_)
  refine lv_aload_n hx hb d_Writer_writeWhole_51 rfl (lv_at hl 1 rfl) ?_
  refine lv_bipush (v := 8) hx hb d_Writer_writeWhole_52 (by decide) ?_
  obtain ⟨r13, hf, h⟩ := bi1_x h
  refine clVi (D := (dC, dI)) (n := 1) (As := [.int (8 : Int32)]) ⟨hx, hb, hml, hown, ht⟩ (c_Writer_has l dC dI X h_this_page g_this_exact h_this_digits h_this H.size v9 v_letter v_flags v_width v_precision (8 : Int32) r13 hf) (gV q_236 q_237 q_238 q_239 q_240) (by decide +kernel) ⟨rfl, rfl, Nat.le_of_ble_eq_true rfl, Nat.le_of_ble_eq_true rfl⟩ hK hP hD hS hA hX [0] [1, 2, 3] [] rfl (wr := [(h_this_digits, .inl (c_this_digits, 22, .inl a10)), (h_this_page, .inr (5, [.ref h_this_page_row, .int v_page_length])), (h_this_page_row, .inl (c_this_page_row, 420, .inl a_page_row))]) rfl (by decide) (by decide) (by decide) rfl (va_recv hK hP (ci := 6) (q0 := 0) rfl rfl) rfl hl.1 rfl (lv_room (Nat.le_of_ble_eq_true rfl)) d_Writer_writeWhole_54 ⟨Nat.zero_le _, Nat.zero_le _⟩ (fun r9 u9 H locs h9 hP hD hS => ?_)
  cases h9
  have hP : va_P (dC, dI) classes (WS_Writer_writeWhole g_this_exact h_this h_this_digits h_this_page h_this_page_row c_this_digits c_this_page_row v9 v_letter v_flags v_width v_precision a10 v_page_length a_page_row) H := hP.sub [3, 0, 1, 2] rfl
  have hD : va_D A (WS_Writer_writeWhole g_this_exact h_this h_this_digits h_this_page h_this_page_row c_this_digits c_this_page_row v9 v_letter v_flags v_width v_precision a10 v_page_length a_page_row) := hD.sub [3, 0, 1, 2] (by decide) rfl
  refine lv_if_eq (tgt := 66) hx hb d_Writer_writeWhole_57 (by decide) (fun c14 => ?_) (fun c14 => ?_)
  · have h := if_t c14 h
    exact s_Writer_writeWhole_66 cx hK hA hX v9 v_letter v_flags v_width v_precision a10 v_page_length a_page_row x12 H locs ls hP hD hS (lv_sub hl [1, 0] rfl) h
  · have h := if_f c14 h
    refine lv_aload_n hx hb d_Writer_writeWhole_60 rfl (lv_at hl 1 rfl) ?_
    refine lv_lload_n hx hb d_Writer_writeWhole_61 rfl (lv_at hl 2 rfl) ?_
    refine lv_iload_n hx hb d_Writer_writeWhole_62 rfl (lv_at hl 0 rfl) ?_
    obtain ⟨v15, a16, hf, h⟩ := bi2_x h
    refine clVv (D := (dC, dI)) (n := 2) (As := [.long y1, .int x12]) ⟨hx, hb, hml, hown, ht⟩ (c_Writer_putMarkOfBase l dC dI X g_this_exact h_this_digits h_this h_this_page h_this_page_row c_this_page_row H.size v9 v_letter v_flags v_width v_precision v_page_length a_page_row y1 x12 (v15, a16) hf) (gV q_327 q_328 q_329 q_239 q_330) (by decide +kernel) ⟨rfl, rfl, Nat.le_of_ble_eq_true rfl, Nat.le_of_ble_eq_true rfl⟩ hK hP hD hS hA hX [0, 2, 3] [1] [1] rfl (wr := [(h_this_digits, .inl (c_this_digits, 22, .inl a10))]) rfl (by decide) (by decide) (by decide) rfl (va_recv hK hP (ci := 6) (q0 := 0) rfl rfl) rfl hl.1 rfl (lv_room (Nat.le_of_ble_eq_true rfl)) d_Writer_writeWhole_63 ⟨Nat.zero_le _, Nat.zero_le _⟩ (fun u9 H locs h9 hP hD hS => ?_)
    cases h9
    have hP : va_P (dC, dI) classes (WS_Writer_writeWhole g_this_exact h_this h_this_digits h_this_page h_this_page_row c_this_digits c_this_page_row v9 v_letter v_flags v_width v_precision a10 v15 a16) H := hP.sub [1, 0, 2, 3] rfl
    have hD : va_D A (WS_Writer_writeWhole g_this_exact h_this h_this_digits h_this_page h_this_page_row c_this_digits c_this_page_row v9 v_letter v_flags v_width v_precision a10 v15 a16) := hD.sub [1, 0, 2, 3] (by decide) rfl
    exact s_Writer_writeWhole_66 cx hK hA hX v9 v_letter v_flags v_width v_precision a10 v15 a16 x12 H locs ls hP hD hS (lv_sub hl [1, 0] rfl) h
set_option maxHeartbeats 4000000 in
set_option maxRecDepth 100000 in
theorem s_Writer_writeWhole_28 {p : Program} {l : Launch} {e : Env} {s : State} {m : MethodId} {args : Array Value} {below : List Frame} {meth : Method} {c : Code} {dC : Nat → ClassId} {dI : Nat → Nat → Nat} {A : Nat → Prop} {X : SXT} {g_this_exact : Nat} {h_this : Nat} {h_this_digits : Nat} {h_this_page : Nat} {h_this_page_row : Nat} {c_this_digits : ClassId} {c_this_page_row : ClassId} {res : Int32 × (Nat → Int32) × Int32 × (Nat → Int32)}  (cx : cxx p s m args meth c b_Writer_writeWhole 5 none R_Writer) (hK : va_K (dC, dI) classes [(c_this_digits, .byte), (c_this_page_row, .byte)] s) (hA : ∀ q, s.heap.size ≤ q → A q) (hX : SX X A s s.heap)  : ∀ (v_count : Int32) (v_letter : Int32) (v_flags : Int32) (v_width : Int32) (v_precision : Int32) (a_digits : (Nat → Int32)) (v_page_length : Int32) (a_page_row : (Nat → Int32)) (y1 : Int64) (z1 : Int32) (H : Heap) (locs : List Loc) (ls : Array Slot), va_P (dC, dI) classes (WS_Writer_writeWhole g_this_exact h_this h_this_digits h_this_page h_this_page_row c_this_digits c_this_page_row v_count v_letter v_flags v_width v_precision a_digits v_page_length a_page_row) H → va_D A (WS_Writer_writeWhole g_this_exact h_this h_this_digits h_this_page h_this_page_row c_this_digits c_this_page_row v_count v_letter v_flags v_width v_precision a_digits v_page_length a_page_row) → va_S A s.heap H locs → lv_has ls 5 [(0, .ref h_this), (1, .long y1)] → f_Writer_writeWhole_28 v_count v_letter v_flags v_width v_precision a_digits v_page_length a_page_row y1 z1 = some res → W p l e ({ frames := 6, cells := 0, slots := 0, locals := 135 }) s m args below meth c H locs 0 0 (MQ below (va_Qv (fun (u : Int32 × (Nat → Int32) × Int32 × (Nat → Int32)) => some u = some res) (gB (dC, dI) [(c_this_digits, .byte), (c_this_page_row, .byte)] A (fun (u : Int32 × (Nat → Int32) × Int32 × (Nat → Int32)) => (WS_Writer_writeWhole g_this_exact h_this h_this_digits h_this_page h_this_page_row c_this_digits c_this_page_row u.1 v_letter v_flags v_width v_precision u.2.1 u.2.2.1 u.2.2.2))) A) args s 0 0 A) (F0 m 28 ls [.int z1, .ref h_this]) := by
  intro v_count v_letter v_flags v_width v_precision a_digits v_page_length a_page_row y1 z1 H locs ls hP hD hS hl h
  obtain ⟨hx, hb, hr, hml, hown, ht, hlk⟩ := id cx
  obtain ⟨v17, a18, hf, h⟩ := bi2_x h
  refine clVv (D := (dC, dI)) (n := 1) (As := [.int z1]) ⟨hx, hb, hml, hown, ht⟩ (c_Writer_putSign l dC dI X g_this_exact h_this_digits h_this h_this_page h_this_page_row c_this_page_row H.size v_count v_letter v_flags v_width v_precision v_page_length a_page_row z1 (v17, a18) hf) (gV q_331 q_332 q_333 q_239 q_334) (by decide +kernel) ⟨rfl, rfl, Nat.le_of_ble_eq_true rfl, Nat.le_of_ble_eq_true rfl⟩ hK hP hD hS hA hX [0, 2, 3] [1] [1] rfl (wr := [(h_this_digits, .inl (c_this_digits, 22, .inl a_digits))]) rfl (by decide) (by decide) (by decide) rfl (va_recv hK hP (ci := 6) (q0 := 0) rfl rfl) rfl hl.1 rfl (lv_room (Nat.le_of_ble_eq_true rfl)) d_Writer_writeWhole_28 ⟨Nat.zero_le _, Nat.zero_le _⟩ (fun u9 H locs h9 hP hD hS => ?_)
  cases h9
  have hP : va_P (dC, dI) classes (WS_Writer_writeWhole g_this_exact h_this h_this_digits h_this_page h_this_page_row c_this_digits c_this_page_row v_count v_letter v_flags v_width v_precision a_digits v17 a18) H := hP.sub [1, 0, 2, 3] rfl
  have hD : va_D A (WS_Writer_writeWhole g_this_exact h_this h_this_digits h_this_page h_this_page_row c_this_digits c_this_page_row v_count v_letter v_flags v_width v_precision a_digits v17 a18) := hD.sub [1, 0, 2, 3] (by decide) rfl
  exact s_Writer_writeWhole_31 cx hK hA hX v_count v_letter v_flags v_width v_precision a_digits v17 a18 y1 H locs ls hP hD hS (lv_sub hl [0, 1] rfl) h
set_option maxHeartbeats 4000000 in
set_option maxRecDepth 100000 in
theorem s_Writer_writeWhole_e {p : Program} {l : Launch} {e : Env} {s : State} {m : MethodId} {args : Array Value} {below : List Frame} {meth : Method} {c : Code} {dC : Nat → ClassId} {dI : Nat → Nat → Nat} {A : Nat → Prop} {X : SXT} {g_this_exact : Nat} {h_this : Nat} {h_this_digits : Nat} {h_this_page : Nat} {h_this_page_row : Nat} {c_this_digits : ClassId} {c_this_page_row : ClassId} {res : Int32 × (Nat → Int32) × Int32 × (Nat → Int32)} (cx : cxx p s m args meth c b_Writer_writeWhole 5 none R_Writer) (hK : va_K (dC, dI) classes [(c_this_digits, .byte), (c_this_page_row, .byte)] s) (hA : ∀ q, s.heap.size ≤ q → A q) (hX : SX X A s s.heap) : ∀ (v_count : Int32) (v_letter : Int32) (v_flags : Int32) (v_width : Int32) (v_precision : Int32) (a_digits : (Nat → Int32)) (v_page_length : Int32) (a_page_row : (Nat → Int32)) (p1 : Int64) (H : Heap) (locs : List Loc) (ls : Array Slot), va_P (dC, dI) classes (WS_Writer_writeWhole g_this_exact h_this h_this_digits h_this_page h_this_page_row c_this_digits c_this_page_row v_count v_letter v_flags v_width v_precision a_digits v_page_length a_page_row) H → va_D A (WS_Writer_writeWhole g_this_exact h_this h_this_digits h_this_page h_this_page_row c_this_digits c_this_page_row v_count v_letter v_flags v_width v_precision a_digits v_page_length a_page_row) → va_S A s.heap H locs → lv_has ls 5 [(0, .ref h_this), (1, .long p1)] → f_Writer_writeWhole v_count v_letter v_flags v_width v_precision a_digits v_page_length a_page_row p1 = some res → W p l e ({ frames := 6, cells := 0, slots := 0, locals := 135 }) s m args below meth c H locs 0 0 (MQ below (va_Qv (fun (u : Int32 × (Nat → Int32) × Int32 × (Nat → Int32)) => some u = some res) (gB (dC, dI) [(c_this_digits, .byte), (c_this_page_row, .byte)] A (fun (u : Int32 × (Nat → Int32) × Int32 × (Nat → Int32)) => (WS_Writer_writeWhole g_this_exact h_this h_this_digits h_this_page h_this_page_row c_this_digits c_this_page_row u.1 v_letter v_flags v_width v_precision u.2.1 u.2.2.1 u.2.2.2))) A) args s 0 0 A) (F0 m 0 ls []) := by
  intro v_count v_letter v_flags v_width v_precision a_digits v_page_length a_page_row p1 H locs ls hP hD hS hl h
  obtain ⟨hx, hb, hr, hml, hown, ht, hlk⟩ := id cx
  refine lv_aload_n hx hb d_Writer_writeWhole_0 rfl (lv_at hl 0 rfl) ?_
  refine va_get (D := (dC, dI)) (ci := 6) (v := .ref h_this_page) (C := R_Writer) (T := F_Writer) (N := 8) hx hb ht i_Writer hown hK hP 0 rfl rfl 0 (by decide) (ht _ q_241) (fun _ h9 => h9) rfl d_Writer_writeWhole_1 ?_
  obtain ⟨v19, hf, h⟩ := bi1_x h
  refine clVv (D := (dC, dI)) (n := 0) (As := []) ⟨hx, hb, hml, hown, ht⟩ (c_Page_clear l dC dI X h_this_page_row h_this_page H.size v_page_length v19 hf) (gV q_335 q_336 q_337 q_245 q_338) (by decide +kernel) ⟨rfl, rfl, Nat.le_of_ble_eq_true rfl, Nat.le_of_ble_eq_true rfl⟩ hK hP hD hS hA hX [2] [0, 1, 3] [] rfl (wr := [(h_this, .inr (6, [.ref h_this_page, .ref g_this_exact, .ref h_this_digits, .int v_count, .int v_letter, .int v_flags, .int v_width, .int v_precision])), (h_this_digits, .inl (c_this_digits, 22, .inl a_digits)), (h_this_page_row, .inl (c_this_page_row, 420, .inl a_page_row))]) rfl (by decide) (by decide) (by decide) rfl (va_recv hK hP (ci := 5) (q0 := 2) rfl rfl) rfl hl.1 rfl (lv_room (Nat.le_of_ble_eq_true rfl)) d_Writer_writeWhole_4 ⟨Nat.zero_le _, Nat.zero_le _⟩ (fun u9 H locs h9 hP hD hS => ?_)
  cases h9
  have hP : va_P (dC, dI) classes (WS_Writer_writeWhole g_this_exact h_this h_this_digits h_this_page h_this_page_row c_this_digits c_this_page_row v_count v_letter v_flags v_width v_precision a_digits v19 a_page_row) H := hP.sub [0, 1, 3, 2] rfl
  have hD : va_D A (WS_Writer_writeWhole g_this_exact h_this h_this_digits h_this_page h_this_page_row c_this_digits c_this_page_row v_count v_letter v_flags v_width v_precision a_digits v19 a_page_row) := hD.sub [0, 1, 3, 2] (by decide) rfl
  refine lv_aload_n hx hb d_Writer_writeWhole_7 rfl (lv_at hl 0 rfl) ?_
  refine va_get (D := (dC, dI)) (ci := 6) (v := .int v_letter) (C := R_Writer) (T := F_Writer) (N := 8) hx hb ht i_Writer hown hK hP 0 rfl rfl 4 (by decide) (ht _ q_230) (fun _ h9 => h9) rfl d_Writer_writeWhole_8 ?_
  refine lv_bipush (v := 100) hx hb d_Writer_writeWhole_11 (by decide) ?_
  refine lv_icmp_ne (tgt := 31) hx hb d_Writer_writeWhole_13 (by decide) (fun c20 => ?_) (fun c20 => ?_)
  · have h := if_f c20 h
    exact s_Writer_writeWhole_31 cx hK hA hX v_count v_letter v_flags v_width v_precision a_digits v19 a_page_row p1 H locs ls hP hD hS (lv_sub hl [0, 1] rfl) h
  · have h := if_t c20 h
    refine lv_aload_n hx hb d_Writer_writeWhole_16 rfl (lv_at hl 0 rfl) ?_
    refine lv_lload_n hx hb d_Writer_writeWhole_17 rfl (lv_at hl 1 rfl) ?_
    refine lv_lconst (v := 0) hx hb d_Writer_writeWhole_18 (by decide) ?_
    refine W.lcmp hx hb d_Writer_writeWhole_19 ?_
    refine lv_if_ge (tgt := 27) hx hb d_Writer_writeWhole_20 (by decide) (fun c21 => ?_) (fun c21 => ?_)
    · have c21 := (lg_cmp_ge _ _).mp c21
      have h := if_t c21 h
      refine lv_iconst (v := 0) hx hb d_Writer_writeWhole_27 (by decide) ?_
      exact s_Writer_writeWhole_28 cx hK hA hX v_count v_letter v_flags v_width v_precision a_digits v19 a_page_row p1 (0 : Int32) H locs ls hP hD hS (lv_sub hl [0, 1] rfl) h
    · have c21 := fun h9 => c21 ((lg_cmp_ge _ _).mpr h9)
      have h := if_f c21 h
      refine lv_iconst (v := 1) hx hb d_Writer_writeWhole_23 (by decide) ?_
      refine lv_goto (tgt := 28) hx hb d_Writer_writeWhole_24 (by decide) ?_
      exact s_Writer_writeWhole_28 cx hK hA hX v_count v_letter v_flags v_width v_precision a_digits v19 a_page_row p1 (1 : Int32) H locs ls hP hD hS (lv_sub hl [0, 1] rfl) h
set_option maxHeartbeats 4000000 in
set_option maxRecDepth 100000 in
theorem c_Writer_writeWhole (l : Launch) (dC : Nat → ClassId) (dI : Nat → Nat → Nat) (X : SXT) (g_this_exact : Nat) (h_this : Nat) (h_this_digits : Nat) (h_this_page : Nat) (h_this_page_row : Nat) (c_this_digits : ClassId) (c_this_page_row : ClassId) (sz : Nat) (v_count : Int32) (v_letter : Int32) (v_flags : Int32) (v_width : Int32) (v_precision : Int32) (a_digits : (Nat → Int32)) (v_page_length : Int32) (a_page_row : (Nat → Int32)) (p1 : Int64) (res : Int32 × (Nat → Int32) × Int32 × (Nat → Int32)) (hf : f_Writer_writeWhole v_count v_letter v_flags v_width v_precision a_digits v_page_length a_page_row p1 = some res) : Met l y_Writer_writeWhole (.code y_Writer_writeWhole b_Writer_writeWhole 5 none :: w0) ({ frames := 6, cells := 0, slots := 0, locals := 135 }) (va_Pc [.ref h_this, .long p1] (gP (dC, dI) (WS_Writer_writeWhole g_this_exact h_this h_this_digits h_this_page h_this_page_row c_this_digits c_this_page_row v_count v_letter v_flags v_width v_precision a_digits v_page_length a_page_row) [(c_this_digits, .byte), (c_this_page_row, .byte)] sz X)) (va_Qv (fun (u : Int32 × (Nat → Int32) × Int32 × (Nat → Int32)) => some u = some res) (gB (dC, dI) [(c_this_digits, .byte), (c_this_page_row, .byte)] (va_A (WS_Writer_writeWhole g_this_exact h_this h_this_digits h_this_page h_this_page_row c_this_digits c_this_page_row v_count v_letter v_flags v_width v_precision a_digits v_page_length a_page_row) sz) (fun (u : Int32 × (Nat → Int32) × Int32 × (Nat → Int32)) => (WS_Writer_writeWhole g_this_exact h_this h_this_digits h_this_page h_this_page_row c_this_digits c_this_page_row u.1 v_letter v_flags v_width v_precision u.2.1 u.2.2.1 u.2.2.2))) (va_A (WS_Writer_writeWhole g_this_exact h_this h_this_digits h_this_page h_this_page_row c_this_digits c_this_page_row v_count v_letter v_flags v_width v_precision a_digits v_page_length a_page_row) sz)) 0 0 (va_A (WS_Writer_writeWhole g_this_exact h_this h_this_digits h_this_page h_this_page_row c_this_digits c_this_page_row v_count v_letter v_flags v_width v_precision a_digits v_page_length a_page_row) sz) := by
  refine Met.ofW (cc := b_Writer_writeWhole) (maxL := 5) (ret := none) (by decide) rfl ?_
  intro p e s m args below meth c s₁ B hml hv
  obtain ⟨rfl, hsz, hP, hK, hD0, hX⟩ := hv
  subst hsz
  have cx : cxx p s m ([.ref h_this, .long p1] : List Value).toArray meth c b_Writer_writeWhole 5 none R_Writer := ⟨B.exec, B.bytes, B.returns, hml, findClass_of_methodNamed B.named, fun w9 hw => atoms_spec (ws := .code y_Writer_writeWhole b_Writer_writeWhole 5 none :: w0) B.pre w9 (List.mem_cons_of_mem _ hw), B.notSynchronized⟩
  have hD := hD0.self (sz := s.heap.size)
  generalize hAe : va_A (WS_Writer_writeWhole g_this_exact h_this h_this_digits h_this_page h_this_page_row c_this_digits c_this_page_row v_count v_letter v_flags v_width v_precision a_digits v_page_length a_page_row) s.heap.size = A at hD hX ⊢
  have hA : ∀ q : Nat, s.heap.size ≤ q → A q := fun q h => by rw [← hAe]; exact Or.inr h
  have hS : va_S A s.heap s.heap [] := va_S.rf
  have hl := lv_entry ([.ref h_this, .long p1]) (n := 5) (Nat.le_of_ble_eq_true rfl)
  rw [lg_entry_eq]
  generalize (lg_sl ([.ref h_this, .long p1]) ++ List.replicate (5 - (lg_sl ([.ref h_this, .long p1])).length) Slot.unset).toArray = ls at hl ⊢
  have hl : lv_has ls 5 [(0, .ref h_this), (1, .long p1)] := hl
  exact s_Writer_writeWhole_e cx hK hA hX v_count v_letter v_flags v_width v_precision a_digits v_page_length a_page_row p1 s.heap [] ls hP hD hS hl hf
def f_String_coder (p0 : Nat) : Option (Int32) :=
  if (1 : Int32) = 0 then
    some (1 : Int32)
  else
    ck (p0 < 9) <|
    some (0 : Int32)
set_option maxHeartbeats 4000000 in
set_option maxRecDepth 100000 in
theorem s_String_coder_e {p : Program} {l : Launch} {e : Env} {s : State} {m : MethodId} {args : Array Value} {below : List Frame} {meth : Method} {c : Code} {dC : Nat → ClassId} {dI : Nat → Nat → Nat} {A : Nat → Prop} {X : SXT} {res : Int32} (cx : cxx p s m args meth c b_String_coder 1 (some .byte) R_String) (hK : va_K (dC, dI) classes [] s) (hA : ∀ q, s.heap.size ≤ q → A q) (hX : SX X A s s.heap) : ∀ (p0 : Nat) (H : Heap) (locs : List Loc) (ls : Array Slot), va_P (dC, dI) classes [] H → va_D A [] → va_S A s.heap H locs → lv_has ls 1 [(0, .ref (X.2.1 p0))] → f_String_coder p0 = some res → W p l e ({ frames := 0, cells := 0, slots := 0, locals := 0 }) s m args below meth c H locs 0 0 (MQ below (va_Qi (fun (r : Int32) (_ : Unit) => some r = some res) (gB (dC, dI) [] A (fun (u : Unit) => [])) A) args s 0 0 A) (F0 m 0 ls []) := by
  intro p0 H locs ls hP hD hS hl h
  obtain ⟨hx, hb, hr, hml, hown, ht, hlk⟩ := id cx
  refine va_gets hx hb hX.2.2.2.1 hS hown (ht _ q_250) (fun _ h9 => h9) d_String_coder_0 ?_
  refine lv_if_eq (tgt := 13) hx hb d_String_coder_3 (by decide) (fun c1 => ?_) (fun c1 => ?_)
  · have h := if_t c1 h
    refine lv_iconst (v := 1) hx hb d_String_coder_13 (by decide) ?_
    exact W.zret (v := (1 : Int32)) hx hb hr rfl (fun t ht9 hW => ⟨⟨(1 : Int32), (), rfl, h, by rw [ht9]; exact hP, va_K.moved hW.alike hK, hD⟩, hS.F ht9⟩) hS.2.2 d_String_coder_14 hlk
  · have h := if_f c1 h
    refine lv_aload_n hx hb d_String_coder_6 rfl (lv_at hl 0 rfl) ?_
    obtain ⟨c2, h⟩ := ck_x h
    refine vk_getf hx hb ((hX.2.2.1.1 p0 c2).2.1) hS hown (ht _ q_251) (fun _ h9 => h9) d_String_coder_7 ?_
    refine lv_goto (tgt := 14) hx hb d_String_coder_10 (by decide) ?_
    exact W.zret (v := (0 : Int32)) hx hb hr rfl (fun t ht9 hW => ⟨⟨(0 : Int32), (), rfl, h, by rw [ht9]; exact hP, va_K.moved hW.alike hK, hD⟩, hS.F ht9⟩) hS.2.2 d_String_coder_14 hlk
set_option maxHeartbeats 4000000 in
set_option maxRecDepth 100000 in
theorem c_String_coder (l : Launch) (dC : Nat → ClassId) (dI : Nat → Nat → Nat) (X : SXT) (sz : Nat) (p0 : Nat) (res : Int32) (hf : f_String_coder p0 = some res) : Met l y_String_coder (.code y_String_coder b_String_coder 1 (some .byte) :: w0) ({ frames := 0, cells := 0, slots := 0, locals := 0 }) (va_Pc [.ref (X.2.1 p0)] (gP (dC, dI) [] [] sz X)) (va_Qi (fun (r : Int32) (_ : Unit) => some r = some res) (gB (dC, dI) [] (va_A [] sz) (fun (u : Unit) => [])) (va_A [] sz)) 0 0 (va_A [] sz) := by
  refine Met.ofW (cc := b_String_coder) (maxL := 1) (ret := (some .byte)) (by decide) rfl ?_
  intro p e s m args below meth c s₁ B hml hv
  obtain ⟨rfl, hsz, hP, hK, hD0, hX⟩ := hv
  subst hsz
  have cx : cxx p s m ([.ref (X.2.1 p0)] : List Value).toArray meth c b_String_coder 1 (some .byte) R_String := ⟨B.exec, B.bytes, B.returns, hml, findClass_of_methodNamed B.named, fun w9 hw => atoms_spec (ws := .code y_String_coder b_String_coder 1 (some .byte) :: w0) B.pre w9 (List.mem_cons_of_mem _ hw), B.notSynchronized⟩
  have hD := hD0.self (sz := s.heap.size)
  generalize hAe : va_A [] s.heap.size = A at hD hX ⊢
  have hA : ∀ q : Nat, s.heap.size ≤ q → A q := fun q h => by rw [← hAe]; exact Or.inr h
  have hS : va_S A s.heap s.heap [] := va_S.rf
  have hl := lv_entry ([.ref (X.2.1 p0)]) (n := 1) (Nat.le_of_ble_eq_true rfl)
  rw [lg_entry_eq]
  generalize (lg_sl ([.ref (X.2.1 p0)]) ++ List.replicate (1 - (lg_sl ([.ref (X.2.1 p0)])).length) Slot.unset).toArray = ls at hl ⊢
  have hl : lv_has ls 1 [(0, .ref (X.2.1 p0))] := hl
  exact s_String_coder_e cx hK hA hX p0 s.heap [] ls hP hD hS hl hf
def f_String_length (p0 : Nat) : Option (Int32) :=
  ck (p0 < 9) <|
  ck (p0 < 9) <|
  ck (p0 < 9) <|
  bi1 (f_String_coder p0) fun r4 =>
  some ((nI (lenS.getD p0 0)) >>> (r4 &&& 31))
set_option maxHeartbeats 4000000 in
set_option maxRecDepth 100000 in
theorem s_String_length_e {p : Program} {l : Launch} {e : Env} {s : State} {m : MethodId} {args : Array Value} {below : List Frame} {meth : Method} {c : Code} {dC : Nat → ClassId} {dI : Nat → Nat → Nat} {A : Nat → Prop} {X : SXT} {res : Int32} (cx : cxx p s m args meth c b_String_length 1 (some .int) R_String) (hK : va_K (dC, dI) classes [] s) (hA : ∀ q, s.heap.size ≤ q → A q) (hX : SX X A s s.heap) : ∀ (p0 : Nat) (H : Heap) (locs : List Loc) (ls : Array Slot), va_P (dC, dI) classes [] H → va_D A [] → va_S A s.heap H locs → lv_has ls 1 [(0, .ref (X.2.1 p0))] → f_String_length p0 = some res → W p l e ({ frames := 1, cells := 0, slots := 0, locals := 20 }) s m args below meth c H locs 0 0 (MQ below (va_Qi (fun (r : Int32) (_ : Unit) => some r = some res) (gB (dC, dI) [] A (fun (u : Unit) => [])) A) args s 0 0 A) (F0 m 0 ls []) := by
  intro p0 H locs ls hP hD hS hl h
  obtain ⟨hx, hb, hr, hml, hown, ht, hlk⟩ := id cx
  refine lv_aload_n hx hb d_String_length_0 rfl (lv_at hl 0 rfl) ?_
  obtain ⟨c1, h⟩ := ck_x h
  refine vk_getf hx hb ((hX.2.2.1.1 p0 c1).2.2.1) hS hown (ht _ q_265) (fun _ h9 => h9) d_String_length_1 ?_
  obtain ⟨c2, h⟩ := ck_x h
  refine va_tlen (v := nI (lenS.getD p0 0)) hx hb ((hX.2.2.1.1 p0 c2).2.2.2) hS rfl d_String_length_4 ?_
  refine lv_aload_n hx hb d_String_length_5 rfl (lv_at hl 0 rfl) ?_
  obtain ⟨c3, h⟩ := ck_x h
  obtain ⟨r4, hf, h⟩ := bi1_x h
  refine clVi (D := (dC, dI)) (n := 0) (As := []) ⟨hx, hb, hml, hown, ht⟩ (c_String_coder l dC dI X  H.size p0 r4 hf) (gV q_339 q_340 q_341 q_259 q_342) (by decide +kernel) ⟨rfl, rfl, Nat.le_of_ble_eq_true rfl, Nat.le_of_ble_eq_true rfl⟩ hK hP hD hS hA hX [] [] [] rfl (wr := []) rfl (by decide) (by decide) (by decide) rfl (vk_recv hX.2.2.1 c3 hS) rfl hl.1 rfl (lv_room (Nat.le_of_ble_eq_true rfl)) d_String_length_6 ⟨Nat.zero_le _, Nat.zero_le _⟩ (fun r9 u9 H locs h9 hP hD hS => ?_)
  cases h9
  refine lv_ishr hx hb d_String_length_9 ?_
  exact W.iret (v := ((nI (lenS.getD p0 0)) >>> (r4 &&& 31))) hx hb hr (fun t ht9 hW => ⟨⟨((nI (lenS.getD p0 0)) >>> (r4 &&& 31)), (), rfl, h, by rw [ht9]; exact hP, va_K.moved hW.alike hK, hD⟩, hS.F ht9⟩) hS.2.2 d_String_length_10 hlk
set_option maxHeartbeats 4000000 in
set_option maxRecDepth 100000 in
theorem c_String_length (l : Launch) (dC : Nat → ClassId) (dI : Nat → Nat → Nat) (X : SXT) (sz : Nat) (p0 : Nat) (res : Int32) (hf : f_String_length p0 = some res) : Met l y_String_length (.code y_String_length b_String_length 1 (some .int) :: w0) ({ frames := 1, cells := 0, slots := 0, locals := 20 }) (va_Pc [.ref (X.2.1 p0)] (gP (dC, dI) [] [] sz X)) (va_Qi (fun (r : Int32) (_ : Unit) => some r = some res) (gB (dC, dI) [] (va_A [] sz) (fun (u : Unit) => [])) (va_A [] sz)) 0 0 (va_A [] sz) := by
  refine Met.ofW (cc := b_String_length) (maxL := 1) (ret := (some .int)) (by decide) rfl ?_
  intro p e s m args below meth c s₁ B hml hv
  obtain ⟨rfl, hsz, hP, hK, hD0, hX⟩ := hv
  subst hsz
  have cx : cxx p s m ([.ref (X.2.1 p0)] : List Value).toArray meth c b_String_length 1 (some .int) R_String := ⟨B.exec, B.bytes, B.returns, hml, findClass_of_methodNamed B.named, fun w9 hw => atoms_spec (ws := .code y_String_length b_String_length 1 (some .int) :: w0) B.pre w9 (List.mem_cons_of_mem _ hw), B.notSynchronized⟩
  have hD := hD0.self (sz := s.heap.size)
  generalize hAe : va_A [] s.heap.size = A at hD hX ⊢
  have hA : ∀ q : Nat, s.heap.size ≤ q → A q := fun q h => by rw [← hAe]; exact Or.inr h
  have hS : va_S A s.heap s.heap [] := va_S.rf
  have hl := lv_entry ([.ref (X.2.1 p0)]) (n := 1) (Nat.le_of_ble_eq_true rfl)
  rw [lg_entry_eq]
  generalize (lg_sl ([.ref (X.2.1 p0)]) ++ List.replicate (1 - (lg_sl ([.ref (X.2.1 p0)])).length) Slot.unset).toArray = ls at hl ⊢
  have hl : lv_has ls 1 [(0, .ref (X.2.1 p0))] := hl
  exact s_String_length_e cx hK hA hX p0 s.heap [] ls hP hD hS hl hf
abbrev WS_Page_putText (h_this : Nat) (h_this_row : Nat) (c_this_row : ClassId) (v_length : Int32) (a_row : (Nat → Int32)) : va_W := [(h_this, .inr (5, [.ref h_this_row, .int v_length])), (h_this_row, .inl (c_this_row, 420, .inl a_row))]
def f_Page_putText_2b (k2 : Int32 → (Nat → Int32) → Nat → Int32 → Option (Int32 × (Nat → Int32))) (v_length : Int32) (a_row : (Nat → Int32)) (y1 : Nat) (y2 : Int32) : Option (Int32 × (Nat → Int32)) :=
  ck (y1 < 9) <|
  bi1 (f_String_length y1) fun r2 =>
  if r2 ≤ y2 then
    some (v_length, a_row)
  else
    ck (y1 < 9) <|
    bi1 (f_String_charAt y1 y2) fun r5 =>
    bi2 (f_Page_put v_length a_row r5) fun v6 a7 =>
    bd (y2 + (1 : Int32)) fun x8 =>
    k2 v6 a7 y1 x8
def f_Page_putText_2 : Nat → Int32 → (Nat → Int32) → Nat → Int32 → Option (Int32 × (Nat → Int32))
  | 0 => fun _ _ _ _ => none
  | n + 1 => fun v_length a_row y1 y2 => f_Page_putText_2b (f_Page_putText_2 n) v_length a_row y1 y2
def f_Page_putText (v_length : Int32) (a_row : (Nat → Int32)) (p1 : Nat) : Option (Int32 × (Nat → Int32)) :=
  f_Page_putText_2 fu v_length a_row p1 (0 : Int32)
set_option maxHeartbeats 4000000 in
set_option maxRecDepth 100000 in
theorem s_Page_putText_2b {p : Program} {l : Launch} {e : Env} {s : State} {m : MethodId} {args : Array Value} {below : List Frame} {meth : Method} {c : Code} {dC : Nat → ClassId} {dI : Nat → Nat → Nat} {A : Nat → Prop} {X : SXT} {h_this : Nat} {h_this_row : Nat} {c_this_row : ClassId} {res : Int32 × (Nat → Int32)} {k2 : Int32 → (Nat → Int32) → Nat → Int32 → Option (Int32 × (Nat → Int32))} (cx : cxx p s m args meth c b_Page_putText 3 none R_Page) (hK : va_K (dC, dI) classes [(c_this_row, .byte)] s) (hA : ∀ q, s.heap.size ≤ q → A q) (hX : SX X A s s.heap) (hk2 : ∀ (v_length : Int32) (a_row : (Nat → Int32)) (y1 : Nat) (y2 : Int32) (H : Heap) (locs : List Loc) (ls : Array Slot), va_P (dC, dI) classes (WS_Page_putText h_this h_this_row c_this_row v_length a_row) H → va_D A (WS_Page_putText h_this h_this_row c_this_row v_length a_row) → va_S A s.heap H locs → lv_has ls 3 [(0, .ref h_this), (1, .ref (X.2.1 y1)), (2, .int y2)] → k2 v_length a_row y1 y2 = some res → W p l e ({ frames := 4, cells := 0, slots := 0, locals := 85 }) s m args below meth c H locs 0 0 (MQ below (va_Qv (fun (u : Int32 × (Nat → Int32)) => some u = some res) (gB (dC, dI) [(c_this_row, .byte)] A (fun (u : Int32 × (Nat → Int32)) => (WS_Page_putText h_this h_this_row c_this_row u.1 u.2))) A) args s 0 0 A) (F0 m 2 ls [])) : ∀ (v_length : Int32) (a_row : (Nat → Int32)) (y1 : Nat) (y2 : Int32) (H : Heap) (locs : List Loc) (ls : Array Slot), va_P (dC, dI) classes (WS_Page_putText h_this h_this_row c_this_row v_length a_row) H → va_D A (WS_Page_putText h_this h_this_row c_this_row v_length a_row) → va_S A s.heap H locs → lv_has ls 3 [(0, .ref h_this), (1, .ref (X.2.1 y1)), (2, .int y2)] → f_Page_putText_2b k2 v_length a_row y1 y2 = some res → W p l e ({ frames := 4, cells := 0, slots := 0, locals := 85 }) s m args below meth c H locs 0 0 (MQ below (va_Qv (fun (u : Int32 × (Nat → Int32)) => some u = some res) (gB (dC, dI) [(c_this_row, .byte)] A (fun (u : Int32 × (Nat → Int32)) => (WS_Page_putText h_this h_this_row c_this_row u.1 u.2))) A) args s 0 0 A) (F0 m 2 ls []) := by
  intro v_length a_row y1 y2 H locs ls hP hD hS hl h
  obtain ⟨hx, hb, hr, hml, hown, ht, hlk⟩ := id cx
  refine lv_iload_n hx hb d_Page_putText_2 rfl (lv_at hl 2 rfl) ?_
  refine lv_aload_n hx hb d_Page_putText_3 rfl (lv_at hl 1 rfl) ?_
  obtain ⟨c1, h⟩ := ck_x h
  obtain ⟨r2, hf, h⟩ := bi1_x h
  refine clVi (D := (dC, dI)) (n := 0) (As := []) ⟨hx, hb, hml, hown, ht⟩ (c_String_length l dC dI X  H.size y1 r2 hf) (gV q_343 q_344 q_345 q_259 q_346) (by decide +kernel) ⟨rfl, rfl, Nat.le_of_ble_eq_true rfl, Nat.le_of_ble_eq_true rfl⟩ hK hP hD hS hA hX [] [0, 1] [] rfl (wr := [(h_this, .inr (5, [.ref h_this_row, .int v_length])), (h_this_row, .inl (c_this_row, 420, .inl a_row))]) rfl (by decide) (by decide) (by decide) rfl (vk_recv hX.2.2.1 c1 hS) rfl hl.1 rfl (lv_room (Nat.le_of_ble_eq_true rfl)) d_Page_putText_4 ⟨Nat.zero_le _, Nat.zero_le _⟩ (fun r9 u9 H locs h9 hP hD hS => ?_)
  cases h9
  have hP : va_P (dC, dI) classes (WS_Page_putText h_this h_this_row c_this_row v_length a_row) H := hP.sub [0, 1] rfl
  have hD : va_D A (WS_Page_putText h_this h_this_row c_this_row v_length a_row) := hD.sub [0, 1] (by decide) rfl
  refine lv_icmp_ge (tgt := 25) hx hb d_Page_putText_7 (by decide) (fun c3 => ?_) (fun c3 => ?_)
  · have h := if_t c3 h
    exact W.vret hx hb hr (fun t ht9 hW => ⟨⟨(v_length, a_row), rfl, h, by rw [ht9]; exact hP, va_K.moved hW.alike hK, hD⟩, hS.F ht9⟩) hS.2.2 d_Page_putText_25 hlk
  · have h := if_f c3 h
    refine lv_aload_n hx hb d_Page_putText_10 rfl (lv_at hl 0 rfl) ?_
    refine lv_aload_n hx hb d_Page_putText_11 rfl (lv_at hl 1 rfl) ?_
    refine lv_iload_n hx hb d_Page_putText_12 rfl (lv_at hl 2 rfl) ?_
    obtain ⟨c4, h⟩ := ck_x h
    obtain ⟨r5, hf, h⟩ := bi1_x h
    refine clVi (D := (dC, dI)) (n := 1) (As := [.int y2]) ⟨hx, hb, hml, hown, ht⟩ (c_String_charAt l dC dI X  H.size y1 y2 r5 hf) (gV q_347 q_276 q_277 q_259 q_278) (by decide +kernel) ⟨rfl, rfl, Nat.le_of_ble_eq_true rfl, Nat.le_of_ble_eq_true rfl⟩ hK hP hD hS hA hX [] [0, 1] [] rfl (wr := [(h_this, .inr (5, [.ref h_this_row, .int v_length])), (h_this_row, .inl (c_this_row, 420, .inl a_row))]) rfl (by decide) (by decide) (by decide) rfl (vk_recv hX.2.2.1 c4 hS) rfl hl.1 rfl (lv_room (Nat.le_of_ble_eq_true rfl)) d_Page_putText_13 ⟨Nat.zero_le _, Nat.zero_le _⟩ (fun r9 u9 H locs h9 hP hD hS => ?_)
    cases h9
    have hP : va_P (dC, dI) classes (WS_Page_putText h_this h_this_row c_this_row v_length a_row) H := hP.sub [0, 1] rfl
    have hD : va_D A (WS_Page_putText h_this h_this_row c_this_row v_length a_row) := hD.sub [0, 1] (by decide) rfl
    obtain ⟨v6, a7, hf, h⟩ := bi2_x h
    refine clVv (D := (dC, dI)) (n := 1) (As := [.int r5]) ⟨hx, hb, hml, hown, ht⟩ (c_Page_put l dC dI X h_this h_this_row c_this_row H.size v_length a_row r5 (v6, a7) hf) (gV q_291 q_243 q_244 q_245 q_246) (by decide +kernel) ⟨rfl, rfl, Nat.le_of_ble_eq_true rfl, Nat.le_of_ble_eq_true rfl⟩ hK hP hD hS hA hX [0, 1] [] [0] rfl (wr := []) rfl (by decide) (by decide) (by decide) rfl (va_recv hK hP (ci := 5) (q0 := 0) rfl rfl) rfl hl.1 rfl (lv_room (Nat.le_of_ble_eq_true rfl)) d_Page_putText_16 ⟨Nat.zero_le _, Nat.zero_le _⟩ (fun u9 H locs h9 hP hD hS => ?_)
    cases h9
    have hP : va_P (dC, dI) classes (WS_Page_putText h_this h_this_row c_this_row v6 a7) H := hP.sub [0, 1] rfl
    have hD : va_D A (WS_Page_putText h_this h_this_row c_this_row v6 a7) := hD.sub [0, 1] (by decide) rfl
    obtain ⟨x8, e_x8⟩ : ∃ y : Int32, y = y2 + (1 : Int32) := ⟨_, rfl⟩
    refine lv_iinc (v := x8) (lv' := [(2, .int x8), (0, .ref h_this), (1, .ref (X.2.1 y1))]) hx hb d_Page_putText_19 hl (k := 2) rfl (by rw [e_x8]; rfl) (by decide) rfl (fun ls hl => ?_)
    have h := bd_g e_x8 h
    refine lv_goto (tgt := 2) hx hb d_Page_putText_22 (by decide) ?_
    exact hk2 v6 a7 y1 x8 H locs ls hP hD hS (lv_sub hl [1, 2, 0] rfl) h
set_option maxHeartbeats 4000000 in
set_option maxRecDepth 100000 in
theorem s_Page_putText_2 {p : Program} {l : Launch} {e : Env} {s : State} {m : MethodId} {args : Array Value} {below : List Frame} {meth : Method} {c : Code} {dC : Nat → ClassId} {dI : Nat → Nat → Nat} {A : Nat → Prop} {X : SXT} {h_this : Nat} {h_this_row : Nat} {c_this_row : ClassId} {res : Int32 × (Nat → Int32)}  (cx : cxx p s m args meth c b_Page_putText 3 none R_Page) (hK : va_K (dC, dI) classes [(c_this_row, .byte)] s) (hA : ∀ q, s.heap.size ≤ q → A q) (hX : SX X A s s.heap)  : ∀ n : Nat, ∀ (v_length : Int32) (a_row : (Nat → Int32)) (y1 : Nat) (y2 : Int32) (H : Heap) (locs : List Loc) (ls : Array Slot), va_P (dC, dI) classes (WS_Page_putText h_this h_this_row c_this_row v_length a_row) H → va_D A (WS_Page_putText h_this h_this_row c_this_row v_length a_row) → va_S A s.heap H locs → lv_has ls 3 [(0, .ref h_this), (1, .ref (X.2.1 y1)), (2, .int y2)] → f_Page_putText_2 n v_length a_row y1 y2 = some res → W p l e ({ frames := 4, cells := 0, slots := 0, locals := 85 }) s m args below meth c H locs 0 0 (MQ below (va_Qv (fun (u : Int32 × (Nat → Int32)) => some u = some res) (gB (dC, dI) [(c_this_row, .byte)] A (fun (u : Int32 × (Nat → Int32)) => (WS_Page_putText h_this h_this_row c_this_row u.1 u.2))) A) args s 0 0 A) (F0 m 2 ls []) := by
  intro n
  induction n with
  | zero =>
    intro v_length a_row y1 y2 H locs ls hP hD hS hl h
    have h9 : (none : Option (Int32 × (Nat → Int32))) = some res := h
    cases h9
  | succ n ih =>
    intro v_length a_row y1 y2 H locs ls hP hD hS hl h
    exact s_Page_putText_2b cx hK hA hX ih v_length a_row y1 y2 H locs ls hP hD hS hl h
set_option maxHeartbeats 4000000 in
set_option maxRecDepth 100000 in
theorem s_Page_putText_e {p : Program} {l : Launch} {e : Env} {s : State} {m : MethodId} {args : Array Value} {below : List Frame} {meth : Method} {c : Code} {dC : Nat → ClassId} {dI : Nat → Nat → Nat} {A : Nat → Prop} {X : SXT} {h_this : Nat} {h_this_row : Nat} {c_this_row : ClassId} {res : Int32 × (Nat → Int32)} (cx : cxx p s m args meth c b_Page_putText 3 none R_Page) (hK : va_K (dC, dI) classes [(c_this_row, .byte)] s) (hA : ∀ q, s.heap.size ≤ q → A q) (hX : SX X A s s.heap) : ∀ (v_length : Int32) (a_row : (Nat → Int32)) (p1 : Nat) (H : Heap) (locs : List Loc) (ls : Array Slot), va_P (dC, dI) classes (WS_Page_putText h_this h_this_row c_this_row v_length a_row) H → va_D A (WS_Page_putText h_this h_this_row c_this_row v_length a_row) → va_S A s.heap H locs → lv_has ls 3 [(0, .ref h_this), (1, .ref (X.2.1 p1))] → f_Page_putText v_length a_row p1 = some res → W p l e ({ frames := 4, cells := 0, slots := 0, locals := 85 }) s m args below meth c H locs 0 0 (MQ below (va_Qv (fun (u : Int32 × (Nat → Int32)) => some u = some res) (gB (dC, dI) [(c_this_row, .byte)] A (fun (u : Int32 × (Nat → Int32)) => (WS_Page_putText h_this h_this_row c_this_row u.1 u.2))) A) args s 0 0 A) (F0 m 0 ls []) := by
  intro v_length a_row p1 H locs ls hP hD hS hl h
  obtain ⟨hx, hb, hr, hml, hown, ht, hlk⟩ := id cx
  refine lv_iconst (v := 0) hx hb d_Page_putText_0 (by decide) ?_
  refine lv_istore_n (lv' := [(2, .int (0 : Int32)), (0, .ref h_this), (1, .ref (X.2.1 p1))]) hx hb d_Page_putText_1 rfl hl (by decide) rfl (fun ls hl => ?_)
  exact s_Page_putText_2 cx hK hA hX fu v_length a_row p1 (0 : Int32) H locs ls hP hD hS (lv_sub hl [1, 2, 0] rfl) h
set_option maxHeartbeats 4000000 in
set_option maxRecDepth 100000 in
theorem c_Page_putText (l : Launch) (dC : Nat → ClassId) (dI : Nat → Nat → Nat) (X : SXT) (h_this : Nat) (h_this_row : Nat) (c_this_row : ClassId) (sz : Nat) (v_length : Int32) (a_row : (Nat → Int32)) (p1 : Nat) (res : Int32 × (Nat → Int32)) (hf : f_Page_putText v_length a_row p1 = some res) : Met l y_Page_putText (.code y_Page_putText b_Page_putText 3 none :: w0) ({ frames := 4, cells := 0, slots := 0, locals := 85 }) (va_Pc [.ref h_this, .ref (X.2.1 p1)] (gP (dC, dI) (WS_Page_putText h_this h_this_row c_this_row v_length a_row) [(c_this_row, .byte)] sz X)) (va_Qv (fun (u : Int32 × (Nat → Int32)) => some u = some res) (gB (dC, dI) [(c_this_row, .byte)] (va_A (WS_Page_putText h_this h_this_row c_this_row v_length a_row) sz) (fun (u : Int32 × (Nat → Int32)) => (WS_Page_putText h_this h_this_row c_this_row u.1 u.2))) (va_A (WS_Page_putText h_this h_this_row c_this_row v_length a_row) sz)) 0 0 (va_A (WS_Page_putText h_this h_this_row c_this_row v_length a_row) sz) := by
  refine Met.ofW (cc := b_Page_putText) (maxL := 3) (ret := none) (by decide) rfl ?_
  intro p e s m args below meth c s₁ B hml hv
  obtain ⟨rfl, hsz, hP, hK, hD0, hX⟩ := hv
  subst hsz
  have cx : cxx p s m ([.ref h_this, .ref (X.2.1 p1)] : List Value).toArray meth c b_Page_putText 3 none R_Page := ⟨B.exec, B.bytes, B.returns, hml, findClass_of_methodNamed B.named, fun w9 hw => atoms_spec (ws := .code y_Page_putText b_Page_putText 3 none :: w0) B.pre w9 (List.mem_cons_of_mem _ hw), B.notSynchronized⟩
  have hD := hD0.self (sz := s.heap.size)
  generalize hAe : va_A (WS_Page_putText h_this h_this_row c_this_row v_length a_row) s.heap.size = A at hD hX ⊢
  have hA : ∀ q : Nat, s.heap.size ≤ q → A q := fun q h => by rw [← hAe]; exact Or.inr h
  have hS : va_S A s.heap s.heap [] := va_S.rf
  have hl := lv_entry ([.ref h_this, .ref (X.2.1 p1)]) (n := 3) (Nat.le_of_ble_eq_true rfl)
  rw [lg_entry_eq]
  generalize (lg_sl ([.ref h_this, .ref (X.2.1 p1)]) ++ List.replicate (3 - (lg_sl ([.ref h_this, .ref (X.2.1 p1)])).length) Slot.unset).toArray = ls at hl ⊢
  have hl : lv_has ls 3 [(0, .ref h_this), (1, .ref (X.2.1 p1))] := hl
  exact s_Page_putText_e cx hK hA hX v_length a_row p1 s.heap [] ls hP hD hS hl hf
abbrev WS_Writer_writeWord (g_this_exact : Nat) (g_this_digits : Nat) (h_this : Nat) (h_this_page : Nat) (h_this_page_row : Nat) (c_this_page_row : ClassId) (v_count : Int32) (v_letter : Int32) (v_flags : Int32) (v_width : Int32) (v_precision : Int32) (v_page_length : Int32) (a_page_row : (Nat → Int32)) : va_W := [(h_this, .inr (6, [.ref h_this_page, .ref g_this_exact, .ref g_this_digits, .int v_count, .int v_letter, .int v_flags, .int v_width, .int v_precision])), (h_this_page, .inr (5, [.ref h_this_page_row, .int v_page_length])), (h_this_page_row, .inl (c_this_page_row, 420, .inl a_page_row))]
def f_Writer_writeWord_28 (v_letter : Int32) (v_flags : Int32) (v_width : Int32) (v_page_length : Int32) (a_page_row : (Nat → Int32)) (z1 : Nat) : Option (Int32 × (Nat → Int32)) :=
  bi2 (f_Page_putText v_page_length a_page_row z1) fun v1 a2 =>
  bi2 (f_Writer_fill v_flags v_width v1 a2 (0 : Int32) (0 : Int32)) fun v3 a4 =>
  some (v3, a4)
def f_Writer_writeWord (v_letter : Int32) (v_flags : Int32) (v_width : Int32) (v_page_length : Int32) (a_page_row : (Nat → Int32)) (p1 : Nat) (p2 : Nat) (p3 : Int32) : Option (Int32 × (Nat → Int32)) :=
  bi1 (f_Page_clear v_page_length) fun v5 =>
  bi2 (f_Writer_putSign v_flags v5 a_page_row p3) fun v6 a7 =>
  bi1 (f_Writer_isGreat v_letter) fun r8 =>
  if r8 = 0 then
    f_Writer_writeWord_28 v_letter v_flags v_width v6 a7 p1
  else
    f_Writer_writeWord_28 v_letter v_flags v_width v6 a7 p2
set_option maxHeartbeats 4000000 in
set_option maxRecDepth 100000 in
theorem s_Writer_writeWord_28 {p : Program} {l : Launch} {e : Env} {s : State} {m : MethodId} {args : Array Value} {below : List Frame} {meth : Method} {c : Code} {dC : Nat → ClassId} {dI : Nat → Nat → Nat} {A : Nat → Prop} {X : SXT} {g_this_exact : Nat} {g_this_digits : Nat} {h_this : Nat} {h_this_page : Nat} {h_this_page_row : Nat} {c_this_page_row : ClassId} {v_count : Int32} {v_precision : Int32} {res : Int32 × (Nat → Int32)}  (cx : cxx p s m args meth c b_Writer_writeWord 4 none R_Writer) (hK : va_K (dC, dI) classes [(c_this_page_row, .byte)] s) (hA : ∀ q, s.heap.size ≤ q → A q) (hX : SX X A s s.heap)  : ∀ (v_letter : Int32) (v_flags : Int32) (v_width : Int32) (v_page_length : Int32) (a_page_row : (Nat → Int32)) (z1 : Nat) (H : Heap) (locs : List Loc) (ls : Array Slot), va_P (dC, dI) classes (WS_Writer_writeWord g_this_exact g_this_digits h_this h_this_page h_this_page_row c_this_page_row v_count v_letter v_flags v_width v_precision v_page_length a_page_row) H → va_D A (WS_Writer_writeWord g_this_exact g_this_digits h_this h_this_page h_this_page_row c_this_page_row v_count v_letter v_flags v_width v_precision v_page_length a_page_row) → va_S A s.heap H locs → lv_has ls 4 [(0, .ref h_this)] → f_Writer_writeWord_28 v_letter v_flags v_width v_page_length a_page_row z1 = some res → W p l e ({ frames := 5, cells := 0, slots := 0, locals := 107 }) s m args below meth c H locs 0 0 (MQ below (va_Qv (fun (u : Int32 × (Nat → Int32)) => some u = some res) (gB (dC, dI) [(c_this_page_row, .byte)] A (fun (u : Int32 × (Nat → Int32)) => (WS_Writer_writeWord g_this_exact g_this_digits h_this h_this_page h_this_page_row c_this_page_row v_count v_letter v_flags v_width v_precision u.1 u.2))) A) args s 0 0 A) (F0 m 28 ls [.ref (X.2.1 z1), .ref h_this_page]) := by
  intro v_letter v_flags v_width v_page_length a_page_row z1 H locs ls hP hD hS hl h
  obtain ⟨hx, hb, hr, hml, hown, ht, hlk⟩ := id cx
  obtain ⟨v1, a2, hf, h⟩ := bi2_x h
  refine clVv (D := (dC, dI)) (n := 1) (As := [.ref (X.2.1 z1)]) ⟨hx, hb, hml, hown, ht⟩ (c_Page_putText l dC dI X h_this_page h_this_page_row c_this_page_row H.size v_page_length a_page_row z1 (v1, a2) hf) (gV q_348 q_349 q_350 q_245 q_351) (by decide +kernel) ⟨rfl, rfl, Nat.le_of_ble_eq_true rfl, Nat.le_of_ble_eq_true rfl⟩ hK hP hD hS hA hX [1, 2] [0] [0] rfl (wr := [(h_this, .inr (6, [.ref h_this_page, .ref g_this_exact, .ref g_this_digits, .int v_count, .int v_letter, .int v_flags, .int v_width, .int v_precision]))]) rfl (by decide) (by decide) (by decide) rfl (va_recv hK hP (ci := 5) (q0 := 1) rfl rfl) rfl hl.1 rfl (lv_room (Nat.le_of_ble_eq_true rfl)) d_Writer_writeWord_28 ⟨Nat.zero_le _, Nat.zero_le _⟩ (fun u9 H locs h9 hP hD hS => ?_)
  cases h9
  have hP : va_P (dC, dI) classes (WS_Writer_writeWord g_this_exact g_this_digits h_this h_this_page h_this_page_row c_this_page_row v_count v_letter v_flags v_width v_precision v1 a2) H := hP.sub [0, 1, 2] rfl
  have hD : va_D A (WS_Writer_writeWord g_this_exact g_this_digits h_this h_this_page h_this_page_row c_this_page_row v_count v_letter v_flags v_width v_precision v1 a2) := hD.sub [0, 1, 2] (by decide) rfl
  refine lv_aload_n hx hb d_Writer_writeWord_31 rfl (lv_at hl 0 rfl) ?_
  refine lv_iconst (v := 0) hx hb d_Writer_writeWord_32 (by decide) ?_
  refine lv_iconst (v := 0) hx hb d_Writer_writeWord_33 (by decide) ?_
  obtain ⟨v3, a4, hf, h⟩ := bi2_x h
  refine clVv (D := (dC, dI)) (n := 2) (As := [.int (0 : Int32), .int (0 : Int32)]) ⟨hx, hb, hml, hown, ht⟩ (c_Writer_fill l dC dI X g_this_exact g_this_digits h_this h_this_page h_this_page_row c_this_page_row H.size v_count v_letter v_flags v_width v_precision v1 a2 (0 : Int32) (0 : Int32) (v3, a4) hf) (gV q_310 q_311 q_312 q_239 q_313) (by decide +kernel) ⟨rfl, rfl, Nat.le_of_ble_eq_true rfl, Nat.le_of_ble_eq_true rfl⟩ hK hP hD hS hA hX [0, 1, 2] [] [0] rfl (wr := []) rfl (by decide) (by decide) (by decide) rfl (va_recv hK hP (ci := 6) (q0 := 0) rfl rfl) rfl hl.1 rfl (lv_room (Nat.le_of_ble_eq_true rfl)) d_Writer_writeWord_34 ⟨Nat.zero_le _, Nat.zero_le _⟩ (fun u9 H locs h9 hP hD hS => ?_)
  cases h9
  have hP : va_P (dC, dI) classes (WS_Writer_writeWord g_this_exact g_this_digits h_this h_this_page h_this_page_row c_this_page_row v_count v_letter v_flags v_width v_precision v3 a4) H := hP.sub [0, 1, 2] rfl
  have hD : va_D A (WS_Writer_writeWord g_this_exact g_this_digits h_this h_this_page h_this_page_row c_this_page_row v_count v_letter v_flags v_width v_precision v3 a4) := hD.sub [0, 1, 2] (by decide) rfl
  exact W.vret hx hb hr (fun t ht9 hW => ⟨⟨(v3, a4), rfl, h, by rw [ht9]; exact hP, va_K.moved hW.alike hK, hD⟩, hS.F ht9⟩) hS.2.2 d_Writer_writeWord_37 hlk
set_option maxHeartbeats 4000000 in
set_option maxRecDepth 100000 in
theorem s_Writer_writeWord_e {p : Program} {l : Launch} {e : Env} {s : State} {m : MethodId} {args : Array Value} {below : List Frame} {meth : Method} {c : Code} {dC : Nat → ClassId} {dI : Nat → Nat → Nat} {A : Nat → Prop} {X : SXT} {g_this_exact : Nat} {g_this_digits : Nat} {h_this : Nat} {h_this_page : Nat} {h_this_page_row : Nat} {c_this_page_row : ClassId} {v_count : Int32} {v_precision : Int32} {res : Int32 × (Nat → Int32)} (cx : cxx p s m args meth c b_Writer_writeWord 4 none R_Writer) (hK : va_K (dC, dI) classes [(c_this_page_row, .byte)] s) (hA : ∀ q, s.heap.size ≤ q → A q) (hX : SX X A s s.heap) : ∀ (v_letter : Int32) (v_flags : Int32) (v_width : Int32) (v_page_length : Int32) (a_page_row : (Nat → Int32)) (p1 : Nat) (p2 : Nat) (p3 : Int32) (H : Heap) (locs : List Loc) (ls : Array Slot), va_P (dC, dI) classes (WS_Writer_writeWord g_this_exact g_this_digits h_this h_this_page h_this_page_row c_this_page_row v_count v_letter v_flags v_width v_precision v_page_length a_page_row) H → va_D A (WS_Writer_writeWord g_this_exact g_this_digits h_this h_this_page h_this_page_row c_this_page_row v_count v_letter v_flags v_width v_precision v_page_length a_page_row) → va_S A s.heap H locs → lv_has ls 4 [(0, .ref h_this), (1, .ref (X.2.1 p1)), (2, .ref (X.2.1 p2)), (3, .int p3)] → f_Writer_writeWord v_letter v_flags v_width v_page_length a_page_row p1 p2 p3 = some res → W p l e ({ frames := 5, cells := 0, slots := 0, locals := 107 }) s m args below meth c H locs 0 0 (MQ below (va_Qv (fun (u : Int32 × (Nat → Int32)) => some u = some res) (gB (dC, dI) [(c_this_page_row, .byte)] A (fun (u : Int32 × (Nat → Int32)) => (WS_Writer_writeWord g_this_exact g_this_digits h_this h_this_page h_this_page_row c_this_page_row v_count v_letter v_flags v_width v_precision u.1 u.2))) A) args s 0 0 A) (F0 m 0 ls []) := by
  intro v_letter v_flags v_width v_page_length a_page_row p1 p2 p3 H locs ls hP hD hS hl h
  obtain ⟨hx, hb, hr, hml, hown, ht, hlk⟩ := id cx
  refine lv_aload_n hx hb d_Writer_writeWord_0 rfl (lv_at hl 0 rfl) ?_
  refine va_get (D := (dC, dI)) (ci := 6) (v := .ref h_this_page) (C := R_Writer) (T := F_Writer) (N := 8) hx hb ht i_Writer hown hK hP 0 rfl rfl 0 (by decide) (ht _ q_241) (fun _ h9 => h9) rfl d_Writer_writeWord_1 ?_
  obtain ⟨v5, hf, h⟩ := bi1_x h
  refine clVv (D := (dC, dI)) (n := 0) (As := []) ⟨hx, hb, hml, hown, ht⟩ (c_Page_clear l dC dI X h_this_page_row h_this_page H.size v_page_length v5 hf) (gV q_335 q_336 q_337 q_245 q_338) (by decide +kernel) ⟨rfl, rfl, Nat.le_of_ble_eq_true rfl, Nat.le_of_ble_eq_true rfl⟩ hK hP hD hS hA hX [1] [0, 2] [] rfl (wr := [(h_this, .inr (6, [.ref h_this_page, .ref g_this_exact, .ref g_this_digits, .int v_count, .int v_letter, .int v_flags, .int v_width, .int v_precision])), (h_this_page_row, .inl (c_this_page_row, 420, .inl a_page_row))]) rfl (by decide) (by decide) (by decide) rfl (va_recv hK hP (ci := 5) (q0 := 1) rfl rfl) rfl hl.1 rfl (lv_room (Nat.le_of_ble_eq_true rfl)) d_Writer_writeWord_4 ⟨Nat.zero_le _, Nat.zero_le _⟩ (fun u9 H locs h9 hP hD hS => ?_)
  cases h9
  have hP : va_P (dC, dI) classes (WS_Writer_writeWord g_this_exact g_this_digits h_this h_this_page h_this_page_row c_this_page_row v_count v_letter v_flags v_width v_precision v5 a_page_row) H := hP.sub [0, 2, 1] rfl
  have hD : va_D A (WS_Writer_writeWord g_this_exact g_this_digits h_this h_this_page h_this_page_row c_this_page_row v_count v_letter v_flags v_width v_precision v5 a_page_row) := hD.sub [0, 2, 1] (by decide) rfl
  refine lv_aload_n hx hb d_Writer_writeWord_7 rfl (lv_at hl 0 rfl) ?_
  refine lv_iload_n hx hb d_Writer_writeWord_8 rfl (lv_at hl 3 rfl) ?_
  obtain ⟨v6, a7, hf, h⟩ := bi2_x h
  refine clVv (D := (dC, dI)) (n := 1) (As := [.int p3]) ⟨hx, hb, hml, hown, ht⟩ (c_Writer_putSign l dC dI X g_this_exact g_this_digits h_this h_this_page h_this_page_row c_this_page_row H.size v_count v_letter v_flags v_width v_precision v5 a_page_row p3 (v6, a7) hf) (gV q_331 q_332 q_333 q_239 q_334) (by decide +kernel) ⟨rfl, rfl, Nat.le_of_ble_eq_true rfl, Nat.le_of_ble_eq_true rfl⟩ hK hP hD hS hA hX [0, 1, 2] [] [0] rfl (wr := []) rfl (by decide) (by decide) (by decide) rfl (va_recv hK hP (ci := 6) (q0 := 0) rfl rfl) rfl hl.1 rfl (lv_room (Nat.le_of_ble_eq_true rfl)) d_Writer_writeWord_9 ⟨Nat.zero_le _, Nat.zero_le _⟩ (fun u9 H locs h9 hP hD hS => ?_)
  cases h9
  have hP : va_P (dC, dI) classes (WS_Writer_writeWord g_this_exact g_this_digits h_this h_this_page h_this_page_row c_this_page_row v_count v_letter v_flags v_width v_precision v6 a7) H := hP.sub [0, 1, 2] rfl
  have hD : va_D A (WS_Writer_writeWord g_this_exact g_this_digits h_this h_this_page h_this_page_row c_this_page_row v_count v_letter v_flags v_width v_precision v6 a7) := hD.sub [0, 1, 2] (by decide) rfl
  refine lv_aload_n hx hb d_Writer_writeWord_12 rfl (lv_at hl 0 rfl) ?_
  refine va_get (D := (dC, dI)) (ci := 6) (v := .ref h_this_page) (C := R_Writer) (T := F_Writer) (N := 8) hx hb ht i_Writer hown hK hP 0 rfl rfl 0 (by decide) (ht _ q_241) (fun _ h9 => h9) rfl d_Writer_writeWord_13 ?_
  refine lv_aload_n hx hb d_Writer_writeWord_16 rfl (lv_at hl 0 rfl) ?_
  obtain ⟨r8, hf, h⟩ := bi1_x h
  refine clVi (D := (dC, dI)) (n := 0) (As := []) ⟨hx, hb, hml, hown, ht⟩ (c_Writer_isGreat l dC dI X h_this_page g_this_exact g_this_digits h_this H.size v_count v_letter v_flags v_width v_precision r8 hf) (gV q_271 q_272 q_273 q_239 q_274) (by decide +kernel) ⟨rfl, rfl, Nat.le_of_ble_eq_true rfl, Nat.le_of_ble_eq_true rfl⟩ hK hP hD hS hA hX [0] [1, 2] [] rfl (wr := [(h_this_page, .inr (5, [.ref h_this_page_row, .int v6])), (h_this_page_row, .inl (c_this_page_row, 420, .inl a7))]) rfl (by decide) (by decide) (by decide) rfl (va_recv hK hP (ci := 6) (q0 := 0) rfl rfl) rfl hl.1 rfl (lv_room (Nat.le_of_ble_eq_true rfl)) d_Writer_writeWord_17 ⟨Nat.zero_le _, Nat.zero_le _⟩ (fun r9 u9 H locs h9 hP hD hS => ?_)
  cases h9
  have hP : va_P (dC, dI) classes (WS_Writer_writeWord g_this_exact g_this_digits h_this h_this_page h_this_page_row c_this_page_row v_count v_letter v_flags v_width v_precision v6 a7) H := hP.sub [2, 0, 1] rfl
  have hD : va_D A (WS_Writer_writeWord g_this_exact g_this_digits h_this h_this_page h_this_page_row c_this_page_row v_count v_letter v_flags v_width v_precision v6 a7) := hD.sub [2, 0, 1] (by decide) rfl
  refine lv_if_eq (tgt := 27) hx hb d_Writer_writeWord_20 (by decide) (fun c9 => ?_) (fun c9 => ?_)
  · have h := if_t c9 h
    refine lv_aload_n hx hb d_Writer_writeWord_27 rfl (lv_at hl 1 rfl) ?_
    exact s_Writer_writeWord_28 cx hK hA hX v_letter v_flags v_width v6 a7 p1 H locs ls hP hD hS (lv_sub hl [0] rfl) h
  · have h := if_f c9 h
    refine lv_aload_n hx hb d_Writer_writeWord_23 rfl (lv_at hl 2 rfl) ?_
    refine lv_goto (tgt := 28) hx hb d_Writer_writeWord_24 (by decide) ?_
    exact s_Writer_writeWord_28 cx hK hA hX v_letter v_flags v_width v6 a7 p2 H locs ls hP hD hS (lv_sub hl [0] rfl) h
set_option maxHeartbeats 4000000 in
set_option maxRecDepth 100000 in
theorem c_Writer_writeWord (l : Launch) (dC : Nat → ClassId) (dI : Nat → Nat → Nat) (X : SXT) (g_this_exact : Nat) (g_this_digits : Nat) (h_this : Nat) (h_this_page : Nat) (h_this_page_row : Nat) (c_this_page_row : ClassId) (sz : Nat) (v_count : Int32) (v_letter : Int32) (v_flags : Int32) (v_width : Int32) (v_precision : Int32) (v_page_length : Int32) (a_page_row : (Nat → Int32)) (p1 : Nat) (p2 : Nat) (p3 : Int32) (res : Int32 × (Nat → Int32)) (hf : f_Writer_writeWord v_letter v_flags v_width v_page_length a_page_row p1 p2 p3 = some res) : Met l y_Writer_writeWord (.code y_Writer_writeWord b_Writer_writeWord 4 none :: w0) ({ frames := 5, cells := 0, slots := 0, locals := 107 }) (va_Pc [.ref h_this, .ref (X.2.1 p1), .ref (X.2.1 p2), .int p3] (gP (dC, dI) (WS_Writer_writeWord g_this_exact g_this_digits h_this h_this_page h_this_page_row c_this_page_row v_count v_letter v_flags v_width v_precision v_page_length a_page_row) [(c_this_page_row, .byte)] sz X)) (va_Qv (fun (u : Int32 × (Nat → Int32)) => some u = some res) (gB (dC, dI) [(c_this_page_row, .byte)] (va_A (WS_Writer_writeWord g_this_exact g_this_digits h_this h_this_page h_this_page_row c_this_page_row v_count v_letter v_flags v_width v_precision v_page_length a_page_row) sz) (fun (u : Int32 × (Nat → Int32)) => (WS_Writer_writeWord g_this_exact g_this_digits h_this h_this_page h_this_page_row c_this_page_row v_count v_letter v_flags v_width v_precision u.1 u.2))) (va_A (WS_Writer_writeWord g_this_exact g_this_digits h_this h_this_page h_this_page_row c_this_page_row v_count v_letter v_flags v_width v_precision v_page_length a_page_row) sz)) 0 0 (va_A (WS_Writer_writeWord g_this_exact g_this_digits h_this h_this_page h_this_page_row c_this_page_row v_count v_letter v_flags v_width v_precision v_page_length a_page_row) sz) := by
  refine Met.ofW (cc := b_Writer_writeWord) (maxL := 4) (ret := none) (by decide) rfl ?_
  intro p e s m args below meth c s₁ B hml hv
  obtain ⟨rfl, hsz, hP, hK, hD0, hX⟩ := hv
  subst hsz
  have cx : cxx p s m ([.ref h_this, .ref (X.2.1 p1), .ref (X.2.1 p2), .int p3] : List Value).toArray meth c b_Writer_writeWord 4 none R_Writer := ⟨B.exec, B.bytes, B.returns, hml, findClass_of_methodNamed B.named, fun w9 hw => atoms_spec (ws := .code y_Writer_writeWord b_Writer_writeWord 4 none :: w0) B.pre w9 (List.mem_cons_of_mem _ hw), B.notSynchronized⟩
  have hD := hD0.self (sz := s.heap.size)
  generalize hAe : va_A (WS_Writer_writeWord g_this_exact g_this_digits h_this h_this_page h_this_page_row c_this_page_row v_count v_letter v_flags v_width v_precision v_page_length a_page_row) s.heap.size = A at hD hX ⊢
  have hA : ∀ q : Nat, s.heap.size ≤ q → A q := fun q h => by rw [← hAe]; exact Or.inr h
  have hS : va_S A s.heap s.heap [] := va_S.rf
  have hl := lv_entry ([.ref h_this, .ref (X.2.1 p1), .ref (X.2.1 p2), .int p3]) (n := 4) (Nat.le_of_ble_eq_true rfl)
  rw [lg_entry_eq]
  generalize (lg_sl ([.ref h_this, .ref (X.2.1 p1), .ref (X.2.1 p2), .int p3]) ++ List.replicate (4 - (lg_sl ([.ref h_this, .ref (X.2.1 p1), .ref (X.2.1 p2), .int p3])).length) Slot.unset).toArray = ls at hl ⊢
  have hl : lv_has ls 4 [(0, .ref h_this), (1, .ref (X.2.1 p1)), (2, .ref (X.2.1 p2)), (3, .int p3)] := hl
  exact s_Writer_writeWord_e cx hK hA hX v_letter v_flags v_width v_page_length a_page_row p1 p2 p3 s.heap [] ls hP hD hS hl hf
abbrev WS_N_sizeOfValue (g_this_tape : Nat) (g_this_numeral : Nat) (g_this_room : Nat) (g_this_exact : Nat) (g_this_again : Nat) (g_this_page : Nat) (g_this_writer : Nat) (h_this : Nat) (h_this_size : Nat)  (v_valueKind : Int32) (v_valueNumber : Int64) (v_valueExponent : Int32) (v_size_factor : Int64) (v_size_power : Int32) (v_size_infinite : Int32) : va_W := [(h_this, .inr (0, [.ref g_this_tape, .ref g_this_numeral, .ref g_this_room, .ref g_this_exact, .ref h_this_size, .ref g_this_again, .ref g_this_page, .ref g_this_writer, .int v_valueKind, .long v_valueNumber, .int v_valueExponent])), (h_this_size, .inr (4, [.long v_size_factor, .int v_size_power, .int v_size_infinite]))]
def f_N_sizeOfValue_21 (v_valueNumber : Int64) (v_valueExponent : Int32) (v_size_factor : Int64) (v_size_power : Int32) (v_size_infinite : Int32) (z0 : Int64) : Option (Int64 × Int32 × Int32) :=
  bi3 (f_Size_setNearest v_size_factor v_size_power v_size_infinite z0 (0 : Int32) v_valueExponent) fun v1 v2 v3 =>
  some (v1, v2, v3)
def f_N_sizeOfValue (v_valueNumber : Int64) (v_valueExponent : Int32) (v_size_factor : Int64) (v_size_power : Int32) (v_size_infinite : Int32) : Option (Int64 × Int32 × Int32) :=
  if (0 : Int64) ≤ v_valueNumber then
    f_N_sizeOfValue_21 v_valueNumber v_valueExponent v_size_factor v_size_power v_size_infinite v_valueNumber
  else
    f_N_sizeOfValue_21 v_valueNumber v_valueExponent v_size_factor v_size_power v_size_infinite (-v_valueNumber)
set_option maxHeartbeats 4000000 in
set_option maxRecDepth 100000 in
theorem s_N_sizeOfValue_21 {p : Program} {l : Launch} {e : Env} {s : State} {m : MethodId} {args : Array Value} {below : List Frame} {meth : Method} {c : Code} {dC : Nat → ClassId} {dI : Nat → Nat → Nat} {A : Nat → Prop} {X : SXT} {g_this_tape : Nat} {g_this_numeral : Nat} {g_this_room : Nat} {g_this_exact : Nat} {g_this_again : Nat} {g_this_page : Nat} {g_this_writer : Nat} {h_this : Nat} {h_this_size : Nat} {v_valueKind : Int32} {res : Int64 × Int32 × Int32}  (cx : cxx p s m args meth c b_N_sizeOfValue 3 none R_N) (hK : va_K (dC, dI) classes [] s) (hA : ∀ q, s.heap.size ≤ q → A q) (hX : SX X A s s.heap)  : ∀ (v_valueNumber : Int64) (v_valueExponent : Int32) (v_size_factor : Int64) (v_size_power : Int32) (v_size_infinite : Int32) (z0 : Int64) (H : Heap) (locs : List Loc) (ls : Array Slot), va_P (dC, dI) classes (WS_N_sizeOfValue g_this_tape g_this_numeral g_this_room g_this_exact g_this_again g_this_page g_this_writer h_this h_this_size v_valueKind v_valueNumber v_valueExponent v_size_factor v_size_power v_size_infinite) H → va_D A (WS_N_sizeOfValue g_this_tape g_this_numeral g_this_room g_this_exact g_this_again g_this_page g_this_writer h_this h_this_size v_valueKind v_valueNumber v_valueExponent v_size_factor v_size_power v_size_infinite) → va_S A s.heap H locs → lv_has ls 3 [(0, .ref h_this)] → f_N_sizeOfValue_21 v_valueNumber v_valueExponent v_size_factor v_size_power v_size_infinite z0 = some res → W p l e ({ frames := 5, cells := 0, slots := 0, locals := 120 }) s m args below meth c H locs 0 0 (MQ below (va_Qv (fun (u : Int64 × Int32 × Int32) => some u = some res) (gB (dC, dI) [] A (fun (u : Int64 × Int32 × Int32) => (WS_N_sizeOfValue g_this_tape g_this_numeral g_this_room g_this_exact g_this_again g_this_page g_this_writer h_this h_this_size v_valueKind v_valueNumber v_valueExponent u.1 u.2.1 u.2.2))) A) args s 0 0 A) (F0 m 21 ls [.long z0]) := by
  intro v_valueNumber v_valueExponent v_size_factor v_size_power v_size_infinite z0 H locs ls hP hD hS hl h
  obtain ⟨hx, hb, hr, hml, hown, ht, hlk⟩ := id cx
  refine lv_lstore_n (lv' := [(1, .long z0), (0, .ref h_this)]) hx hb d_N_sizeOfValue_21 rfl hl (by decide) rfl (fun ls hl => ?_)
  refine lv_aload_n hx hb d_N_sizeOfValue_22 rfl (lv_at hl 1 rfl) ?_
  refine va_get (D := (dC, dI)) (ci := 0) (v := .ref h_this_size) (C := R_N) (T := F_N) (N := 11) hx hb ht i_N hown hK hP 0 rfl rfl 4 (by decide) (ht _ q_176) (fun _ h9 => h9) rfl d_N_sizeOfValue_23 ?_
  refine lv_lload_n hx hb d_N_sizeOfValue_26 rfl (lv_at hl 0 rfl) ?_
  refine lv_iconst (v := 0) hx hb d_N_sizeOfValue_27 (by decide) ?_
  refine lv_aload_n hx hb d_N_sizeOfValue_28 rfl (lv_at hl 1 rfl) ?_
  refine va_get (D := (dC, dI)) (ci := 0) (v := .int v_valueExponent) (C := R_N) (T := F_N) (N := 11) hx hb ht i_N hown hK hP 0 rfl rfl 10 (by decide) (ht _ q_69) (fun _ h9 => h9) rfl d_N_sizeOfValue_29 ?_
  obtain ⟨v1, v2, v3, hf, h⟩ := bi3_x h
  refine clVv (D := (dC, dI)) (n := 3) (As := [.long z0, .int (0 : Int32), .int v_valueExponent]) ⟨hx, hb, hml, hown, ht⟩ (c_Size_setNearest l dC dI X h_this_size H.size v_size_factor v_size_power v_size_infinite z0 (0 : Int32) v_valueExponent (v1, v2, v3) hf) (gV q_227 q_104 q_105 q_91 q_106) (by decide +kernel) ⟨rfl, rfl, Nat.le_of_ble_eq_true rfl, Nat.le_of_ble_eq_true rfl⟩ hK hP hD hS hA hX [1] [0] [] rfl (wr := [(h_this, .inr (0, [.ref g_this_tape, .ref g_this_numeral, .ref g_this_room, .ref g_this_exact, .ref h_this_size, .ref g_this_again, .ref g_this_page, .ref g_this_writer, .int v_valueKind, .long v_valueNumber, .int v_valueExponent]))]) rfl (by decide) (by decide) (by decide) rfl (va_recv hK hP (ci := 4) (q0 := 1) rfl rfl) rfl hl.1 rfl (lv_room (Nat.le_of_ble_eq_true rfl)) d_N_sizeOfValue_32 ⟨Nat.zero_le _, Nat.zero_le _⟩ (fun u9 H locs h9 hP hD hS => ?_)
  cases h9
  have hP : va_P (dC, dI) classes (WS_N_sizeOfValue g_this_tape g_this_numeral g_this_room g_this_exact g_this_again g_this_page g_this_writer h_this h_this_size v_valueKind v_valueNumber v_valueExponent v1 v2 v3) H := hP.sub [0, 1] rfl
  have hD : va_D A (WS_N_sizeOfValue g_this_tape g_this_numeral g_this_room g_this_exact g_this_again g_this_page g_this_writer h_this h_this_size v_valueKind v_valueNumber v_valueExponent v1 v2 v3) := hD.sub [0, 1] (by decide) rfl
  exact W.vret hx hb hr (fun t ht9 hW => ⟨⟨(v1, v2, v3), rfl, h, by rw [ht9]; exact hP, va_K.moved hW.alike hK, hD⟩, hS.F ht9⟩) hS.2.2 d_N_sizeOfValue_35 hlk
set_option maxHeartbeats 4000000 in
set_option maxRecDepth 100000 in
theorem s_N_sizeOfValue_e {p : Program} {l : Launch} {e : Env} {s : State} {m : MethodId} {args : Array Value} {below : List Frame} {meth : Method} {c : Code} {dC : Nat → ClassId} {dI : Nat → Nat → Nat} {A : Nat → Prop} {X : SXT} {g_this_tape : Nat} {g_this_numeral : Nat} {g_this_room : Nat} {g_this_exact : Nat} {g_this_again : Nat} {g_this_page : Nat} {g_this_writer : Nat} {h_this : Nat} {h_this_size : Nat} {v_valueKind : Int32} {res : Int64 × Int32 × Int32} (cx : cxx p s m args meth c b_N_sizeOfValue 3 none R_N) (hK : va_K (dC, dI) classes [] s) (hA : ∀ q, s.heap.size ≤ q → A q) (hX : SX X A s s.heap) : ∀ (v_valueNumber : Int64) (v_valueExponent : Int32) (v_size_factor : Int64) (v_size_power : Int32) (v_size_infinite : Int32) (H : Heap) (locs : List Loc) (ls : Array Slot), va_P (dC, dI) classes (WS_N_sizeOfValue g_this_tape g_this_numeral g_this_room g_this_exact g_this_again g_this_page g_this_writer h_this h_this_size v_valueKind v_valueNumber v_valueExponent v_size_factor v_size_power v_size_infinite) H → va_D A (WS_N_sizeOfValue g_this_tape g_this_numeral g_this_room g_this_exact g_this_again g_this_page g_this_writer h_this h_this_size v_valueKind v_valueNumber v_valueExponent v_size_factor v_size_power v_size_infinite) → va_S A s.heap H locs → lv_has ls 3 [(0, .ref h_this)] → f_N_sizeOfValue v_valueNumber v_valueExponent v_size_factor v_size_power v_size_infinite = some res → W p l e ({ frames := 5, cells := 0, slots := 0, locals := 120 }) s m args below meth c H locs 0 0 (MQ below (va_Qv (fun (u : Int64 × Int32 × Int32) => some u = some res) (gB (dC, dI) [] A (fun (u : Int64 × Int32 × Int32) => (WS_N_sizeOfValue g_this_tape g_this_numeral g_this_room g_this_exact g_this_again g_this_page g_this_writer h_this h_this_size v_valueKind v_valueNumber v_valueExponent u.1 u.2.1 u.2.2))) A) args s 0 0 A) (F0 m 0 ls []) := by
  intro v_valueNumber v_valueExponent v_size_factor v_size_power v_size_infinite H locs ls hP hD hS hl h
  obtain ⟨hx, hb, hr, hml, hown, ht, hlk⟩ := id cx
  refine lv_aload_n hx hb d_N_sizeOfValue_0 rfl (lv_at hl 0 rfl) ?_
  refine va_get (D := (dC, dI)) (ci := 0) (v := .long v_valueNumber) (C := R_N) (T := F_N) (N := 11) hx hb ht i_N hown hK hP 0 rfl rfl 9 (by decide) (ht _ q_68) (fun _ h9 => h9) rfl d_N_sizeOfValue_1 ?_
  refine lv_lconst (v := 0) hx hb d_N_sizeOfValue_4 (by decide) ?_
  refine W.lcmp hx hb d_N_sizeOfValue_5 ?_
  refine lv_if_ge (tgt := 17) hx hb d_N_sizeOfValue_6 (by decide) (fun c4 => ?_) (fun c4 => ?_)
  · have c4 := (lg_cmp_ge _ _).mp c4
    have h := if_t c4 h
    refine lv_aload_n hx hb d_N_sizeOfValue_17 rfl (lv_at hl 0 rfl) ?_
    refine va_get (D := (dC, dI)) (ci := 0) (v := .long v_valueNumber) (C := R_N) (T := F_N) (N := 11) hx hb ht i_N hown hK hP 0 rfl rfl 9 (by decide) (ht _ q_68) (fun _ h9 => h9) rfl d_N_sizeOfValue_18 ?_
    exact s_N_sizeOfValue_21 cx hK hA hX v_valueNumber v_valueExponent v_size_factor v_size_power v_size_infinite v_valueNumber H locs ls hP hD hS (lv_sub hl [0] rfl) h
  · have c4 := fun h9 => c4 ((lg_cmp_ge _ _).mpr h9)
    have h := if_f c4 h
    refine lv_aload_n hx hb d_N_sizeOfValue_9 rfl (lv_at hl 0 rfl) ?_
    refine va_get (D := (dC, dI)) (ci := 0) (v := .long v_valueNumber) (C := R_N) (T := F_N) (N := 11) hx hb ht i_N hown hK hP 0 rfl rfl 9 (by decide) (ht _ q_68) (fun _ h9 => h9) rfl d_N_sizeOfValue_10 ?_
    refine lv_lneg hx hb d_N_sizeOfValue_13 ?_
    refine lv_goto (tgt := 21) hx hb d_N_sizeOfValue_14 (by decide) ?_
    exact s_N_sizeOfValue_21 cx hK hA hX v_valueNumber v_valueExponent v_size_factor v_size_power v_size_infinite (-v_valueNumber) H locs ls hP hD hS (lv_sub hl [0] rfl) h
set_option maxHeartbeats 4000000 in
set_option maxRecDepth 100000 in
theorem c_N_sizeOfValue (l : Launch) (dC : Nat → ClassId) (dI : Nat → Nat → Nat) (X : SXT) (g_this_tape : Nat) (g_this_numeral : Nat) (g_this_room : Nat) (g_this_exact : Nat) (g_this_again : Nat) (g_this_page : Nat) (g_this_writer : Nat) (h_this : Nat) (h_this_size : Nat) (sz : Nat) (v_valueKind : Int32) (v_valueNumber : Int64) (v_valueExponent : Int32) (v_size_factor : Int64) (v_size_power : Int32) (v_size_infinite : Int32) (res : Int64 × Int32 × Int32) (hf : f_N_sizeOfValue v_valueNumber v_valueExponent v_size_factor v_size_power v_size_infinite = some res) : Met l y_N_sizeOfValue (.code y_N_sizeOfValue b_N_sizeOfValue 3 none :: w0) ({ frames := 5, cells := 0, slots := 0, locals := 120 }) (va_Pc [.ref h_this] (gP (dC, dI) (WS_N_sizeOfValue g_this_tape g_this_numeral g_this_room g_this_exact g_this_again g_this_page g_this_writer h_this h_this_size v_valueKind v_valueNumber v_valueExponent v_size_factor v_size_power v_size_infinite) [] sz X)) (va_Qv (fun (u : Int64 × Int32 × Int32) => some u = some res) (gB (dC, dI) [] (va_A (WS_N_sizeOfValue g_this_tape g_this_numeral g_this_room g_this_exact g_this_again g_this_page g_this_writer h_this h_this_size v_valueKind v_valueNumber v_valueExponent v_size_factor v_size_power v_size_infinite) sz) (fun (u : Int64 × Int32 × Int32) => (WS_N_sizeOfValue g_this_tape g_this_numeral g_this_room g_this_exact g_this_again g_this_page g_this_writer h_this h_this_size v_valueKind v_valueNumber v_valueExponent u.1 u.2.1 u.2.2))) (va_A (WS_N_sizeOfValue g_this_tape g_this_numeral g_this_room g_this_exact g_this_again g_this_page g_this_writer h_this h_this_size v_valueKind v_valueNumber v_valueExponent v_size_factor v_size_power v_size_infinite) sz)) 0 0 (va_A (WS_N_sizeOfValue g_this_tape g_this_numeral g_this_room g_this_exact g_this_again g_this_page g_this_writer h_this h_this_size v_valueKind v_valueNumber v_valueExponent v_size_factor v_size_power v_size_infinite) sz) := by
  refine Met.ofW (cc := b_N_sizeOfValue) (maxL := 3) (ret := none) (by decide) rfl ?_
  intro p e s m args below meth c s₁ B hml hv
  obtain ⟨rfl, hsz, hP, hK, hD0, hX⟩ := hv
  subst hsz
  have cx : cxx p s m ([.ref h_this] : List Value).toArray meth c b_N_sizeOfValue 3 none R_N := ⟨B.exec, B.bytes, B.returns, hml, findClass_of_methodNamed B.named, fun w9 hw => atoms_spec (ws := .code y_N_sizeOfValue b_N_sizeOfValue 3 none :: w0) B.pre w9 (List.mem_cons_of_mem _ hw), B.notSynchronized⟩
  have hD := hD0.self (sz := s.heap.size)
  generalize hAe : va_A (WS_N_sizeOfValue g_this_tape g_this_numeral g_this_room g_this_exact g_this_again g_this_page g_this_writer h_this h_this_size v_valueKind v_valueNumber v_valueExponent v_size_factor v_size_power v_size_infinite) s.heap.size = A at hD hX ⊢
  have hA : ∀ q : Nat, s.heap.size ≤ q → A q := fun q h => by rw [← hAe]; exact Or.inr h
  have hS : va_S A s.heap s.heap [] := va_S.rf
  have hl := lv_entry ([.ref h_this]) (n := 3) (Nat.le_of_ble_eq_true rfl)
  rw [lg_entry_eq]
  generalize (lg_sl ([.ref h_this]) ++ List.replicate (3 - (lg_sl ([.ref h_this])).length) Slot.unset).toArray = ls at hl ⊢
  have hl : lv_has ls 3 [(0, .ref h_this)] := hl
  exact s_N_sizeOfValue_e cx hK hA hX v_valueNumber v_valueExponent v_size_factor v_size_power v_size_infinite s.heap [] ls hP hD hS hl hf
abbrev WS_Decimal_setProduct (h_this : Nat) (h_this_row : Nat) (c_this_row : ClassId) (v_first : Int32) (v_last : Int32) (a_row : (Nat → Int32)) : va_W := [(h_this, .inr (3, [.ref h_this_row, .int v_first, .int v_last])), (h_this_row, .inl (c_this_row, 208, .inl a_row))]
def f_Decimal_setProduct_87 (k47 : Int32 → Int32 → (Nat → Int32) → Int32 → Int32 → Int32 → Option (Int32 × Int32 × (Nat → Int32))) (v_first : Int32) (v_last : Int32) (a_row : (Nat → Int32)) (y3 : Int32) (y4 : Int32) (y5 : Int32) (y6 : Int32) : Option (Int32 × Int32 × (Nat → Int32)) :=
  bd (y4 - y6) fun x1 =>
  bd (y5 + (1 : Int32)) fun x2 =>
  k47 v_first v_last a_row y3 x1 x2
def f_Decimal_setProduct_47b (k47 : Int32 → Int32 → (Nat → Int32) → Int32 → Int32 → Int32 → Option (Int32 × Int32 × (Nat → Int32))) (v_first : Int32) (v_last : Int32) (a_row : (Nat → Int32)) (y3 : Int32) (y4 : Int32) (y5 : Int32) : Option (Int32 × Int32 × (Nat → Int32)) :=
  if (64 : Int32) ≤ y5 then
    some (v_first, v_last, a_row)
  else
    if y4 ≤ 0 then
      some (v_first, v_last, a_row)
    else
      bd (imn (29 : Int32) y4) fun x5 =>
      if 0 ≤ y3 then
        bi3 (f_Decimal_multiply v_first v_last a_row x5) fun v7 v8 a9 =>
        f_Decimal_setProduct_87 k47 v7 v8 a9 y3 y4 y5 x5
      else
        bi3 (f_Decimal_divide v_first v_last a_row x5) fun v10 v11 a12 =>
        f_Decimal_setProduct_87 k47 v10 v11 a12 y3 y4 y5 x5
def f_Decimal_setProduct_47 : Nat → Int32 → Int32 → (Nat → Int32) → Int32 → Int32 → Int32 → Option (Int32 × Int32 × (Nat → Int32))
  | 0 => fun _ _ _ _ _ _ => none
  | n + 1 => fun v_first v_last a_row y3 y4 y5 => f_Decimal_setProduct_47b (f_Decimal_setProduct_47 n) v_first v_last a_row y3 y4 y5
def f_Decimal_setProduct_42 (v_first : Int32) (v_last : Int32) (a_row : (Nat → Int32)) (y3 : Int32) (z0 : Int32) : Option (Int32 × Int32 × (Nat → Int32)) :=
  f_Decimal_setProduct_47 fu v_first v_last a_row y3 z0 (0 : Int32)
def f_Decimal_setProduct (v_first : Int32) (v_last : Int32) (a_row : (Nat → Int32)) (p1 : Int64) (p3 : Int32) : Option (Int32 × Int32 × (Nat → Int32)) :=
  bi3 (f_Decimal_clear v_first v_last a_row) fun v13 v14 a15 =>
  bi3 (f_Decimal_setLimb v13 v14 a15 (35 : Int32) ((lrm p1 (1000000000 : Int64)).toInt32)) fun v16 v17 a18 =>
  bi3 (f_Decimal_setLimb v16 v17 a18 (34 : Int32) ((p1 / (1000000000 : Int64)).toInt32)) fun v19 v20 a21 =>
  bi2 (f_Decimal_trim v19 v20 a21) fun v22 v23 =>
  if 0 ≤ p3 then
    f_Decimal_setProduct_42 v22 v23 a21 p3 p3
  else
    f_Decimal_setProduct_42 v22 v23 a21 p3 (-p3)
set_option maxHeartbeats 4000000 in
set_option maxRecDepth 100000 in
theorem s_Decimal_setProduct_87 {p : Program} {l : Launch} {e : Env} {s : State} {m : MethodId} {args : Array Value} {below : List Frame} {meth : Method} {c : Code} {dC : Nat → ClassId} {dI : Nat → Nat → Nat} {A : Nat → Prop} {X : SXT} {h_this : Nat} {h_this_row : Nat} {c_this_row : ClassId} {res : Int32 × Int32 × (Nat → Int32)} {k47 : Int32 → Int32 → (Nat → Int32) → Int32 → Int32 → Int32 → Option (Int32 × Int32 × (Nat → Int32))} (cx : cxx p s m args meth c b_Decimal_setProduct 7 none R_Decimal) (hK : va_K (dC, dI) classes [(c_this_row, .int)] s) (hA : ∀ q, s.heap.size ≤ q → A q) (hX : SX X A s s.heap) (hk47 : ∀ (v_first : Int32) (v_last : Int32) (a_row : (Nat → Int32)) (y3 : Int32) (y4 : Int32) (y5 : Int32) (H : Heap) (locs : List Loc) (ls : Array Slot), va_P (dC, dI) classes (WS_Decimal_setProduct h_this h_this_row c_this_row v_first v_last a_row) H → va_D A (WS_Decimal_setProduct h_this h_this_row c_this_row v_first v_last a_row) → va_S A s.heap H locs → lv_has ls 7 [(0, .ref h_this), (3, .int y3), (4, .int y4), (5, .int y5)] → k47 v_first v_last a_row y3 y4 y5 = some res → W p l e ({ frames := 3, cells := 0, slots := 0, locals := 69 }) s m args below meth c H locs 0 0 (MQ below (va_Qv (fun (u : Int32 × Int32 × (Nat → Int32)) => some u = some res) (gB (dC, dI) [(c_this_row, .int)] A (fun (u : Int32 × Int32 × (Nat → Int32)) => (WS_Decimal_setProduct h_this h_this_row c_this_row u.1 u.2.1 u.2.2))) A) args s 0 0 A) (F0 m 47 ls [])) : ∀ (v_first : Int32) (v_last : Int32) (a_row : (Nat → Int32)) (y3 : Int32) (y4 : Int32) (y5 : Int32) (y6 : Int32) (H : Heap) (locs : List Loc) (ls : Array Slot), va_P (dC, dI) classes (WS_Decimal_setProduct h_this h_this_row c_this_row v_first v_last a_row) H → va_D A (WS_Decimal_setProduct h_this h_this_row c_this_row v_first v_last a_row) → va_S A s.heap H locs → lv_has ls 7 [(0, .ref h_this), (3, .int y3), (4, .int y4), (5, .int y5), (6, .int y6)] → f_Decimal_setProduct_87 k47 v_first v_last a_row y3 y4 y5 y6 = some res → W p l e ({ frames := 3, cells := 0, slots := 0, locals := 69 }) s m args below meth c H locs 0 0 (MQ below (va_Qv (fun (u : Int32 × Int32 × (Nat → Int32)) => some u = some res) (gB (dC, dI) [(c_this_row, .int)] A (fun (u : Int32 × Int32 × (Nat → Int32)) => (WS_Decimal_setProduct h_this h_this_row c_this_row u.1 u.2.1 u.2.2))) A) args s 0 0 A) (F0 m 87 ls []) := by
  intro v_first v_last a_row y3 y4 y5 y6 H locs ls hP hD hS hl h
  obtain ⟨hx, hb, hr, hml, hown, ht, hlk⟩ := id cx
  refine lv_iload hx hb d_Decimal_setProduct_87 (lv_at hl 2 rfl) ?_
  refine lv_iload hx hb d_Decimal_setProduct_89 (lv_at hl 4 rfl) ?_
  refine lv_isub hx hb d_Decimal_setProduct_91 ?_
  refine lv_topi (fun x1 e_x1 => ?_)
  have h := bd_g e_x1 h
  refine lv_istore (lv' := [(4, .int x1), (0, .ref h_this), (3, .int y3), (5, .int y5), (6, .int y6)]) hx hb d_Decimal_setProduct_92 hl (by decide) rfl (fun ls hl => ?_)
  obtain ⟨x2, e_x2⟩ : ∃ y : Int32, y = y5 + (1 : Int32) := ⟨_, rfl⟩
  refine lv_iinc (v := x2) (lv' := [(5, .int x2), (4, .int x1), (0, .ref h_this), (3, .int y3), (6, .int y6)]) hx hb d_Decimal_setProduct_94 hl (k := 3) rfl (by rw [e_x2]; rfl) (by decide) rfl (fun ls hl => ?_)
  have h := bd_g e_x2 h
  refine lv_goto (tgt := 47) hx hb d_Decimal_setProduct_97 (by decide) ?_
  exact hk47 v_first v_last a_row y3 x1 x2 H locs ls hP hD hS (lv_sub hl [2, 3, 1, 0] rfl) h
set_option maxHeartbeats 4000000 in
set_option maxRecDepth 100000 in
theorem s_Decimal_setProduct_47b {p : Program} {l : Launch} {e : Env} {s : State} {m : MethodId} {args : Array Value} {below : List Frame} {meth : Method} {c : Code} {dC : Nat → ClassId} {dI : Nat → Nat → Nat} {A : Nat → Prop} {X : SXT} {h_this : Nat} {h_this_row : Nat} {c_this_row : ClassId} {res : Int32 × Int32 × (Nat → Int32)} {k47 : Int32 → Int32 → (Nat → Int32) → Int32 → Int32 → Int32 → Option (Int32 × Int32 × (Nat → Int32))} (cx : cxx p s m args meth c b_Decimal_setProduct 7 none R_Decimal) (hK : va_K (dC, dI) classes [(c_this_row, .int)] s) (hA : ∀ q, s.heap.size ≤ q → A q) (hX : SX X A s s.heap) (hk47 : ∀ (v_first : Int32) (v_last : Int32) (a_row : (Nat → Int32)) (y3 : Int32) (y4 : Int32) (y5 : Int32) (H : Heap) (locs : List Loc) (ls : Array Slot), va_P (dC, dI) classes (WS_Decimal_setProduct h_this h_this_row c_this_row v_first v_last a_row) H → va_D A (WS_Decimal_setProduct h_this h_this_row c_this_row v_first v_last a_row) → va_S A s.heap H locs → lv_has ls 7 [(0, .ref h_this), (3, .int y3), (4, .int y4), (5, .int y5)] → k47 v_first v_last a_row y3 y4 y5 = some res → W p l e ({ frames := 3, cells := 0, slots := 0, locals := 69 }) s m args below meth c H locs 0 0 (MQ below (va_Qv (fun (u : Int32 × Int32 × (Nat → Int32)) => some u = some res) (gB (dC, dI) [(c_this_row, .int)] A (fun (u : Int32 × Int32 × (Nat → Int32)) => (WS_Decimal_setProduct h_this h_this_row c_this_row u.1 u.2.1 u.2.2))) A) args s 0 0 A) (F0 m 47 ls [])) : ∀ (v_first : Int32) (v_last : Int32) (a_row : (Nat → Int32)) (y3 : Int32) (y4 : Int32) (y5 : Int32) (H : Heap) (locs : List Loc) (ls : Array Slot), va_P (dC, dI) classes (WS_Decimal_setProduct h_this h_this_row c_this_row v_first v_last a_row) H → va_D A (WS_Decimal_setProduct h_this h_this_row c_this_row v_first v_last a_row) → va_S A s.heap H locs → lv_has ls 7 [(0, .ref h_this), (3, .int y3), (4, .int y4), (5, .int y5)] → f_Decimal_setProduct_47b k47 v_first v_last a_row y3 y4 y5 = some res → W p l e ({ frames := 3, cells := 0, slots := 0, locals := 69 }) s m args below meth c H locs 0 0 (MQ below (va_Qv (fun (u : Int32 × Int32 × (Nat → Int32)) => some u = some res) (gB (dC, dI) [(c_this_row, .int)] A (fun (u : Int32 × Int32 × (Nat → Int32)) => (WS_Decimal_setProduct h_this h_this_row c_this_row u.1 u.2.1 u.2.2))) A) args s 0 0 A) (F0 m 47 ls []) := by
  intro v_first v_last a_row y3 y4 y5 H locs ls hP hD hS hl h
  obtain ⟨hx, hb, hr, hml, hown, ht, hlk⟩ := id cx
  refine lv_iload hx hb d_Decimal_setProduct_47 (lv_at hl 3 rfl) ?_
  refine lv_bipush (v := 64) hx hb d_Decimal_setProduct_49 (by decide) ?_
  refine lv_icmp_ge (tgt := 100) hx hb d_Decimal_setProduct_51 (by decide) (fun c3 => ?_) (fun c3 => ?_)
  · have h := if_t c3 h
    exact W.vret hx hb hr (fun t ht9 hW => ⟨⟨(v_first, v_last, a_row), rfl, h, by rw [ht9]; exact hP, va_K.moved hW.alike hK, hD⟩, hS.F ht9⟩) hS.2.2 d_Decimal_setProduct_100 hlk
  · have h := if_f c3 h
    refine lv_iload hx hb d_Decimal_setProduct_54 (lv_at hl 2 rfl) ?_
    refine lv_if_le (tgt := 100) hx hb d_Decimal_setProduct_56 (by decide) (fun c4 => ?_) (fun c4 => ?_)
    · have h := if_t c4 h
      exact W.vret hx hb hr (fun t ht9 hW => ⟨⟨(v_first, v_last, a_row), rfl, h, by rw [ht9]; exact hP, va_K.moved hW.alike hK, hD⟩, hS.F ht9⟩) hS.2.2 d_Decimal_setProduct_100 hlk
    · have h := if_f c4 h
      refine lv_bipush (v := 29) hx hb d_Decimal_setProduct_59 (by decide) ?_
      refine lv_iload hx hb d_Decimal_setProduct_61 (lv_at hl 2 rfl) ?_
      refine va_mmin hx hb (hml.trans hl.1.symm) hown (ht _ q_150) (ht _ q_39) (ht _ q_40) (ht _ q_41) (Nat.le_of_ble_eq_true rfl) (Nat.le_of_ble_eq_true rfl) (Nat.zero_le _) (Nat.zero_le _) d_Decimal_setProduct_63 ?_
      refine W.eq (g2 := F0 m 66 ls (.int (imn (29 : Int32) y4) :: [])) rfl ?_
      refine lv_topi (fun x5 e_x5 => ?_)
      have h := bd_g e_x5 h
      refine lv_istore (lv' := [(6, .int x5), (0, .ref h_this), (3, .int y3), (4, .int y4), (5, .int y5)]) hx hb d_Decimal_setProduct_66 hl (by decide) rfl (fun ls hl => ?_)
      refine lv_iload_n hx hb d_Decimal_setProduct_68 rfl (lv_at hl 2 rfl) ?_
      refine lv_if_ge (tgt := 81) hx hb d_Decimal_setProduct_69 (by decide) (fun c6 => ?_) (fun c6 => ?_)
      · have h := if_t c6 h
        refine lv_aload_n hx hb d_Decimal_setProduct_81 rfl (lv_at hl 1 rfl) ?_
        refine lv_iload hx hb d_Decimal_setProduct_82 (lv_at hl 0 rfl) ?_
        obtain ⟨v7, v8, a9, hf, h⟩ := bi3_x h
        refine clVv (D := (dC, dI)) (n := 1) (As := [.int x5]) ⟨hx, hb, hml, hown, ht⟩ (c_Decimal_multiply l dC dI X h_this h_this_row c_this_row H.size v_first v_last a_row x5 (v7, v8, a9) hf) (gV q_151 q_152 q_153 q_113 q_154) (by decide +kernel) ⟨rfl, rfl, Nat.le_of_ble_eq_true rfl, Nat.le_of_ble_eq_true rfl⟩ hK hP hD hS hA hX [0, 1] [] [0] rfl (wr := []) rfl (by decide) (by decide) (by decide) rfl (va_recv hK hP (ci := 3) (q0 := 0) rfl rfl) rfl hl.1 rfl (lv_room (Nat.le_of_ble_eq_true rfl)) d_Decimal_setProduct_84 ⟨Nat.zero_le _, Nat.zero_le _⟩ (fun u9 H locs h9 hP hD hS => ?_)
        cases h9
        have hP : va_P (dC, dI) classes (WS_Decimal_setProduct h_this h_this_row c_this_row v7 v8 a9) H := hP.sub [0, 1] rfl
        have hD : va_D A (WS_Decimal_setProduct h_this h_this_row c_this_row v7 v8 a9) := hD.sub [0, 1] (by decide) rfl
        exact s_Decimal_setProduct_87 cx hK hA hX hk47 v7 v8 a9 y3 y4 y5 x5 H locs ls hP hD hS (lv_sub hl [1, 2, 3, 4, 0] rfl) h
      · have h := if_f c6 h
        refine lv_aload_n hx hb d_Decimal_setProduct_72 rfl (lv_at hl 1 rfl) ?_
        refine lv_iload hx hb d_Decimal_setProduct_73 (lv_at hl 0 rfl) ?_
        obtain ⟨v10, v11, a12, hf, h⟩ := bi3_x h
        refine clVv (D := (dC, dI)) (n := 1) (As := [.int x5]) ⟨hx, hb, hml, hown, ht⟩ (c_Decimal_divide l dC dI X h_this h_this_row c_this_row H.size v_first v_last a_row x5 (v10, v11, a12) hf) (gV q_159 q_160 q_161 q_113 q_162) (by decide +kernel) ⟨rfl, rfl, Nat.le_of_ble_eq_true rfl, Nat.le_of_ble_eq_true rfl⟩ hK hP hD hS hA hX [0, 1] [] [0] rfl (wr := []) rfl (by decide) (by decide) (by decide) rfl (va_recv hK hP (ci := 3) (q0 := 0) rfl rfl) rfl hl.1 rfl (lv_room (Nat.le_of_ble_eq_true rfl)) d_Decimal_setProduct_75 ⟨Nat.zero_le _, Nat.zero_le _⟩ (fun u9 H locs h9 hP hD hS => ?_)
        cases h9
        have hP : va_P (dC, dI) classes (WS_Decimal_setProduct h_this h_this_row c_this_row v10 v11 a12) H := hP.sub [0, 1] rfl
        have hD : va_D A (WS_Decimal_setProduct h_this h_this_row c_this_row v10 v11 a12) := hD.sub [0, 1] (by decide) rfl
        refine lv_goto (tgt := 87) hx hb d_Decimal_setProduct_78 (by decide) ?_
        exact s_Decimal_setProduct_87 cx hK hA hX hk47 v10 v11 a12 y3 y4 y5 x5 H locs ls hP hD hS (lv_sub hl [1, 2, 3, 4, 0] rfl) h
set_option maxHeartbeats 4000000 in
set_option maxRecDepth 100000 in
theorem s_Decimal_setProduct_47 {p : Program} {l : Launch} {e : Env} {s : State} {m : MethodId} {args : Array Value} {below : List Frame} {meth : Method} {c : Code} {dC : Nat → ClassId} {dI : Nat → Nat → Nat} {A : Nat → Prop} {X : SXT} {h_this : Nat} {h_this_row : Nat} {c_this_row : ClassId} {res : Int32 × Int32 × (Nat → Int32)}  (cx : cxx p s m args meth c b_Decimal_setProduct 7 none R_Decimal) (hK : va_K (dC, dI) classes [(c_this_row, .int)] s) (hA : ∀ q, s.heap.size ≤ q → A q) (hX : SX X A s s.heap)  : ∀ n : Nat, ∀ (v_first : Int32) (v_last : Int32) (a_row : (Nat → Int32)) (y3 : Int32) (y4 : Int32) (y5 : Int32) (H : Heap) (locs : List Loc) (ls : Array Slot), va_P (dC, dI) classes (WS_Decimal_setProduct h_this h_this_row c_this_row v_first v_last a_row) H → va_D A (WS_Decimal_setProduct h_this h_this_row c_this_row v_first v_last a_row) → va_S A s.heap H locs → lv_has ls 7 [(0, .ref h_this), (3, .int y3), (4, .int y4), (5, .int y5)] → f_Decimal_setProduct_47 n v_first v_last a_row y3 y4 y5 = some res → W p l e ({ frames := 3, cells := 0, slots := 0, locals := 69 }) s m args below meth c H locs 0 0 (MQ below (va_Qv (fun (u : Int32 × Int32 × (Nat → Int32)) => some u = some res) (gB (dC, dI) [(c_this_row, .int)] A (fun (u : Int32 × Int32 × (Nat → Int32)) => (WS_Decimal_setProduct h_this h_this_row c_this_row u.1 u.2.1 u.2.2))) A) args s 0 0 A) (F0 m 47 ls []) := by
  intro n
  induction n with
  | zero =>
    intro v_first v_last a_row y3 y4 y5 H locs ls hP hD hS hl h
    have h9 : (none : Option (Int32 × Int32 × (Nat → Int32))) = some res := h
    cases h9
  | succ n ih =>
    intro v_first v_last a_row y3 y4 y5 H locs ls hP hD hS hl h
    exact s_Decimal_setProduct_47b cx hK hA hX ih v_first v_last a_row y3 y4 y5 H locs ls hP hD hS hl h
set_option maxHeartbeats 4000000 in
set_option maxRecDepth 100000 in
theorem s_Decimal_setProduct_42 {p : Program} {l : Launch} {e : Env} {s : State} {m : MethodId} {args : Array Value} {below : List Frame} {meth : Method} {c : Code} {dC : Nat → ClassId} {dI : Nat → Nat → Nat} {A : Nat → Prop} {X : SXT} {h_this : Nat} {h_this_row : Nat} {c_this_row : ClassId} {res : Int32 × Int32 × (Nat → Int32)}  (cx : cxx p s m args meth c b_Decimal_setProduct 7 none R_Decimal) (hK : va_K (dC, dI) classes [(c_this_row, .int)] s) (hA : ∀ q, s.heap.size ≤ q → A q) (hX : SX X A s s.heap)  : ∀ (v_first : Int32) (v_last : Int32) (a_row : (Nat → Int32)) (y3 : Int32) (z0 : Int32) (H : Heap) (locs : List Loc) (ls : Array Slot), va_P (dC, dI) classes (WS_Decimal_setProduct h_this h_this_row c_this_row v_first v_last a_row) H → va_D A (WS_Decimal_setProduct h_this h_this_row c_this_row v_first v_last a_row) → va_S A s.heap H locs → lv_has ls 7 [(0, .ref h_this), (3, .int y3)] → f_Decimal_setProduct_42 v_first v_last a_row y3 z0 = some res → W p l e ({ frames := 3, cells := 0, slots := 0, locals := 69 }) s m args below meth c H locs 0 0 (MQ below (va_Qv (fun (u : Int32 × Int32 × (Nat → Int32)) => some u = some res) (gB (dC, dI) [(c_this_row, .int)] A (fun (u : Int32 × Int32 × (Nat → Int32)) => (WS_Decimal_setProduct h_this h_this_row c_this_row u.1 u.2.1 u.2.2))) A) args s 0 0 A) (F0 m 42 ls [.int z0]) := by
  intro v_first v_last a_row y3 z0 H locs ls hP hD hS hl h
  obtain ⟨hx, hb, hr, hml, hown, ht, hlk⟩ := id cx
  refine lv_istore (lv' := [(4, .int z0), (0, .ref h_this), (3, .int y3)]) hx hb d_Decimal_setProduct_42 hl (by decide) rfl (fun ls hl => ?_)
  refine lv_iconst (v := 0) hx hb d_Decimal_setProduct_44 (by decide) ?_
  refine lv_istore (lv' := [(5, .int (0 : Int32)), (4, .int z0), (0, .ref h_this), (3, .int y3)]) hx hb d_Decimal_setProduct_45 hl (by decide) rfl (fun ls hl => ?_)
  exact s_Decimal_setProduct_47 cx hK hA hX fu v_first v_last a_row y3 z0 (0 : Int32) H locs ls hP hD hS (lv_sub hl [2, 3, 1, 0] rfl) h
set_option maxHeartbeats 4000000 in
set_option maxRecDepth 100000 in
theorem s_Decimal_setProduct_e {p : Program} {l : Launch} {e : Env} {s : State} {m : MethodId} {args : Array Value} {below : List Frame} {meth : Method} {c : Code} {dC : Nat → ClassId} {dI : Nat → Nat → Nat} {A : Nat → Prop} {X : SXT} {h_this : Nat} {h_this_row : Nat} {c_this_row : ClassId} {res : Int32 × Int32 × (Nat → Int32)} (cx : cxx p s m args meth c b_Decimal_setProduct 7 none R_Decimal) (hK : va_K (dC, dI) classes [(c_this_row, .int)] s) (hA : ∀ q, s.heap.size ≤ q → A q) (hX : SX X A s s.heap) : ∀ (v_first : Int32) (v_last : Int32) (a_row : (Nat → Int32)) (p1 : Int64) (p3 : Int32) (H : Heap) (locs : List Loc) (ls : Array Slot), va_P (dC, dI) classes (WS_Decimal_setProduct h_this h_this_row c_this_row v_first v_last a_row) H → va_D A (WS_Decimal_setProduct h_this h_this_row c_this_row v_first v_last a_row) → va_S A s.heap H locs → lv_has ls 7 [(0, .ref h_this), (1, .long p1), (3, .int p3)] → f_Decimal_setProduct v_first v_last a_row p1 p3 = some res → W p l e ({ frames := 3, cells := 0, slots := 0, locals := 69 }) s m args below meth c H locs 0 0 (MQ below (va_Qv (fun (u : Int32 × Int32 × (Nat → Int32)) => some u = some res) (gB (dC, dI) [(c_this_row, .int)] A (fun (u : Int32 × Int32 × (Nat → Int32)) => (WS_Decimal_setProduct h_this h_this_row c_this_row u.1 u.2.1 u.2.2))) A) args s 0 0 A) (F0 m 0 ls []) := by
  intro v_first v_last a_row p1 p3 H locs ls hP hD hS hl h
  obtain ⟨hx, hb, hr, hml, hown, ht, hlk⟩ := id cx
  refine lv_aload_n hx hb d_Decimal_setProduct_0 rfl (lv_at hl 0 rfl) ?_
  obtain ⟨v13, v14, a15, hf, h⟩ := bi3_x h
  refine clVv (D := (dC, dI)) (n := 0) (As := []) ⟨hx, hb, hml, hown, ht⟩ (c_Decimal_clear l dC dI X h_this h_this_row c_this_row H.size v_first v_last a_row (v13, v14, a15) hf) (gV q_352 q_136 q_137 q_113 q_138) (by decide +kernel) ⟨rfl, rfl, Nat.le_of_ble_eq_true rfl, Nat.le_of_ble_eq_true rfl⟩ hK hP hD hS hA hX [0, 1] [] [0] rfl (wr := []) rfl (by decide) (by decide) (by decide) rfl (va_recv hK hP (ci := 3) (q0 := 0) rfl rfl) rfl hl.1 rfl (lv_room (Nat.le_of_ble_eq_true rfl)) d_Decimal_setProduct_1 ⟨Nat.zero_le _, Nat.zero_le _⟩ (fun u9 H locs h9 hP hD hS => ?_)
  cases h9
  have hP : va_P (dC, dI) classes (WS_Decimal_setProduct h_this h_this_row c_this_row v13 v14 a15) H := hP.sub [0, 1] rfl
  have hD : va_D A (WS_Decimal_setProduct h_this h_this_row c_this_row v13 v14 a15) := hD.sub [0, 1] (by decide) rfl
  refine lv_aload_n hx hb d_Decimal_setProduct_4 rfl (lv_at hl 0 rfl) ?_
  refine lv_bipush (v := 35) hx hb d_Decimal_setProduct_5 (by decide) ?_
  refine lv_lload_n hx hb d_Decimal_setProduct_7 rfl (lv_at hl 1 rfl) ?_
  refine lv_ldc2 (v := 1000000000) hx hb hown (ht _ q_140) d_Decimal_setProduct_8 ?_
  refine lv_lrem hx hb d_Decimal_setProduct_11 (by decide) ?_
  refine W.eq (g2 := F0 m 12 ls (.long (lrm p1 (1000000000 : Int64)) :: .int (35 : Int32) :: .ref h_this :: [])) rfl ?_
  refine lv_l2i (v := (lrm p1 (1000000000 : Int64)).toInt32) hx hb d_Decimal_setProduct_12 rfl ?_
  obtain ⟨v16, v17, a18, hf, h⟩ := bi3_x h
  refine clVv (D := (dC, dI)) (n := 2) (As := [.int (35 : Int32), .int ((lrm p1 (1000000000 : Int64)).toInt32)]) ⟨hx, hb, hml, hown, ht⟩ (c_Decimal_setLimb l dC dI X h_this h_this_row c_this_row H.size v13 v14 a15 (35 : Int32) ((lrm p1 (1000000000 : Int64)).toInt32) (v16, v17, a18) hf) (gV q_110 q_111 q_112 q_113 q_114) (by decide +kernel) ⟨rfl, rfl, Nat.le_of_ble_eq_true rfl, Nat.le_of_ble_eq_true rfl⟩ hK hP hD hS hA hX [0, 1] [] [0] rfl (wr := []) rfl (by decide) (by decide) (by decide) rfl (va_recv hK hP (ci := 3) (q0 := 0) rfl rfl) rfl hl.1 rfl (lv_room (Nat.le_of_ble_eq_true rfl)) d_Decimal_setProduct_13 ⟨Nat.zero_le _, Nat.zero_le _⟩ (fun u9 H locs h9 hP hD hS => ?_)
  cases h9
  have hP : va_P (dC, dI) classes (WS_Decimal_setProduct h_this h_this_row c_this_row v16 v17 a18) H := hP.sub [0, 1] rfl
  have hD : va_D A (WS_Decimal_setProduct h_this h_this_row c_this_row v16 v17 a18) := hD.sub [0, 1] (by decide) rfl
  refine lv_aload_n hx hb d_Decimal_setProduct_16 rfl (lv_at hl 0 rfl) ?_
  refine lv_bipush (v := 34) hx hb d_Decimal_setProduct_17 (by decide) ?_
  refine lv_lload_n hx hb d_Decimal_setProduct_19 rfl (lv_at hl 1 rfl) ?_
  refine lv_ldc2 (v := 1000000000) hx hb hown (ht _ q_140) d_Decimal_setProduct_20 ?_
  refine lv_ldiv hx hb d_Decimal_setProduct_23 (by decide) ?_
  refine lv_l2i (v := (p1 / (1000000000 : Int64)).toInt32) hx hb d_Decimal_setProduct_24 rfl ?_
  obtain ⟨v19, v20, a21, hf, h⟩ := bi3_x h
  refine clVv (D := (dC, dI)) (n := 2) (As := [.int (34 : Int32), .int ((p1 / (1000000000 : Int64)).toInt32)]) ⟨hx, hb, hml, hown, ht⟩ (c_Decimal_setLimb l dC dI X h_this h_this_row c_this_row H.size v16 v17 a18 (34 : Int32) ((p1 / (1000000000 : Int64)).toInt32) (v19, v20, a21) hf) (gV q_110 q_111 q_112 q_113 q_114) (by decide +kernel) ⟨rfl, rfl, Nat.le_of_ble_eq_true rfl, Nat.le_of_ble_eq_true rfl⟩ hK hP hD hS hA hX [0, 1] [] [0] rfl (wr := []) rfl (by decide) (by decide) (by decide) rfl (va_recv hK hP (ci := 3) (q0 := 0) rfl rfl) rfl hl.1 rfl (lv_room (Nat.le_of_ble_eq_true rfl)) d_Decimal_setProduct_25 ⟨Nat.zero_le _, Nat.zero_le _⟩ (fun u9 H locs h9 hP hD hS => ?_)
  cases h9
  have hP : va_P (dC, dI) classes (WS_Decimal_setProduct h_this h_this_row c_this_row v19 v20 a21) H := hP.sub [0, 1] rfl
  have hD : va_D A (WS_Decimal_setProduct h_this h_this_row c_this_row v19 v20 a21) := hD.sub [0, 1] (by decide) rfl
  refine lv_aload_n hx hb d_Decimal_setProduct_28 rfl (lv_at hl 0 rfl) ?_
  obtain ⟨v22, v23, hf, h⟩ := bi2_x h
  refine clVv (D := (dC, dI)) (n := 0) (As := []) ⟨hx, hb, hml, hown, ht⟩ (c_Decimal_trim l dC dI X h_this h_this_row c_this_row H.size v19 v20 a21 (v22, v23) hf) (gV q_120 q_121 q_122 q_113 q_123) (by decide +kernel) ⟨rfl, rfl, Nat.le_of_ble_eq_true rfl, Nat.le_of_ble_eq_true rfl⟩ hK hP hD hS hA hX [0, 1] [] [0] rfl (wr := []) rfl (by decide) (by decide) (by decide) rfl (va_recv hK hP (ci := 3) (q0 := 0) rfl rfl) rfl hl.1 rfl (lv_room (Nat.le_of_ble_eq_true rfl)) d_Decimal_setProduct_29 ⟨Nat.zero_le _, Nat.zero_le _⟩ (fun u9 H locs h9 hP hD hS => ?_)
  cases h9
  have hP : va_P (dC, dI) classes (WS_Decimal_setProduct h_this h_this_row c_this_row v22 v23 a21) H := hP.sub [0, 1] rfl
  have hD : va_D A (WS_Decimal_setProduct h_this h_this_row c_this_row v22 v23 a21) := hD.sub [0, 1] (by decide) rfl
  refine lv_iload_n hx hb d_Decimal_setProduct_32 rfl (lv_at hl 2 rfl) ?_
  refine lv_if_ge (tgt := 41) hx hb d_Decimal_setProduct_33 (by decide) (fun c24 => ?_) (fun c24 => ?_)
  · have h := if_t c24 h
    refine lv_iload_n hx hb d_Decimal_setProduct_41 rfl (lv_at hl 2 rfl) ?_
    exact s_Decimal_setProduct_42 cx hK hA hX v22 v23 a21 p3 p3 H locs ls hP hD hS (lv_sub hl [0, 2] rfl) h
  · have h := if_f c24 h
    refine lv_iload_n hx hb d_Decimal_setProduct_36 rfl (lv_at hl 2 rfl) ?_
    refine lv_ineg hx hb d_Decimal_setProduct_37 ?_
    refine lv_goto (tgt := 42) hx hb d_Decimal_setProduct_38 (by decide) ?_
    exact s_Decimal_setProduct_42 cx hK hA hX v22 v23 a21 p3 (-p3) H locs ls hP hD hS (lv_sub hl [0, 2] rfl) h
set_option maxHeartbeats 4000000 in
set_option maxRecDepth 100000 in
theorem c_Decimal_setProduct (l : Launch) (dC : Nat → ClassId) (dI : Nat → Nat → Nat) (X : SXT) (h_this : Nat) (h_this_row : Nat) (c_this_row : ClassId) (sz : Nat) (v_first : Int32) (v_last : Int32) (a_row : (Nat → Int32)) (p1 : Int64) (p3 : Int32) (res : Int32 × Int32 × (Nat → Int32)) (hf : f_Decimal_setProduct v_first v_last a_row p1 p3 = some res) : Met l y_Decimal_setProduct (.code y_Decimal_setProduct b_Decimal_setProduct 7 none :: w0) ({ frames := 3, cells := 0, slots := 0, locals := 69 }) (va_Pc [.ref h_this, .long p1, .int p3] (gP (dC, dI) (WS_Decimal_setProduct h_this h_this_row c_this_row v_first v_last a_row) [(c_this_row, .int)] sz X)) (va_Qv (fun (u : Int32 × Int32 × (Nat → Int32)) => some u = some res) (gB (dC, dI) [(c_this_row, .int)] (va_A (WS_Decimal_setProduct h_this h_this_row c_this_row v_first v_last a_row) sz) (fun (u : Int32 × Int32 × (Nat → Int32)) => (WS_Decimal_setProduct h_this h_this_row c_this_row u.1 u.2.1 u.2.2))) (va_A (WS_Decimal_setProduct h_this h_this_row c_this_row v_first v_last a_row) sz)) 0 0 (va_A (WS_Decimal_setProduct h_this h_this_row c_this_row v_first v_last a_row) sz) := by
  refine Met.ofW (cc := b_Decimal_setProduct) (maxL := 7) (ret := none) (by decide) rfl ?_
  intro p e s m args below meth c s₁ B hml hv
  obtain ⟨rfl, hsz, hP, hK, hD0, hX⟩ := hv
  subst hsz
  have cx : cxx p s m ([.ref h_this, .long p1, .int p3] : List Value).toArray meth c b_Decimal_setProduct 7 none R_Decimal := ⟨B.exec, B.bytes, B.returns, hml, findClass_of_methodNamed B.named, fun w9 hw => atoms_spec (ws := .code y_Decimal_setProduct b_Decimal_setProduct 7 none :: w0) B.pre w9 (List.mem_cons_of_mem _ hw), B.notSynchronized⟩
  have hD := hD0.self (sz := s.heap.size)
  generalize hAe : va_A (WS_Decimal_setProduct h_this h_this_row c_this_row v_first v_last a_row) s.heap.size = A at hD hX ⊢
  have hA : ∀ q : Nat, s.heap.size ≤ q → A q := fun q h => by rw [← hAe]; exact Or.inr h
  have hS : va_S A s.heap s.heap [] := va_S.rf
  have hl := lv_entry ([.ref h_this, .long p1, .int p3]) (n := 7) (Nat.le_of_ble_eq_true rfl)
  rw [lg_entry_eq]
  generalize (lg_sl ([.ref h_this, .long p1, .int p3]) ++ List.replicate (7 - (lg_sl ([.ref h_this, .long p1, .int p3])).length) Slot.unset).toArray = ls at hl ⊢
  have hl : lv_has ls 7 [(0, .ref h_this), (1, .long p1), (3, .int p3)] := hl
  exact s_Decimal_setProduct_e cx hK hA hX v_first v_last a_row p1 p3 s.heap [] ls hP hD hS hl hf

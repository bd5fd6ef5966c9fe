abbrev WS_Tape_hasRoomFor (g_this_row : Nat) (h_this : Nat)  (v_length : Int32) : va_W := [(h_this, .inr (1, [.ref g_this_row, .int v_length]))]
def f_Tape_hasRoomFor (v_length : Int32) (p1 : Int32) : Option (Int32) :=
  if ((1200 : Int32) - v_length) < p1 then
    some (0 : Int32)
  else
    some (1 : Int32)
set_option maxHeartbeats 4000000 in
set_option maxRecDepth 100000 in
theorem s_Tape_hasRoomFor_e {p : Program} {l : Launch} {e : Env} {s : State} {m : MethodId} {args : Array Value} {below : List Frame} {meth : Method} {c : Code} {dC : Nat → ClassId} {dI : Nat → Nat → Nat} {A : Nat → Prop} {X : SXT} {g_this_row : Nat} {h_this : Nat} {res : Int32} (cx : cxx p s m args meth c b_Tape_hasRoomFor 2 (some .boolean) R_Tape) (hK : va_K (dC, dI) classes [] s) (hA : ∀ q, s.heap.size ≤ q → A q) (hX : SX X A s s.heap) : ∀ (v_length : Int32) (p1 : Int32) (H : Heap) (locs : List Loc) (ls : Array Slot), va_P (dC, dI) classes (WS_Tape_hasRoomFor g_this_row h_this v_length) H → va_D A (WS_Tape_hasRoomFor g_this_row h_this v_length) → va_S A s.heap H locs → lv_has ls 2 [(0, .ref h_this), (1, .int p1)] → f_Tape_hasRoomFor v_length p1 = some res → W p l e ({ frames := 0, cells := 0, slots := 0, locals := 0 }) s m args below meth c H locs 0 0 (MQ below (va_Qi (fun (r : Int32) (_ : Unit) => some r = some res) (gB (dC, dI) [] A (fun (u : Unit) => (WS_Tape_hasRoomFor g_this_row h_this v_length))) A) args s 0 0 A) (F0 m 0 ls []) := by
  intro v_length p1 H locs ls hP hD hS hl h
  obtain ⟨hx, hb, hr, hml, hown, ht, hlk⟩ := id cx
  refine lv_iload_n hx hb d_Tape_hasRoomFor_0 rfl (lv_at hl 1 rfl) ?_
  refine lv_sipush (v := 1200) hx hb d_Tape_hasRoomFor_1 (by decide) ?_
  refine lv_aload_n hx hb d_Tape_hasRoomFor_4 rfl (lv_at hl 0 rfl) ?_
  refine va_get (D := (dC, dI)) (ci := 1) (v := .int v_length) (C := R_Tape) (T := F_Tape) (N := 2) hx hb ht i_Tape hown hK hP 0 rfl rfl 1 (by decide) (ht _ q_0) (fun _ h9 => h9) rfl d_Tape_hasRoomFor_5 ?_
  refine lv_isub hx hb d_Tape_hasRoomFor_8 ?_
  refine lv_icmp_gt (tgt := 16) hx hb d_Tape_hasRoomFor_9 (by decide) (fun c1 => ?_) (fun c1 => ?_)
  · have h := if_t c1 h
    refine lv_iconst (v := 0) hx hb d_Tape_hasRoomFor_16 (by decide) ?_
    exact W.zret (v := (0 : Int32)) hx hb hr rfl (fun t ht9 hW => ⟨⟨(0 : Int32), (), rfl, h, by rw [ht9]; exact hP, va_K.moved hW.alike hK, hD⟩, hS.F ht9⟩) hS.2.2 d_Tape_hasRoomFor_17 hlk
  · have h := if_f c1 h
    refine lv_iconst (v := 1) hx hb d_Tape_hasRoomFor_12 (by decide) ?_
    refine lv_goto (tgt := 17) hx hb d_Tape_hasRoomFor_13 (by decide) ?_
    exact W.zret (v := (1 : Int32)) hx hb hr rfl (fun t ht9 hW => ⟨⟨(1 : Int32), (), rfl, h, by rw [ht9]; exact hP, va_K.moved hW.alike hK, hD⟩, hS.F ht9⟩) hS.2.2 d_Tape_hasRoomFor_17 hlk
set_option maxHeartbeats 4000000 in
set_option maxRecDepth 100000 in
theorem c_Tape_hasRoomFor (l : Launch) (dC : Nat → ClassId) (dI : Nat → Nat → Nat) (X : SXT) (g_this_row : Nat) (h_this : Nat) (sz : Nat) (v_length : Int32) (p1 : Int32) (res : Int32) (hf : f_Tape_hasRoomFor v_length p1 = some res) : Met l y_Tape_hasRoomFor (.code y_Tape_hasRoomFor b_Tape_hasRoomFor 2 (some .boolean) :: w0) ({ frames := 0, cells := 0, slots := 0, locals := 0 }) (va_Pc [.ref h_this, .int p1] (gP (dC, dI) (WS_Tape_hasRoomFor g_this_row h_this v_length) [] sz X)) (va_Qi (fun (r : Int32) (_ : Unit) => some r = some res) (gB (dC, dI) [] (va_A (WS_Tape_hasRoomFor g_this_row h_this v_length) sz) (fun (u : Unit) => (WS_Tape_hasRoomFor g_this_row h_this v_length))) (va_A (WS_Tape_hasRoomFor g_this_row h_this v_length) sz)) 0 0 (va_A (WS_Tape_hasRoomFor g_this_row h_this v_length) sz) := by
  refine Met.ofW (cc := b_Tape_hasRoomFor) (maxL := 2) (ret := (some .boolean)) (by decide) rfl ?_
  intro p e s m args below meth c s₁ B hml hv
  obtain ⟨rfl, hsz, hP, hK, hD0, hX⟩ := hv
  subst hsz
  have cx : cxx p s m ([.ref h_this, .int p1] : List Value).toArray meth c b_Tape_hasRoomFor 2 (some .boolean) R_Tape := ⟨B.exec, B.bytes, B.returns, hml, findClass_of_methodNamed B.named, fun w9 hw => atoms_spec (ws := .code y_Tape_hasRoomFor b_Tape_hasRoomFor 2 (some .boolean) :: w0) B.pre w9 (List.mem_cons_of_mem _ hw), B.notSynchronized⟩
  have hD := hD0.self (sz := s.heap.size)
  generalize hAe : va_A (WS_Tape_hasRoomFor g_this_row h_this v_length) s.heap.size = A at hD hX ⊢
  have hA : ∀ q : Nat, s.heap.size ≤ q → A q := fun q h => by rw [← hAe]; exact Or.inr h
  have hS : va_S A s.heap s.heap [] := va_S.rf
  have hl := lv_entry ([.ref h_this, .int p1]) (n := 2) (Nat.le_of_ble_eq_true rfl)
  rw [lg_entry_eq]
  generalize (lg_sl ([.ref h_this, .int p1]) ++ List.replicate (2 - (lg_sl ([.ref h_this, .int p1])).length) Slot.unset).toArray = ls at hl ⊢
  have hl : lv_has ls 2 [(0, .ref h_this), (1, .int p1)] := hl
  exact s_Tape_hasRoomFor_e cx hK hA hX v_length p1 s.heap [] ls hP hD hS hl hf
abbrev WS_Tape_add (h_this : Nat) (h_this_row : Nat) (c_this_row : ClassId) (v_length : Int32) (a_row : (Nat → Int32)) : va_W := [(h_this, .inr (1, [.ref h_this_row, .int v_length])), (h_this_row, .inl (c_this_row, 1200, .inl a_row))]
def f_Tape_add (v_length : Int32) (a_row : (Nat → Int32)) (p1 : Int32) : Option (Int32 × (Nat → Int32)) :=
  if v_length < 0 then
    some (v_length, a_row)
  else
    if (1200 : Int32) ≤ v_length then
      some (v_length, a_row)
    else
      ck (gin v_length 1200) <|
      bd (upd a_row v_length.toNatClampNeg ((p1.toInt8.toInt32).toInt8.toInt32)) fun a4 =>
      bd (v_length + (1 : Int32)) fun x5 =>
      some (x5, a4)
set_option maxHeartbeats 4000000 in
set_option maxRecDepth 100000 in
theorem s_Tape_add_e {p : Program} {l : Launch} {e : Env} {s : State} {m : MethodId} {args : Array Value} {below : List Frame} {meth : Method} {c : Code} {dC : Nat → ClassId} {dI : Nat → Nat → Nat} {A : Nat → Prop} {X : SXT} {h_this : Nat} {h_this_row : Nat} {c_this_row : ClassId} {res : Int32 × (Nat → Int32)} (cx : cxx p s m args meth c b_Tape_add 2 none R_Tape) (hK : va_K (dC, dI) classes [(c_this_row, .byte)] s) (hA : ∀ q, s.heap.size ≤ q → A q) (hX : SX X A s s.heap) : ∀ (v_length : Int32) (a_row : (Nat → Int32)) (p1 : Int32) (H : Heap) (locs : List Loc) (ls : Array Slot), va_P (dC, dI) classes (WS_Tape_add h_this h_this_row c_this_row v_length a_row) H → va_D A (WS_Tape_add h_this h_this_row c_this_row v_length a_row) → va_S A s.heap H locs → lv_has ls 2 [(0, .ref h_this), (1, .int p1)] → f_Tape_add v_length a_row p1 = some res → W p l e ({ frames := 0, cells := 0, slots := 0, locals := 0 }) s m args below meth c H locs 0 0 (MQ below (va_Qv (fun (u : Int32 × (Nat → Int32)) => some u = some res) (gB (dC, dI) [(c_this_row, .byte)] A (fun (u : Int32 × (Nat → Int32)) => (WS_Tape_add h_this h_this_row c_this_row u.1 u.2))) A) args s 0 0 A) (F0 m 0 ls []) := by
  intro v_length a_row p1 H locs ls hP hD hS hl h
  obtain ⟨hx, hb, hr, hml, hown, ht, hlk⟩ := id cx
  refine lv_aload_n hx hb d_Tape_add_0 rfl (lv_at hl 0 rfl) ?_
  refine va_get (D := (dC, dI)) (ci := 1) (v := .int v_length) (C := R_Tape) (T := F_Tape) (N := 2) hx hb ht i_Tape hown hK hP 0 rfl rfl 1 (by decide) (ht _ q_0) (fun _ h9 => h9) rfl d_Tape_add_1 ?_
  refine lv_if_lt (tgt := 40) hx hb d_Tape_add_4 (by decide) (fun c1 => ?_) (fun c1 => ?_)
  · have h := if_t c1 h
    exact W.vret hx hb hr (fun t ht9 hW => ⟨⟨(v_length, a_row), rfl, h, by rw [ht9]; exact hP, va_K.moved hW.alike hK, hD⟩, hS.F ht9⟩) hS.2.2 d_Tape_add_40 hlk
  · have h := if_f c1 h
    refine lv_aload_n hx hb d_Tape_add_7 rfl (lv_at hl 0 rfl) ?_
    refine va_get (D := (dC, dI)) (ci := 1) (v := .int v_length) (C := R_Tape) (T := F_Tape) (N := 2) hx hb ht i_Tape hown hK hP 0 rfl rfl 1 (by decide) (ht _ q_0) (fun _ h9 => h9) rfl d_Tape_add_8 ?_
    refine lv_aload_n hx hb d_Tape_add_11 rfl (lv_at hl 0 rfl) ?_
    refine va_get (D := (dC, dI)) (ci := 1) (v := .ref h_this_row) (C := R_Tape) (T := F_Tape) (N := 2) hx hb ht i_Tape hown hK hP 0 rfl rfl 0 (by decide) (ht _ q_1) (fun _ h9 => h9) rfl d_Tape_add_12 ?_
    refine va_alen (D := (dC, dI)) (v := 1200) hx hb hK hP 1 0 rfl rfl rfl d_Tape_add_15 ?_
    refine lv_icmp_ge (tgt := 40) hx hb d_Tape_add_16 (by decide) (fun c2 => ?_) (fun c2 => ?_)
    · have h := if_t c2 h
      exact W.vret hx hb hr (fun t ht9 hW => ⟨⟨(v_length, a_row), rfl, h, by rw [ht9]; exact hP, va_K.moved hW.alike hK, hD⟩, hS.F ht9⟩) hS.2.2 d_Tape_add_40 hlk
    · have h := if_f c2 h
      refine lv_aload_n hx hb d_Tape_add_19 rfl (lv_at hl 0 rfl) ?_
      refine va_get (D := (dC, dI)) (ci := 1) (v := .ref h_this_row) (C := R_Tape) (T := F_Tape) (N := 2) hx hb ht i_Tape hown hK hP 0 rfl rfl 0 (by decide) (ht _ q_1) (fun _ h9 => h9) rfl d_Tape_add_20 ?_
      refine lv_aload_n hx hb d_Tape_add_23 rfl (lv_at hl 0 rfl) ?_
      refine va_get (D := (dC, dI)) (ci := 1) (v := .int v_length) (C := R_Tape) (T := F_Tape) (N := 2) hx hb ht i_Tape hown hK hP 0 rfl rfl 1 (by decide) (ht _ q_0) (fun _ h9 => h9) rfl d_Tape_add_24 ?_
      refine lv_iload_n hx hb d_Tape_add_27 rfl (lv_at hl 1 rfl) ?_
      refine lv_i2b (v := p1.toInt8.toInt32) hx hb d_Tape_add_28 rfl ?_
      obtain ⟨c3, h⟩ := ck_x h
      refine va_bast (D := (dC, dI)) hx hb hK hP hD hS 1 0 rfl rfl c3 d_Tape_add_29 (fun H locs hP hD hS => ?_)
      obtain ⟨a4, e_a4⟩ : ∃ y, y = upd a_row v_length.toNatClampNeg ((p1.toInt8.toInt32).toInt8.toInt32) := ⟨_, rfl⟩
      have hP : va_P (dC, dI) classes (WS_Tape_add h_this h_this_row c_this_row v_length a4) H := by rw [e_a4]; exact hP
      have hD : va_D A (WS_Tape_add h_this h_this_row c_this_row v_length a4) := by rw [e_a4]; exact hD
      have h := bd_g e_a4 h
      refine lv_aload_n hx hb d_Tape_add_30 rfl (lv_at hl 0 rfl) ?_
      refine lv_dup hx hb d_Tape_add_31 rfl ?_
      refine va_get (D := (dC, dI)) (ci := 1) (v := .int v_length) (C := R_Tape) (T := F_Tape) (N := 2) hx hb ht i_Tape hown hK hP 0 rfl rfl 1 (by decide) (ht _ q_0) (fun _ h9 => h9) rfl d_Tape_add_32 ?_
      refine lv_iconst (v := 1) hx hb d_Tape_add_35 (by decide) ?_
      refine lv_iadd hx hb d_Tape_add_36 ?_
      refine lv_topi (fun x5 e_x5 => ?_)
      have h := bd_g e_x5 h
      refine va_put (D := (dC, dI)) (ci := 1) (v := .int x5) (ty := .int) (C := R_Tape) (T := F_Tape) (N := 2) hx hb ht i_Tape t_Tape t_Tape_ok n_Tape hown hK hP hD hS 0 rfl rfl 1 (by decide) (ht _ q_0) (fun _ h9 => h9) rfl (t_Tape_ok 1 (by decide)) rfl rfl (Nat.le_of_ble_eq_true rfl) d_Tape_add_37 (fun H locs hP hD hS => ?_)
      have hP : va_P (dC, dI) classes (WS_Tape_add h_this h_this_row c_this_row x5 a4) H := hP
      have hD : va_D A (WS_Tape_add h_this h_this_row c_this_row x5 a4) := hD
      exact W.vret hx hb hr (fun t ht9 hW => ⟨⟨(x5, a4), rfl, h, by rw [ht9]; exact hP, va_K.moved hW.alike hK, hD⟩, hS.F ht9⟩) hS.2.2 d_Tape_add_40 hlk
set_option maxHeartbeats 4000000 in
set_option maxRecDepth 100000 in
theorem c_Tape_add (l : Launch) (dC : Nat → ClassId) (dI : Nat → Nat → Nat) (X : SXT) (h_this : Nat) (h_this_row : Nat) (c_this_row : ClassId) (sz : Nat) (v_length : Int32) (a_row : (Nat → Int32)) (p1 : Int32) (res : Int32 × (Nat → Int32)) (hf : f_Tape_add v_length a_row p1 = some res) : Met l y_Tape_add (.code y_Tape_add b_Tape_add 2 none :: w0) ({ frames := 0, cells := 0, slots := 0, locals := 0 }) (va_Pc [.ref h_this, .int p1] (gP (dC, dI) (WS_Tape_add h_this h_this_row c_this_row v_length a_row) [(c_this_row, .byte)] sz X)) (va_Qv (fun (u : Int32 × (Nat → Int32)) => some u = some res) (gB (dC, dI) [(c_this_row, .byte)] (va_A (WS_Tape_add h_this h_this_row c_this_row v_length a_row) sz) (fun (u : Int32 × (Nat → Int32)) => (WS_Tape_add h_this h_this_row c_this_row u.1 u.2))) (va_A (WS_Tape_add h_this h_this_row c_this_row v_length a_row) sz)) 0 0 (va_A (WS_Tape_add h_this h_this_row c_this_row v_length a_row) sz) := by
  refine Met.ofW (cc := b_Tape_add) (maxL := 2) (ret := none) (by decide) rfl ?_
  intro p e s m args below meth c s₁ B hml hv
  obtain ⟨rfl, hsz, hP, hK, hD0, hX⟩ := hv
  subst hsz
  have cx : cxx p s m ([.ref h_this, .int p1] : List Value).toArray meth c b_Tape_add 2 none R_Tape := ⟨B.exec, B.bytes, B.returns, hml, findClass_of_methodNamed B.named, fun w9 hw => atoms_spec (ws := .code y_Tape_add b_Tape_add 2 none :: w0) B.pre w9 (List.mem_cons_of_mem _ hw), B.notSynchronized⟩
  have hD := hD0.self (sz := s.heap.size)
  generalize hAe : va_A (WS_Tape_add h_this h_this_row c_this_row v_length a_row) s.heap.size = A at hD hX ⊢
  have hA : ∀ q : Nat, s.heap.size ≤ q → A q := fun q h => by rw [← hAe]; exact Or.inr h
  have hS : va_S A s.heap s.heap [] := va_S.rf
  have hl := lv_entry ([.ref h_this, .int p1]) (n := 2) (Nat.le_of_ble_eq_true rfl)
  rw [lg_entry_eq]
  generalize (lg_sl ([.ref h_this, .int p1]) ++ List.replicate (2 - (lg_sl ([.ref h_this, .int p1])).length) Slot.unset).toArray = ls at hl ⊢
  have hl : lv_has ls 2 [(0, .ref h_this), (1, .int p1)] := hl
  exact s_Tape_add_e cx hK hA hX v_length a_row p1 s.heap [] ls hP hD hS hl hf
abbrev WS_Tape_length (g_this_row : Nat) (h_this : Nat)  (v_length : Int32) : va_W := [(h_this, .inr (1, [.ref g_this_row, .int v_length]))]
def f_Tape_length (v_length : Int32) : Option (Int32) :=
  some v_length
set_option maxHeartbeats 4000000 in
set_option maxRecDepth 100000 in
theorem s_Tape_length_e {p : Program} {l : Launch} {e : Env} {s : State} {m : MethodId} {args : Array Value} {below : List Frame} {meth : Method} {c : Code} {dC : Nat → ClassId} {dI : Nat → Nat → Nat} {A : Nat → Prop} {X : SXT} {g_this_row : Nat} {h_this : Nat} {res : Int32} (cx : cxx p s m args meth c b_Tape_length 1 (some .int) R_Tape) (hK : va_K (dC, dI) classes [] s) (hA : ∀ q, s.heap.size ≤ q → A q) (hX : SX X A s s.heap) : ∀ (v_length : Int32) (H : Heap) (locs : List Loc) (ls : Array Slot), va_P (dC, dI) classes (WS_Tape_length g_this_row h_this v_length) H → va_D A (WS_Tape_length g_this_row h_this v_length) → va_S A s.heap H locs → lv_has ls 1 [(0, .ref h_this)] → f_Tape_length v_length = some res → W p l e ({ frames := 0, cells := 0, slots := 0, locals := 0 }) s m args below meth c H locs 0 0 (MQ below (va_Qi (fun (r : Int32) (_ : Unit) => some r = some res) (gB (dC, dI) [] A (fun (u : Unit) => (WS_Tape_length g_this_row h_this v_length))) A) args s 0 0 A) (F0 m 0 ls []) := by
  intro v_length H locs ls hP hD hS hl h
  obtain ⟨hx, hb, hr, hml, hown, ht, hlk⟩ := id cx
  refine lv_aload_n hx hb d_Tape_length_0 rfl (lv_at hl 0 rfl) ?_
  refine va_get (D := (dC, dI)) (ci := 1) (v := .int v_length) (C := R_Tape) (T := F_Tape) (N := 2) hx hb ht i_Tape hown hK hP 0 rfl rfl 1 (by decide) (ht _ q_0) (fun _ h9 => h9) rfl d_Tape_length_1 ?_
  exact W.iret (v := v_length) hx hb hr (fun t ht9 hW => ⟨⟨v_length, (), rfl, h, by rw [ht9]; exact hP, va_K.moved hW.alike hK, hD⟩, hS.F ht9⟩) hS.2.2 d_Tape_length_4 hlk
set_option maxHeartbeats 4000000 in
set_option maxRecDepth 100000 in
theorem c_Tape_length (l : Launch) (dC : Nat → ClassId) (dI : Nat → Nat → Nat) (X : SXT) (g_this_row : Nat) (h_this : Nat) (sz : Nat) (v_length : Int32) (res : Int32) (hf : f_Tape_length v_length = some res) : Met l y_Tape_length (.code y_Tape_length b_Tape_length 1 (some .int) :: w0) ({ frames := 0, cells := 0, slots := 0, locals := 0 }) (va_Pc [.ref h_this] (gP (dC, dI) (WS_Tape_length g_this_row h_this v_length) [] sz X)) (va_Qi (fun (r : Int32) (_ : Unit) => some r = some res) (gB (dC, dI) [] (va_A (WS_Tape_length g_this_row h_this v_length) sz) (fun (u : Unit) => (WS_Tape_length g_this_row h_this v_length))) (va_A (WS_Tape_length g_this_row h_this v_length) sz)) 0 0 (va_A (WS_Tape_length g_this_row h_this v_length) sz) := by
  refine Met.ofW (cc := b_Tape_length) (maxL := 1) (ret := (some .int)) (by decide) rfl ?_
  intro p e s m args below meth c s₁ B hml hv
  obtain ⟨rfl, hsz, hP, hK, hD0, hX⟩ := hv
  subst hsz
  have cx : cxx p s m ([.ref h_this] : List Value).toArray meth c b_Tape_length 1 (some .int) R_Tape := ⟨B.exec, B.bytes, B.returns, hml, findClass_of_methodNamed B.named, fun w9 hw => atoms_spec (ws := .code y_Tape_length b_Tape_length 1 (some .int) :: w0) B.pre w9 (List.mem_cons_of_mem _ hw), B.notSynchronized⟩
  have hD := hD0.self (sz := s.heap.size)
  generalize hAe : va_A (WS_Tape_length g_this_row h_this v_length) s.heap.size = A at hD hX ⊢
  have hA : ∀ q : Nat, s.heap.size ≤ q → A q := fun q h => by rw [← hAe]; exact Or.inr h
  have hS : va_S A s.heap s.heap [] := va_S.rf
  have hl := lv_entry ([.ref h_this]) (n := 1) (Nat.le_of_ble_eq_true rfl)
  rw [lg_entry_eq]
  generalize (lg_sl ([.ref h_this]) ++ List.replicate (1 - (lg_sl ([.ref h_this])).length) Slot.unset).toArray = ls at hl ⊢
  have hl : lv_has ls 1 [(0, .ref h_this)] := hl
  exact s_Tape_length_e cx hK hA hX v_length s.heap [] ls hP hD hS hl hf
abbrev WS_N_type (g_this_numeral : Nat) (g_this_room : Nat) (g_this_exact : Nat) (g_this_size : Nat) (g_this_again : Nat) (g_this_page : Nat) (g_this_writer : Nat) (h_this : Nat) (h_this_tape : Nat) (h_this_tape_row : Nat) (c_this_tape_row : ClassId) (v_valueKind : Int32) (v_valueNumber : Int64) (v_valueExponent : Int32) (v_tape_length : Int32) (a_tape_row : (Nat → Int32)) : va_W := [(h_this, .inr (0, [.ref h_this_tape, .ref g_this_numeral, .ref g_this_room, .ref g_this_exact, .ref g_this_size, .ref g_this_again, .ref g_this_page, .ref g_this_writer, .int v_valueKind, .long v_valueNumber, .int v_valueExponent])), (h_this_tape, .inr (1, [.ref h_this_tape_row, .int v_tape_length])), (h_this_tape_row, .inl (c_this_tape_row, 1200, .inl a_tape_row))]
def f_N_type_62 (v_tape_length : Int32) (a_tape_row : (Nat → Int32)) : Option (Int32 × Int32 × (Nat → Int32)) :=
  bi1 (f_Tape_length v_tape_length) fun r1 =>
  some (r1, v_tape_length, a_tape_row)
def f_N_type_32b (k32 : Int32 → (Nat → Int32) → Int64 → Int32 → Option (Int32 × Int32 × (Nat → Int32))) (v_tape_length : Int32) (a_tape_row : (Nat → Int32)) (y1 : Int64) (y4 : Int32) : Option (Int32 × Int32 × (Nat → Int32)) :=
  if y4 < 0 then
    f_N_type_62 v_tape_length a_tape_row
  else
    bi2 (f_Tape_add v_tape_length a_tape_row (((lus y1 ((8 : Int32) * y4)).toInt32) &&& (255 : Int32))) fun v3 a4 =>
    bd (y4 + (-1 : Int32)) fun x5 =>
    k32 v3 a4 y1 x5
def f_N_type_32 : Nat → Int32 → (Nat → Int32) → Int64 → Int32 → Option (Int32 × Int32 × (Nat → Int32))
  | 0 => fun _ _ _ _ => none
  | n + 1 => fun v_tape_length a_tape_row y1 y4 => f_N_type_32b (f_N_type_32 n) v_tape_length a_tape_row y1 y4
def f_N_type (v_tape_length : Int32) (a_tape_row : (Nat → Int32)) (p1 : Int64) (p3 : Int32) : Option (Int32 × Int32 × (Nat → Int32)) :=
  if p3 < (1 : Int32) then
    some ((-1 : Int32), v_tape_length, a_tape_row)
  else
    if p3 ≤ (8 : Int32) then
      bi1 (f_Tape_hasRoomFor v_tape_length p3) fun r8 =>
      if r8 = 0 then
        some ((-3 : Int32), v_tape_length, a_tape_row)
      else
        bd (p3 - (1 : Int32)) fun x10 =>
        f_N_type_32 fu v_tape_length a_tape_row p1 x10
    else
      some ((-1 : Int32), v_tape_length, a_tape_row)
set_option maxHeartbeats 4000000 in
set_option maxRecDepth 100000 in
theorem s_N_type_62 {p : Program} {l : Launch} {e : Env} {s : State} {m : MethodId} {args : Array Value} {below : List Frame} {meth : Method} {c : Code} {dC : Nat → ClassId} {dI : Nat → Nat → Nat} {A : Nat → Prop} {X : SXT} {g_this_numeral : Nat} {g_this_room : Nat} {g_this_exact : Nat} {g_this_size : Nat} {g_this_again : Nat} {g_this_page : Nat} {g_this_writer : Nat} {h_this : Nat} {h_this_tape : Nat} {h_this_tape_row : Nat} {c_this_tape_row : ClassId} {v_valueKind : Int32} {v_valueNumber : Int64} {v_valueExponent : Int32} {res : Int32 × Int32 × (Nat → Int32)}  (cx : cxx p s m args meth c b_N_type 5 (some .int) R_N) (hK : va_K (dC, dI) classes [(c_this_tape_row, .byte)] s) (hA : ∀ q, s.heap.size ≤ q → A q) (hX : SX X A s s.heap)  : ∀ (v_tape_length : Int32) (a_tape_row : (Nat → Int32)) (H : Heap) (locs : List Loc) (ls : Array Slot), va_P (dC, dI) classes (WS_N_type g_this_numeral g_this_room g_this_exact g_this_size g_this_again g_this_page g_this_writer h_this h_this_tape h_this_tape_row c_this_tape_row v_valueKind v_valueNumber v_valueExponent v_tape_length a_tape_row) H → va_D A (WS_N_type g_this_numeral g_this_room g_this_exact g_this_size g_this_again g_this_page g_this_writer h_this h_this_tape h_this_tape_row c_this_tape_row v_valueKind v_valueNumber v_valueExponent v_tape_length a_tape_row) → va_S A s.heap H locs → lv_has ls 5 [(0, .ref h_this)] → f_N_type_62 v_tape_length a_tape_row = some res → W p l e ({ frames := 1, cells := 0, slots := 0, locals := 21 }) s m args below meth c H locs 0 0 (MQ below (va_Qi (fun (r : Int32) (u : Int32 × (Nat → Int32)) => some (r, u) = some res) (gB (dC, dI) [(c_this_tape_row, .byte)] A (fun (u : Int32 × (Nat → Int32)) => (WS_N_type g_this_numeral g_this_room g_this_exact g_this_size g_this_again g_this_page g_this_writer h_this h_this_tape h_this_tape_row c_this_tape_row v_valueKind v_valueNumber v_valueExponent u.1 u.2))) A) args s 0 0 A) (F0 m 62 ls []) := by
  intro v_tape_length a_tape_row H locs ls hP hD hS hl h
  obtain ⟨hx, hb, hr, hml, hown, ht, hlk⟩ := id cx
  refine lv_aload_n hx hb d_N_type_62 rfl (lv_at hl 0 rfl) ?_
  refine va_get (D := (dC, dI)) (ci := 0) (v := .ref h_this_tape) (C := R_N) (T := F_N) (N := 11) hx hb ht i_N hown hK hP 0 rfl rfl 0 (by decide) (ht _ q_2) (fun _ h9 => h9) rfl d_N_type_63 ?_
  obtain ⟨r1, hf, h⟩ := bi1_x h
  refine clVi (D := (dC, dI)) (n := 0) (As := []) ⟨hx, hb, hml, hown, ht⟩ (c_Tape_length l dC dI X h_this_tape_row h_this_tape H.size v_tape_length r1 hf) (gV q_3 q_4 q_5 q_6 q_7) (by decide +kernel) ⟨rfl, rfl, Nat.le_of_ble_eq_true rfl, Nat.le_of_ble_eq_true rfl⟩ hK hP hD hS hA hX [1] [0, 2] [] rfl (wr := [(h_this, .inr (0, [.ref h_this_tape, .ref g_this_numeral, .ref g_this_room, .ref g_this_exact, .ref g_this_size, .ref g_this_again, .ref g_this_page, .ref g_this_writer, .int v_valueKind, .long v_valueNumber, .int v_valueExponent])), (h_this_tape_row, .inl (c_this_tape_row, 1200, .inl a_tape_row))]) rfl (by decide) (by decide) (by decide) rfl rfl rfl rfl rfl hl.1 rfl (lv_room (Nat.le_of_ble_eq_true rfl)) d_N_type_66 ⟨Nat.zero_le _, Nat.zero_le _⟩ (fun r9 u9 H locs h9 hP hD hS => ?_)
  cases h9
  have hP : va_P (dC, dI) classes (WS_N_type g_this_numeral g_this_room g_this_exact g_this_size g_this_again g_this_page g_this_writer h_this h_this_tape h_this_tape_row c_this_tape_row v_valueKind v_valueNumber v_valueExponent v_tape_length a_tape_row) H := hP.sub [0, 2, 1] rfl
  have hD : va_D A (WS_N_type g_this_numeral g_this_room g_this_exact g_this_size g_this_again g_this_page g_this_writer h_this h_this_tape h_this_tape_row c_this_tape_row v_valueKind v_valueNumber v_valueExponent v_tape_length a_tape_row) := hD.sub [0, 2, 1] (by decide) rfl
  exact W.iret (v := r1) hx hb hr (fun t ht9 hW => ⟨⟨r1, (v_tape_length, a_tape_row), rfl, h, by rw [ht9]; exact hP, va_K.moved hW.alike hK, hD⟩, hS.F ht9⟩) hS.2.2 d_N_type_69 hlk
set_option maxHeartbeats 4000000 in
set_option maxRecDepth 100000 in
theorem s_N_type_32b {p : Program} {l : Launch} {e : Env} {s : State} {m : MethodId} {args : Array Value} {below : List Frame} {meth : Method} {c : Code} {dC : Nat → ClassId} {dI : Nat → Nat → Nat} {A : Nat → Prop} {X : SXT} {g_this_numeral : Nat} {g_this_room : Nat} {g_this_exact : Nat} {g_this_size : Nat} {g_this_again : Nat} {g_this_page : Nat} {g_this_writer : Nat} {h_this : Nat} {h_this_tape : Nat} {h_this_tape_row : Nat} {c_this_tape_row : ClassId} {v_valueKind : Int32} {v_valueNumber : Int64} {v_valueExponent : Int32} {res : Int32 × Int32 × (Nat → Int32)} {k32 : Int32 → (Nat → Int32) → Int64 → Int32 → Option (Int32 × Int32 × (Nat → Int32))} (cx : cxx p s m args meth c b_N_type 5 (some .int) R_N) (hK : va_K (dC, dI) classes [(c_this_tape_row, .byte)] s) (hA : ∀ q, s.heap.size ≤ q → A q) (hX : SX X A s s.heap) (hk32 : ∀ (v_tape_length : Int32) (a_tape_row : (Nat → Int32)) (y1 : Int64) (y4 : Int32) (H : Heap) (locs : List Loc) (ls : Array Slot), va_P (dC, dI) classes (WS_N_type g_this_numeral g_this_room g_this_exact g_this_size g_this_again g_this_page g_this_writer h_this h_this_tape h_this_tape_row c_this_tape_row v_valueKind v_valueNumber v_valueExponent v_tape_length a_tape_row) H → va_D A (WS_N_type g_this_numeral g_this_room g_this_exact g_this_size g_this_again g_this_page g_this_writer h_this h_this_tape h_this_tape_row c_this_tape_row v_valueKind v_valueNumber v_valueExponent v_tape_length a_tape_row) → va_S A s.heap H locs → lv_has ls 5 [(0, .ref h_this), (1, .long y1), (4, .int y4)] → k32 v_tape_length a_tape_row y1 y4 = some res → W p l e ({ frames := 1, cells := 0, slots := 0, locals := 21 }) s m args below meth c H locs 0 0 (MQ below (va_Qi (fun (r : Int32) (u : Int32 × (Nat → Int32)) => some (r, u) = some res) (gB (dC, dI) [(c_this_tape_row, .byte)] A (fun (u : Int32 × (Nat → Int32)) => (WS_N_type g_this_numeral g_this_room g_this_exact g_this_size g_this_again g_this_page g_this_writer h_this h_this_tape h_this_tape_row c_this_tape_row v_valueKind v_valueNumber v_valueExponent u.1 u.2))) A) args s 0 0 A) (F0 m 32 ls [])) : ∀ (v_tape_length : Int32) (a_tape_row : (Nat → Int32)) (y1 : Int64) (y4 : Int32) (H : Heap) (locs : List Loc) (ls : Array Slot), va_P (dC, dI) classes (WS_N_type g_this_numeral g_this_room g_this_exact g_this_size g_this_again g_this_page g_this_writer h_this h_this_tape h_this_tape_row c_this_tape_row v_valueKind v_valueNumber v_valueExponent v_tape_length a_tape_row) H → va_D A (WS_N_type g_this_numeral g_this_room g_this_exact g_this_size g_this_again g_this_page g_this_writer h_this h_this_tape h_this_tape_row c_this_tape_row v_valueKind v_valueNumber v_valueExponent v_tape_length a_tape_row) → va_S A s.heap H locs → lv_has ls 5 [(0, .ref h_this), (1, .long y1), (4, .int y4)] → f_N_type_32b k32 v_tape_length a_tape_row y1 y4 = some res → W p l e ({ frames := 1, cells := 0, slots := 0, locals := 21 }) s m args below meth c H locs 0 0 (MQ below (va_Qi (fun (r : Int32) (u : Int32 × (Nat → Int32)) => some (r, u) = some res) (gB (dC, dI) [(c_this_tape_row, .byte)] A (fun (u : Int32 × (Nat → Int32)) => (WS_N_type g_this_numeral g_this_room g_this_exact g_this_size g_this_again g_this_page g_this_writer h_this h_this_tape h_this_tape_row c_this_tape_row v_valueKind v_valueNumber v_valueExponent u.1 u.2))) A) args s 0 0 A) (F0 m 32 ls []) := by
  intro v_tape_length a_tape_row y1 y4 H locs ls hP hD hS hl h
  obtain ⟨hx, hb, hr, hml, hown, ht, hlk⟩ := id cx
  refine lv_iload hx hb d_N_type_32 (lv_at hl 2 rfl) ?_
  refine lv_if_lt (tgt := 62) hx hb d_N_type_34 (by decide) (fun c2 => ?_) (fun c2 => ?_)
  · have h := if_t c2 h
    exact s_N_type_62 cx hK hA hX v_tape_length a_tape_row H locs ls hP hD hS (lv_sub hl [0] rfl) h
  · have h := if_f c2 h
    refine lv_aload_n hx hb d_N_type_37 rfl (lv_at hl 0 rfl) ?_
    refine va_get (D := (dC, dI)) (ci := 0) (v := .ref h_this_tape) (C := R_N) (T := F_N) (N := 11) hx hb ht i_N hown hK hP 0 rfl rfl 0 (by decide) (ht _ q_2) (fun _ h9 => h9) rfl d_N_type_38 ?_
    refine lv_lload_n hx hb d_N_type_41 rfl (lv_at hl 1 rfl) ?_
    refine lv_bipush (v := 8) hx hb d_N_type_42 (by decide) ?_
    refine lv_iload hx hb d_N_type_44 (lv_at hl 2 rfl) ?_
    refine lv_imul hx hb d_N_type_46 ?_
    refine lv_lushr (v := lus y1 ((8 : Int32) * y4)) hx hb d_N_type_47 rfl ?_
    refine lv_l2i (v := (lus y1 ((8 : Int32) * y4)).toInt32) hx hb d_N_type_48 rfl ?_
    refine lv_sipush (v := 255) hx hb d_N_type_49 (by decide) ?_
    refine lv_iand hx hb d_N_type_52 ?_
    obtain ⟨v3, a4, hf, h⟩ := bi2_x h
    refine clVv (D := (dC, dI)) (n := 1) (As := [.int (((lus y1 ((8 : Int32) * y4)).toInt32) &&& (255 : Int32))]) ⟨hx, hb, hml, hown, ht⟩ (c_Tape_add l dC dI X h_this_tape h_this_tape_row c_this_tape_row H.size v_tape_length a_tape_row (((lus y1 ((8 : Int32) * y4)).toInt32) &&& (255 : Int32)) (v3, a4) hf) (gV q_8 q_9 q_10 q_6 q_11) (by decide +kernel) ⟨rfl, rfl, Nat.le_of_ble_eq_true rfl, Nat.le_of_ble_eq_true rfl⟩ hK hP hD hS hA hX [1, 2] [0] [0] rfl (wr := [(h_this, .inr (0, [.ref h_this_tape, .ref g_this_numeral, .ref g_this_room, .ref g_this_exact, .ref g_this_size, .ref g_this_again, .ref g_this_page, .ref g_this_writer, .int v_valueKind, .long v_valueNumber, .int v_valueExponent]))]) rfl (by decide) (by decide) (by decide) rfl rfl rfl rfl rfl hl.1 rfl (lv_room (Nat.le_of_ble_eq_true rfl)) d_N_type_53 ⟨Nat.zero_le _, Nat.zero_le _⟩ (fun u9 H locs h9 hP hD hS => ?_)
    cases h9
    have hP : va_P (dC, dI) classes (WS_N_type g_this_numeral g_this_room g_this_exact g_this_size g_this_again g_this_page g_this_writer h_this h_this_tape h_this_tape_row c_this_tape_row v_valueKind v_valueNumber v_valueExponent v3 a4) H := hP.sub [0, 1, 2] rfl
    have hD : va_D A (WS_N_type g_this_numeral g_this_room g_this_exact g_this_size g_this_again g_this_page g_this_writer h_this h_this_tape h_this_tape_row c_this_tape_row v_valueKind v_valueNumber v_valueExponent v3 a4) := hD.sub [0, 1, 2] (by decide) rfl
    obtain ⟨x5, e_x5⟩ : ∃ y : Int32, y = y4 + (-1 : Int32) := ⟨_, rfl⟩
    refine lv_iinc (v := x5) (lv' := [(4, .int x5), (0, .ref h_this), (1, .long y1)]) hx hb d_N_type_56 hl (k := 2) rfl (by rw [e_x5]; rfl) (by decide) rfl (fun ls hl => ?_)
    have h := bd_g e_x5 h
    refine lv_goto (tgt := 32) hx hb d_N_type_59 (by decide) ?_
    exact hk32 v3 a4 y1 x5 H locs ls hP hD hS (lv_sub hl [1, 2, 0] rfl) h
set_option maxHeartbeats 4000000 in
set_option maxRecDepth 100000 in
theorem s_N_type_32 {p : Program} {l : Launch} {e : Env} {s : State} {m : MethodId} {args : Array Value} {below : List Frame} {meth : Method} {c : Code} {dC : Nat → ClassId} {dI : Nat → Nat → Nat} {A : Nat → Prop} {X : SXT} {g_this_numeral : Nat} {g_this_room : Nat} {g_this_exact : Nat} {g_this_size : Nat} {g_this_again : Nat} {g_this_page : Nat} {g_this_writer : Nat} {h_this : Nat} {h_this_tape : Nat} {h_this_tape_row : Nat} {c_this_tape_row : ClassId} {v_valueKind : Int32} {v_valueNumber : Int64} {v_valueExponent : Int32} {res : Int32 × Int32 × (Nat → Int32)}  (cx : cxx p s m args meth c b_N_type 5 (some .int) R_N) (hK : va_K (dC, dI) classes [(c_this_tape_row, .byte)] s) (hA : ∀ q, s.heap.size ≤ q → A q) (hX : SX X A s s.heap)  : ∀ n : Nat, ∀ (v_tape_length : Int32) (a_tape_row : (Nat → Int32)) (y1 : Int64) (y4 : Int32) (H : Heap) (locs : List Loc) (ls : Array Slot), va_P (dC, dI) classes (WS_N_type g_this_numeral g_this_room g_this_exact g_this_size g_this_again g_this_page g_this_writer h_this h_this_tape h_this_tape_row c_this_tape_row v_valueKind v_valueNumber v_valueExponent v_tape_length a_tape_row) H → va_D A (WS_N_type g_this_numeral g_this_room g_this_exact g_this_size g_this_again g_this_page g_this_writer h_this h_this_tape h_this_tape_row c_this_tape_row v_valueKind v_valueNumber v_valueExponent v_tape_length a_tape_row) → va_S A s.heap H locs → lv_has ls 5 [(0, .ref h_this), (1, .long y1), (4, .int y4)] → f_N_type_32 n v_tape_length a_tape_row y1 y4 = some res → W p l e ({ frames := 1, cells := 0, slots := 0, locals := 21 }) s m args below meth c H locs 0 0 (MQ below (va_Qi (fun (r : Int32) (u : Int32 × (Nat → Int32)) => some (r, u) = some res) (gB (dC, dI) [(c_this_tape_row, .byte)] A (fun (u : Int32 × (Nat → Int32)) => (WS_N_type g_this_numeral g_this_room g_this_exact g_this_size g_this_again g_this_page g_this_writer h_this h_this_tape h_this_tape_row c_this_tape_row v_valueKind v_valueNumber v_valueExponent u.1 u.2))) A) args s 0 0 A) (F0 m 32 ls []) := by
  intro n
  induction n with
  | zero =>
    intro v_tape_length a_tape_row y1 y4 H locs ls hP hD hS hl h
    have h9 : (none : Option (Int32 × Int32 × (Nat → Int32))) = some res := h
    cases h9
  | succ n ih =>
    intro v_tape_length a_tape_row y1 y4 H locs ls hP hD hS hl h
    exact s_N_type_32b cx hK hA hX ih v_tape_length a_tape_row y1 y4 H locs ls hP hD hS hl h
set_option maxHeartbeats 4000000 in
set_option maxRecDepth 100000 in
theorem s_N_type_e {p : Program} {l : Launch} {e : Env} {s : State} {m : MethodId} {args : Array Value} {below : List Frame} {meth : Method} {c : Code} {dC : Nat → ClassId} {dI : Nat → Nat → Nat} {A : Nat → Prop} {X : SXT} {g_this_numeral : Nat} {g_this_room : Nat} {g_this_exact : Nat} {g_this_size : Nat} {g_this_again : Nat} {g_this_page : Nat} {g_this_writer : Nat} {h_this : Nat} {h_this_tape : Nat} {h_this_tape_row : Nat} {c_this_tape_row : ClassId} {v_valueKind : Int32} {v_valueNumber : Int64} {v_valueExponent : Int32} {res : Int32 × Int32 × (Nat → Int32)} (cx : cxx p s m args meth c b_N_type 5 (some .int) R_N) (hK : va_K (dC, dI) classes [(c_this_tape_row, .byte)] s) (hA : ∀ q, s.heap.size ≤ q → A q) (hX : SX X A s s.heap) : ∀ (v_tape_length : Int32) (a_tape_row : (Nat → Int32)) (p1 : Int64) (p3 : Int32) (H : Heap) (locs : List Loc) (ls : Array Slot), va_P (dC, dI) classes (WS_N_type g_this_numeral g_this_room g_this_exact g_this_size g_this_again g_this_page g_this_writer h_this h_this_tape h_this_tape_row c_this_tape_row v_valueKind v_valueNumber v_valueExponent v_tape_length a_tape_row) H → va_D A (WS_N_type g_this_numeral g_this_room g_this_exact g_this_size g_this_again g_this_page g_this_writer h_this h_this_tape h_this_tape_row c_this_tape_row v_valueKind v_valueNumber v_valueExponent v_tape_length a_tape_row) → va_S A s.heap H locs → lv_has ls 5 [(0, .ref h_this), (1, .long p1), (3, .int p3)] → f_N_type v_tape_length a_tape_row p1 p3 = some res → W p l e ({ frames := 1, cells := 0, slots := 0, locals := 21 }) s m args below meth c H locs 0 0 (MQ below (va_Qi (fun (r : Int32) (u : Int32 × (Nat → Int32)) => some (r, u) = some res) (gB (dC, dI) [(c_this_tape_row, .byte)] A (fun (u : Int32 × (Nat → Int32)) => (WS_N_type g_this_numeral g_this_room g_this_exact g_this_size g_this_again g_this_page g_this_writer h_this h_this_tape h_this_tape_row c_this_tape_row v_valueKind v_valueNumber v_valueExponent u.1 u.2))) A) args s 0 0 A) (F0 m 0 ls []) := by
  intro v_tape_length a_tape_row p1 p3 H locs ls hP hD hS hl h
  obtain ⟨hx, hb, hr, hml, hown, ht, hlk⟩ := id cx
  refine lv_iload_n hx hb d_N_type_0 rfl (lv_at hl 2 rfl) ?_
  refine lv_iconst (v := 1) hx hb d_N_type_1 (by decide) ?_
  refine lv_icmp_lt (tgt := 11) hx hb d_N_type_2 (by decide) (fun c6 => ?_) (fun c6 => ?_)
  · have h := if_t c6 h
    refine lv_iconst (v := -1) hx hb d_N_type_11 (by decide) ?_
    exact W.iret (v := (-1 : Int32)) hx hb hr (fun t ht9 hW => ⟨⟨(-1 : Int32), (v_tape_length, a_tape_row), rfl, h, by rw [ht9]; exact hP, va_K.moved hW.alike hK, hD⟩, hS.F ht9⟩) hS.2.2 d_N_type_12 hlk
  · have h := if_f c6 h
    refine lv_iload_n hx hb d_N_type_5 rfl (lv_at hl 2 rfl) ?_
    refine lv_bipush (v := 8) hx hb d_N_type_6 (by decide) ?_
    refine lv_icmp_le (tgt := 13) hx hb d_N_type_8 (by decide) (fun c7 => ?_) (fun c7 => ?_)
    · have h := if_t c7 h
      refine lv_aload_n hx hb d_N_type_13 rfl (lv_at hl 0 rfl) ?_
      refine va_get (D := (dC, dI)) (ci := 0) (v := .ref h_this_tape) (C := R_N) (T := F_N) (N := 11) hx hb ht i_N hown hK hP 0 rfl rfl 0 (by decide) (ht _ q_2) (fun _ h9 => h9) rfl d_N_type_14 ?_
      refine lv_iload_n hx hb d_N_type_17 rfl (lv_at hl 2 rfl) ?_
      obtain ⟨r8, hf, h⟩ := bi1_x h
      refine clVi (D := (dC, dI)) (n := 1) (As := [.int p3]) ⟨hx, hb, hml, hown, ht⟩ (c_Tape_hasRoomFor l dC dI X h_this_tape_row h_this_tape H.size v_tape_length p3 r8 hf) (gV q_12 q_13 q_14 q_6 q_15) (by decide +kernel) ⟨rfl, rfl, Nat.le_of_ble_eq_true rfl, Nat.le_of_ble_eq_true rfl⟩ hK hP hD hS hA hX [1] [0, 2] [] rfl (wr := [(h_this, .inr (0, [.ref h_this_tape, .ref g_this_numeral, .ref g_this_room, .ref g_this_exact, .ref g_this_size, .ref g_this_again, .ref g_this_page, .ref g_this_writer, .int v_valueKind, .long v_valueNumber, .int v_valueExponent])), (h_this_tape_row, .inl (c_this_tape_row, 1200, .inl a_tape_row))]) rfl (by decide) (by decide) (by decide) rfl rfl rfl rfl rfl hl.1 rfl (lv_room (Nat.le_of_ble_eq_true rfl)) d_N_type_18 ⟨Nat.zero_le _, Nat.zero_le _⟩ (fun r9 u9 H locs h9 hP hD hS => ?_)
      cases h9
      have hP : va_P (dC, dI) classes (WS_N_type g_this_numeral g_this_room g_this_exact g_this_size g_this_again g_this_page g_this_writer h_this h_this_tape h_this_tape_row c_this_tape_row v_valueKind v_valueNumber v_valueExponent v_tape_length a_tape_row) H := hP.sub [0, 2, 1] rfl
      have hD : va_D A (WS_N_type g_this_numeral g_this_room g_this_exact g_this_size g_this_again g_this_page g_this_writer h_this h_this_tape h_this_tape_row c_this_tape_row v_valueKind v_valueNumber v_valueExponent v_tape_length a_tape_row) := hD.sub [0, 2, 1] (by decide) rfl
      refine lv_if_ne (tgt := 27) hx hb d_N_type_21 (by decide) (fun c9 => ?_) (fun c9 => ?_)
      · have h := if_f c9 h
        refine lv_iload_n hx hb d_N_type_27 rfl (lv_at hl 2 rfl) ?_
        refine lv_iconst (v := 1) hx hb d_N_type_28 (by decide) ?_
        refine lv_isub hx hb d_N_type_29 ?_
        refine lv_topi (fun x10 e_x10 => ?_)
        have h := bd_g e_x10 h
        refine lv_istore (lv' := [(4, .int x10), (0, .ref h_this), (1, .long p1), (3, .int p3)]) hx hb d_N_type_30 hl (by decide) rfl (fun ls hl => ?_)
        exact s_N_type_32 cx hK hA hX fu v_tape_length a_tape_row p1 x10 H locs ls hP hD hS (lv_sub hl [1, 2, 0] rfl) h
      · have h := if_t c9 h
        refine lv_bipush (v := -3) hx hb d_N_type_24 (by decide) ?_
        exact W.iret (v := (-3 : Int32)) hx hb hr (fun t ht9 hW => ⟨⟨(-3 : Int32), (v_tape_length, a_tape_row), rfl, h, by rw [ht9]; exact hP, va_K.moved hW.alike hK, hD⟩, hS.F ht9⟩) hS.2.2 d_N_type_26 hlk
    · have h := if_f c7 h
      refine lv_iconst (v := -1) hx hb d_N_type_11 (by decide) ?_
      exact W.iret (v := (-1 : Int32)) hx hb hr (fun t ht9 hW => ⟨⟨(-1 : Int32), (v_tape_length, a_tape_row), rfl, h, by rw [ht9]; exact hP, va_K.moved hW.alike hK, hD⟩, hS.F ht9⟩) hS.2.2 d_N_type_12 hlk
set_option maxHeartbeats 4000000 in
set_option maxRecDepth 100000 in
theorem c_N_type (l : Launch) (dC : Nat → ClassId) (dI : Nat → Nat → Nat) (X : SXT) (g_this_numeral : Nat) (g_this_room : Nat) (g_this_exact : Nat) (g_this_size : Nat) (g_this_again : Nat) (g_this_page : Nat) (g_this_writer : Nat) (h_this : Nat) (h_this_tape : Nat) (h_this_tape_row : Nat) (c_this_tape_row : ClassId) (sz : Nat) (v_valueKind : Int32) (v_valueNumber : Int64) (v_valueExponent : Int32) (v_tape_length : Int32) (a_tape_row : (Nat → Int32)) (p1 : Int64) (p3 : Int32) (res : Int32 × Int32 × (Nat → Int32)) (hf : f_N_type v_tape_length a_tape_row p1 p3 = some res) : Met l y_N_type (.code y_N_type b_N_type 5 (some .int) :: w0) ({ frames := 1, cells := 0, slots := 0, locals := 21 }) (va_Pc [.ref h_this, .long p1, .int p3] (gP (dC, dI) (WS_N_type g_this_numeral g_this_room g_this_exact g_this_size g_this_again g_this_page g_this_writer h_this h_this_tape h_this_tape_row c_this_tape_row v_valueKind v_valueNumber v_valueExponent v_tape_length a_tape_row) [(c_this_tape_row, .byte)] sz X)) (va_Qi (fun (r : Int32) (u : Int32 × (Nat → Int32)) => some (r, u) = some res) (gB (dC, dI) [(c_this_tape_row, .byte)] (va_A (WS_N_type g_this_numeral g_this_room g_this_exact g_this_size g_this_again g_this_page g_this_writer h_this h_this_tape h_this_tape_row c_this_tape_row v_valueKind v_valueNumber v_valueExponent v_tape_length a_tape_row) sz) (fun (u : Int32 × (Nat → Int32)) => (WS_N_type g_this_numeral g_this_room g_this_exact g_this_size g_this_again g_this_page g_this_writer h_this h_this_tape h_this_tape_row c_this_tape_row v_valueKind v_valueNumber v_valueExponent u.1 u.2))) (va_A (WS_N_type g_this_numeral g_this_room g_this_exact g_this_size g_this_again g_this_page g_this_writer h_this h_this_tape h_this_tape_row c_this_tape_row v_valueKind v_valueNumber v_valueExponent v_tape_length a_tape_row) sz)) 0 0 (va_A (WS_N_type g_this_numeral g_this_room g_this_exact g_this_size g_this_again g_this_page g_this_writer h_this h_this_tape h_this_tape_row c_this_tape_row v_valueKind v_valueNumber v_valueExponent v_tape_length a_tape_row) sz) := by
  refine Met.ofW (cc := b_N_type) (maxL := 5) (ret := (some .int)) (by decide) rfl ?_
  intro p e s m args below meth c s₁ B hml hv
  obtain ⟨rfl, hsz, hP, hK, hD0, hX⟩ := hv
  subst hsz
  have cx : cxx p s m ([.ref h_this, .long p1, .int p3] : List Value).toArray meth c b_N_type 5 (some .int) R_N := ⟨B.exec, B.bytes, B.returns, hml, findClass_of_methodNamed B.named, fun w9 hw => atoms_spec (ws := .code y_N_type b_N_type 5 (some .int) :: w0) B.pre w9 (List.mem_cons_of_mem _ hw), B.notSynchronized⟩
  have hD := hD0.self (sz := s.heap.size)
  generalize hAe : va_A (WS_N_type g_this_numeral g_this_room g_this_exact g_this_size g_this_again g_this_page g_this_writer h_this h_this_tape h_this_tape_row c_this_tape_row v_valueKind v_valueNumber v_valueExponent v_tape_length a_tape_row) s.heap.size = A at hD hX ⊢
  have hA : ∀ q : Nat, s.heap.size ≤ q → A q := fun q h => by rw [← hAe]; exact Or.inr h
  have hS : va_S A s.heap s.heap [] := va_S.rf
  have hl := lv_entry ([.ref h_this, .long p1, .int p3]) (n := 5) (Nat.le_of_ble_eq_true rfl)
  rw [lg_entry_eq]
  generalize (lg_sl ([.ref h_this, .long p1, .int p3]) ++ List.replicate (5 - (lg_sl ([.ref h_this, .long p1, .int p3])).length) Slot.unset).toArray = ls at hl ⊢
  have hl : lv_has ls 5 [(0, .ref h_this), (1, .long p1), (3, .int p3)] := hl
  exact s_N_type_e cx hK hA hX v_tape_length a_tape_row p1 p3 s.heap [] ls hP hD hS hl hf
abbrev WS_Tape_at (h_this : Nat) (h_this_row : Nat) (c_this_row : ClassId) (v_length : Int32) (a_row : (Nat → Int32)) : va_W := [(h_this, .inr (1, [.ref h_this_row, .int v_length])), (h_this_row, .inl (c_this_row, 1200, .inl a_row))]
def f_Tape_at_21 (v_length : Int32) (a_row : (Nat → Int32)) : Option (Int32) :=
  some (-1 : Int32)
def f_Tape_at (v_length : Int32) (a_row : (Nat → Int32)) (p1 : Int32) : Option (Int32) :=
  if p1 < 0 then
    f_Tape_at_21 v_length a_row
  else
    if v_length ≤ p1 then
      f_Tape_at_21 v_length a_row
    else
      if p1 < (1200 : Int32) then
        ck (gin p1 1200) <|
        some ((a_row p1.toNatClampNeg) &&& (255 : Int32))
      else
        f_Tape_at_21 v_length a_row
set_option maxHeartbeats 4000000 in
set_option maxRecDepth 100000 in
theorem s_Tape_at_21 {p : Program} {l : Launch} {e : Env} {s : State} {m : MethodId} {args : Array Value} {below : List Frame} {meth : Method} {c : Code} {dC : Nat → ClassId} {dI : Nat → Nat → Nat} {A : Nat → Prop} {X : SXT} {h_this : Nat} {h_this_row : Nat} {c_this_row : ClassId} {res : Int32}  (cx : cxx p s m args meth c b_Tape_at 2 (some .int) R_Tape) (hK : va_K (dC, dI) classes [(c_this_row, .byte)] s) (hA : ∀ q, s.heap.size ≤ q → A q) (hX : SX X A s s.heap)  : ∀ (v_length : Int32) (a_row : (Nat → Int32)) (H : Heap) (locs : List Loc) (ls : Array Slot), va_P (dC, dI) classes (WS_Tape_at h_this h_this_row c_this_row v_length a_row) H → va_D A (WS_Tape_at h_this h_this_row c_this_row v_length a_row) → va_S A s.heap H locs → lv_has ls 2 [(0, .ref h_this)] → f_Tape_at_21 v_length a_row = some res → W p l e ({ frames := 0, cells := 0, slots := 0, locals := 0 }) s m args below meth c H locs 0 0 (MQ below (va_Qi (fun (r : Int32) (_ : Unit) => some r = some res) (gB (dC, dI) [(c_this_row, .byte)] A (fun (u : Unit) => (WS_Tape_at h_this h_this_row c_this_row v_length a_row))) A) args s 0 0 A) (F0 m 21 ls []) := by
  intro v_length a_row H locs ls hP hD hS hl h
  obtain ⟨hx, hb, hr, hml, hown, ht, hlk⟩ := id cx
  refine lv_iconst (v := -1) hx hb d_Tape_at_21 (by decide) ?_
  refine lv_goto (tgt := 35) hx hb d_Tape_at_22 (by decide) ?_
  exact W.iret (v := (-1 : Int32)) hx hb hr (fun t ht9 hW => ⟨⟨(-1 : Int32), (), rfl, h, by rw [ht9]; exact hP, va_K.moved hW.alike hK, hD⟩, hS.F ht9⟩) hS.2.2 d_Tape_at_35 hlk
set_option maxHeartbeats 4000000 in
set_option maxRecDepth 100000 in
theorem s_Tape_at_e {p : Program} {l : Launch} {e : Env} {s : State} {m : MethodId} {args : Array Value} {below : List Frame} {meth : Method} {c : Code} {dC : Nat → ClassId} {dI : Nat → Nat → Nat} {A : Nat → Prop} {X : SXT} {h_this : Nat} {h_this_row : Nat} {c_this_row : ClassId} {res : Int32} (cx : cxx p s m args meth c b_Tape_at 2 (some .int) R_Tape) (hK : va_K (dC, dI) classes [(c_this_row, .byte)] s) (hA : ∀ q, s.heap.size ≤ q → A q) (hX : SX X A s s.heap) : ∀ (v_length : Int32) (a_row : (Nat → Int32)) (p1 : Int32) (H : Heap) (locs : List Loc) (ls : Array Slot), va_P (dC, dI) classes (WS_Tape_at h_this h_this_row c_this_row v_length a_row) H → va_D A (WS_Tape_at h_this h_this_row c_this_row v_length a_row) → va_S A s.heap H locs → lv_has ls 2 [(0, .ref h_this), (1, .int p1)] → f_Tape_at v_length a_row p1 = some res → W p l e ({ frames := 0, cells := 0, slots := 0, locals := 0 }) s m args below meth c H locs 0 0 (MQ below (va_Qi (fun (r : Int32) (_ : Unit) => some r = some res) (gB (dC, dI) [(c_this_row, .byte)] A (fun (u : Unit) => (WS_Tape_at h_this h_this_row c_this_row v_length a_row))) A) args s 0 0 A) (F0 m 0 ls []) := by
  intro v_length a_row p1 H locs ls hP hD hS hl h
  obtain ⟨hx, hb, hr, hml, hown, ht, hlk⟩ := id cx
  refine lv_iload_n hx hb d_Tape_at_0 rfl (lv_at hl 1 rfl) ?_
  refine lv_if_lt (tgt := 21) hx hb d_Tape_at_1 (by decide) (fun c1 => ?_) (fun c1 => ?_)
  · have h := if_t c1 h
    exact s_Tape_at_21 cx hK hA hX v_length a_row H locs ls hP hD hS (lv_sub hl [0] rfl) h
  · have h := if_f c1 h
    refine lv_iload_n hx hb d_Tape_at_4 rfl (lv_at hl 1 rfl) ?_
    refine lv_aload_n hx hb d_Tape_at_5 rfl (lv_at hl 0 rfl) ?_
    refine va_get (D := (dC, dI)) (ci := 1) (v := .int v_length) (C := R_Tape) (T := F_Tape) (N := 2) hx hb ht i_Tape hown hK hP 0 rfl rfl 1 (by decide) (ht _ q_0) (fun _ h9 => h9) rfl d_Tape_at_6 ?_
    refine lv_icmp_ge (tgt := 21) hx hb d_Tape_at_9 (by decide) (fun c2 => ?_) (fun c2 => ?_)
    · have h := if_t c2 h
      exact s_Tape_at_21 cx hK hA hX v_length a_row H locs ls hP hD hS (lv_sub hl [0] rfl) h
    · have h := if_f c2 h
      refine lv_iload_n hx hb d_Tape_at_12 rfl (lv_at hl 1 rfl) ?_
      refine lv_aload_n hx hb d_Tape_at_13 rfl (lv_at hl 0 rfl) ?_
      refine va_get (D := (dC, dI)) (ci := 1) (v := .ref h_this_row) (C := R_Tape) (T := F_Tape) (N := 2) hx hb ht i_Tape hown hK hP 0 rfl rfl 0 (by decide) (ht _ q_1) (fun _ h9 => h9) rfl d_Tape_at_14 ?_
      refine va_alen (D := (dC, dI)) (v := 1200) hx hb hK hP 1 0 rfl rfl rfl d_Tape_at_17 ?_
      refine lv_icmp_lt (tgt := 25) hx hb d_Tape_at_18 (by decide) (fun c3 => ?_) (fun c3 => ?_)
      · have h := if_t c3 h
        refine lv_aload_n hx hb d_Tape_at_25 rfl (lv_at hl 0 rfl) ?_
        refine va_get (D := (dC, dI)) (ci := 1) (v := .ref h_this_row) (C := R_Tape) (T := F_Tape) (N := 2) hx hb ht i_Tape hown hK hP 0 rfl rfl 0 (by decide) (ht _ q_1) (fun _ h9 => h9) rfl d_Tape_at_26 ?_
        refine lv_iload_n hx hb d_Tape_at_29 rfl (lv_at hl 1 rfl) ?_
        obtain ⟨c4, h⟩ := ck_x h
        refine va_bald (D := (dC, dI)) hx hb hK hP 1 0 rfl rfl c4 d_Tape_at_30 ?_
        refine lv_sipush (v := 255) hx hb d_Tape_at_31 (by decide) ?_
        refine lv_iand hx hb d_Tape_at_34 ?_
        exact W.iret (v := ((a_row p1.toNatClampNeg) &&& (255 : Int32))) hx hb hr (fun t ht9 hW => ⟨⟨((a_row p1.toNatClampNeg) &&& (255 : Int32)), (), rfl, h, by rw [ht9]; exact hP, va_K.moved hW.alike hK, hD⟩, hS.F ht9⟩) hS.2.2 d_Tape_at_35 hlk
      · have h := if_f c3 h
        exact s_Tape_at_21 cx hK hA hX v_length a_row H locs ls hP hD hS (lv_sub hl [0] rfl) h
set_option maxHeartbeats 4000000 in
set_option maxRecDepth 100000 in
theorem c_Tape_at (l : Launch) (dC : Nat → ClassId) (dI : Nat → Nat → Nat) (X : SXT) (h_this : Nat) (h_this_row : Nat) (c_this_row : ClassId) (sz : Nat) (v_length : Int32) (a_row : (Nat → Int32)) (p1 : Int32) (res : Int32) (hf : f_Tape_at v_length a_row p1 = some res) : Met l y_Tape_at (.code y_Tape_at b_Tape_at 2 (some .int) :: w0) ({ frames := 0, cells := 0, slots := 0, locals := 0 }) (va_Pc [.ref h_this, .int p1] (gP (dC, dI) (WS_Tape_at h_this h_this_row c_this_row v_length a_row) [(c_this_row, .byte)] sz X)) (va_Qi (fun (r : Int32) (_ : Unit) => some r = some res) (gB (dC, dI) [(c_this_row, .byte)] (va_A (WS_Tape_at h_this h_this_row c_this_row v_length a_row) sz) (fun (u : Unit) => (WS_Tape_at h_this h_this_row c_this_row v_length a_row))) (va_A (WS_Tape_at h_this h_this_row c_this_row v_length a_row) sz)) 0 0 (va_A (WS_Tape_at h_this h_this_row c_this_row v_length a_row) sz) := by
  refine Met.ofW (cc := b_Tape_at) (maxL := 2) (ret := (some .int)) (by decide) rfl ?_
  intro p e s m args below meth c s₁ B hml hv
  obtain ⟨rfl, hsz, hP, hK, hD0, hX⟩ := hv
  subst hsz
  have cx : cxx p s m ([.ref h_this, .int p1] : List Value).toArray meth c b_Tape_at 2 (some .int) R_Tape := ⟨B.exec, B.bytes, B.returns, hml, findClass_of_methodNamed B.named, fun w9 hw => atoms_spec (ws := .code y_Tape_at b_Tape_at 2 (some .int) :: w0) B.pre w9 (List.mem_cons_of_mem _ hw), B.notSynchronized⟩
  have hD := hD0.self (sz := s.heap.size)
  generalize hAe : va_A (WS_Tape_at h_this h_this_row c_this_row v_length a_row) s.heap.size = A at hD hX ⊢
  have hA : ∀ q : Nat, s.heap.size ≤ q → A q := fun q h => by rw [← hAe]; exact Or.inr h
  have hS : va_S A s.heap s.heap [] := va_S.rf
  have hl := lv_entry ([.ref h_this, .int p1]) (n := 2) (Nat.le_of_ble_eq_true rfl)
  rw [lg_entry_eq]
  generalize (lg_sl ([.ref h_this, .int p1]) ++ List.replicate (2 - (lg_sl ([.ref h_this, .int p1])).length) Slot.unset).toArray = ls at hl ⊢
  have hl : lv_has ls 2 [(0, .ref h_this), (1, .int p1)] := hl
  exact s_Tape_at_e cx hK hA hX v_length a_row p1 s.heap [] ls hP hD hS hl hf

abbrev WS_Tape_hasRoomFor (g_this_row : Nat) (h_this : Nat)  (v_length : Int32) : va_W := [(h_this, .inr (1, [.ref g_this_row, .int v_length]))]
def f_Tape_hasRoomFor (v_length : Int32) (p1 : Int32) : Option (Int32) :=
  if ((1200 : Int32) - v_length) < p1 then
    some (0 : Int32)
  else
    some (1 : Int32)
set_option maxHeartbeats 4000000 in
set_option maxRecDepth 100000 in
theorem s_Tape_hasRoomFor_e {p : Program} {l : Launch} {e : Env} {s : State} {m : MethodId} {args : Array Value} {below : List Frame} {meth : Method} {c : Code} {dC : Nat → ClassId} {dI : Nat → Nat → Nat} {A : Nat → Prop} {X : SXT} {g_this_row : Nat} {h_this : Nat} {res : Int32} (cx : cxx p s m args meth c b_Tape_hasRoomFor 2 (some .boolean) R_Tape) (hK : va_K (dC, dI) classes [] s) (hA : ∀ q, s.heap.size ≤ q → A q) (hX : SX X A s s.heap) : ∀ (v_length : Int32) (p1 : Int32) (H : Heap) (locs : List Loc) (ls : Array Slot), va_P (dC, dI) classes (WS_Tape_hasRoomFor g_this_row h_this v_length) H → va_D A (WS_Tape_hasRoomFor g_this_row h_this v_length) → va_S A s.heap H locs → lv_has ls 2 [(0, .ref h_this), (1, .int p1)] → f_Tape_hasRoomFor v_length p1 = some res → W p l e ({ frames := 0, cells := 0, slots := 0, locals := 0 }) s m args below meth c H locs 0 0 (MQ below (va_Qi (fun (r : Int32) (_ : Unit) => some r = some res) (gB (dC, dI) [] A (fun (u : Unit) => (WS_Tape_hasRoomFor g_this_row h_this v_length))) A) args s 0 0 A) (F0 m 0 ls []) := by
  intro v_length p1 H locs ls hP hD hS hl h
  obtain ⟨hx, hb, hr, hml, hown, ht, hlk⟩ := id cx
  refine lv_iload_n hx hb d_Tape_hasRoomFor_0 rfl (lv_at hl 1 rfl) ?_
  refine lv_sipush (v := 1200) hx hb d_Tape_hasRoomFor_1 (by decide) ?_
  refine lv_aload_n hx hb d_Tape_hasRoomFor_4 rfl (lv_at hl 0 rfl) ?_
  refine va_get (D := (dC, dI)) (ci := 1) (v := .int v_length) (C := R_Tape) (T := F_Tape) (N := 2) hx hb ht i_Tape hown hK hP 0 rfl rfl 1 (by decide) (ht _ q_0) (fun _ h9 => h9) rfl d_Tape_hasRoomFor_5 ?_
  refine lv_isub hx hb d_Tape_hasRoomFor_8 ?_
  refine lv_icmp_gt (tgt := 16) hx hb d_Tape_hasRoomFor_9 (by decide) (fun c1 => ?_) (fun c1 => ?_)
  · have h := if_t c1 h
    refine lv_iconst (v := 0) hx hb d_Tape_hasRoomFor_16 (by decide) ?_
    exact W.zret (v := (0 : Int32)) hx hb hr rfl (fun t ht9 hW => ⟨⟨(0 : Int32), (), rfl, h, by rw [ht9]; exact hP, va_K.moved hW.alike hK, hD⟩, hS.F ht9⟩) hS.2.2 d_Tape_hasRoomFor_17 hlk
  · have h := if_f c1 h
    refine lv_iconst (v := 1) hx hb d_Tape_hasRoomFor_12 (by decide) ?_
    refine lv_goto (tgt := 17) hx hb d_Tape_hasRoomFor_13 (by decide) ?_
    exact W.zret (v := (1 : Int32)) hx hb hr rfl (fun t ht9 hW => ⟨⟨(1 : Int32), (), rfl, h, by rw [ht9]; exact hP, va_K.moved hW.alike hK, hD⟩, hS.F ht9⟩) hS.2.2 d_Tape_hasRoomFor_17 hlk
set_option maxHeartbeats 4000000 in
set_option maxRecDepth 100000 in
theorem c_Tape_hasRoomFor (l : Launch) (dC : Nat → ClassId) (dI : Nat → Nat → Nat) (X : SXT) (g_this_row : Nat) (h_this : Nat) (sz : Nat) (v_length : Int32) (p1 : Int32) (res : Int32) (hf : f_Tape_hasRoomFor v_length p1 = some res) : Met l y_Tape_hasRoomFor (.code y_Tape_hasRoomFor b_Tape_hasRoomFor 2 (some .boolean) :: w0) ({ frames := 0, cells := 0, slots := 0, locals := 0 }) (va_Pc [.ref h_this, .int p1] (gP (dC, dI) (WS_Tape_hasRoomFor g_this_row h_this v_length) [] sz X)) (va_Qi (fun (r : Int32) (_ : Unit) => some r = some res) (gB (dC, dI) [] (va_A (WS_Tape_hasRoomFor g_this_row h_this v_length) sz) (fun (u : Unit) => (WS_Tape_hasRoomFor g_this_row h_this v_length))) (va_A (WS_Tape_hasRoomFor g_this_row h_this v_length) sz)) 0 0 (va_A (WS_Tape_hasRoomFor g_this_row h_this v_length) sz) := by
  refine Met.ofW (cc := b_Tape_hasRoomFor) (maxL := 2) (ret := (some .boolean)) (by decide) rfl ?_
  intro p e s m args below meth c s₁ B hml hv
  obtain ⟨rfl, hsz, hP, hK, hD0, hX⟩ := hv
  subst hsz
  have cx : cxx p s m ([.ref h_this, .int p1] : List Value).toArray meth c b_Tape_hasRoomFor 2 (some .boolean) R_Tape := ⟨B.exec, B.bytes, B.returns, hml, findClass_of_methodNamed B.named, fun w9 hw => atoms_spec (ws := .code y_Tape_hasRoomFor b_Tape_hasRoomFor 2 (some .boolean) :: w0) B.pre w9 (List.mem_cons_of_mem _ hw), B.notSynchronized⟩
  have hD := hD0.self (sz := s.heap.size)
  generalize hAe : va_A (WS_Tape_hasRoomFor g_this_row h_this v_length) s.heap.size = A at hD hX ⊢
  have hA : ∀ q : Nat, s.heap.size ≤ q → A q := fun q h => by rw [← hAe]; exact Or.inr h
  have hS : va_S A s.heap s.heap [] := va_S.rf
  have hl := lv_entry ([.ref h_this, .int p1]) (n := 2) (Nat.le_of_ble_eq_true rfl)
  rw [lg_entry_eq]
  generalize (lg_sl ([.ref h_this, .int p1]) ++ List.replicate (2 - (lg_sl ([.ref h_this, .int p1])).length) Slot.unset).toArray = ls at hl ⊢
  have hl : lv_has ls 2 [(0, .ref h_this), (1, .int p1)] := hl
  exact s_Tape_hasRoomFor_e cx hK hA hX v_length p1 s.heap [] ls hP hD hS hl hf
abbrev WS_Tape_add (h_this : Nat) (h_this_row : Nat) (c_this_row : ClassId) (v_length : Int32) (a_row : (Nat → Int32)) : va_W := [(h_this, .inr (1, [.ref h_this_row, .int v_length])), (h_this_row, .inl (c_this_row, 1200, .inl a_row))]
def f_Tape_add (v_length : Int32) (a_row : (Nat → Int32)) (p1 : Int32) : Option (Int32 × (Nat → Int32)) :=
  if v_length < 0 then
    some (v_length, a_row)
  else
    if (1200 : Int32) ≤ v_length then
      some (v_length, a_row)
    else
      ck (gin v_length 1200) <|
      bd (upd a_row v_length.toNatClampNeg ((p1.toInt8.toInt32).toInt8.toInt32)) fun a4 =>
      bd (v_length + (1 : Int32)) fun x5 =>
      some (x5, a4)
set_option maxHeartbeats 4000000 in
set_option maxRecDepth 100000 in
theorem s_Tape_add_e {p : Program} {l : Launch} {e : Env} {s : State} {m : MethodId} {args : Array Value} {below : List Frame} {meth : Method} {c : Code} {dC : Nat → ClassId} {dI : Nat → Nat → Nat} {A : Nat → Prop} {X : SXT} {h_this : Nat} {h_this_row : Nat} {c_this_row : ClassId} {res : Int32 × (Nat → Int32)} (cx : cxx p s m args meth c b_Tape_add 2 none R_Tape) (hK : va_K (dC, dI) classes [(c_this_row, .byte)] s) (hA : ∀ q, s.heap.size ≤ q → A q) (hX : SX X A s s.heap) : ∀ (v_length : Int32) (a_row : (Nat → Int32)) (p1 : Int32) (H : Heap) (locs : List Loc) (ls : Array Slot), va_P (dC, dI) classes (WS_Tape_add h_this h_this_row c_this_row v_length a_row) H → va_D A (WS_Tape_add h_this h_this_row c_this_row v_length a_row) → va_S A s.heap H locs → lv_has ls 2 [(0, .ref h_this), (1, .int p1)] → f_Tape_add v_length a_row p1 = some res → W p l e ({ frames := 0, cells := 0, slots := 0, locals := 0 }) s m args below meth c H locs 0 0 (MQ below (va_Qv (fun (u : Int32 × (Nat → Int32)) => some u = some res) (gB (dC, dI) [(c_this_row, .byte)] A (fun (u : Int32 × (Nat → Int32)) => (WS_Tape_add h_this h_this_row c_this_row u.1 u.2))) A) args s 0 0 A) (F0 m 0 ls []) := by
  intro v_length a_row p1 H locs ls hP hD hS hl h
  obtain ⟨hx, hb, hr, hml, hown, ht, hlk⟩ := id cx
  refine lv_aload_n hx hb d_Tape_add_0 rfl (lv_at hl 0 rfl) ?_
  refine va_get (D := (dC, dI)) (ci := 1) (v := .int v_length) (C := R_Tape) (T := F_Tape) (N := 2) hx hb ht i_Tape hown hK hP 0 rfl rfl 1 (by decide) (ht _ q_0) (fun _ h9 => h9) rfl d_Tape_add_1 ?_
  refine lv_if_lt (tgt := 40) hx hb d_Tape_add_4 (by decide) (fun c1 => ?_) (fun c1 => ?_)
  · have h := if_t c1 h
    exact W.vret hx hb hr (fun t ht9 hW => ⟨⟨(v_length, a_row), rfl, h, by rw [ht9]; exact hP, va_K.moved hW.alike hK, hD⟩, hS.F ht9⟩) hS.2.2 d_Tape_add_40 hlk
  · have h := if_f c1 h
    refine lv_aload_n hx hb d_Tape_add_7 rfl (lv_at hl 0 rfl) ?_
    refine va_get (D := (dC, dI)) (ci := 1) (v := .int v_length) (C := R_Tape) (T := F_Tape) (N := 2) hx hb ht i_Tape hown hK hP 0 rfl rfl 1 (by decide) (ht _ q_0) (fun _ h9 => h9) rfl d_Tape_add_8 ?_
    refine lv_aload_n hx hb d_Tape_add_11 rfl (lv_at hl 0 rfl) ?_
    refine va_get (D := (dC, dI)) (ci := 1) (v := .ref h_this_row) (C := R_Tape) (T := F_Tape) (N := 2) hx hb ht i_Tape hown hK hP 0 rfl rfl 0 (by decide) (ht _ q_1) (fun _ h9 => h9) rfl d_Tape_add_12 ?_
    refine va_alen (D := (dC, dI)) (v := 1200) hx hb hK hP 1 0 rfl rfl rfl d_Tape_add_15 ?_
    refine lv_icmp_ge (tgt := 40) hx hb d_Tape_add_16 (by decide) (fun c2 => ?_) (fun c2 => ?_)
    · have h := if_t c2 h
      exact W.vret hx hb hr (fun t ht9 hW => ⟨⟨(v_length, a_row), rfl, h, by rw [ht9]; exact hP, va_K.moved hW.alike hK, hD⟩, hS.F ht9⟩) hS.2.2 d_Tape_add_40 hlk
    · have h := if_f c2 h
      refine lv_aload_n hx hb d_Tape_add_19 rfl (lv_at hl 0 rfl) ?_
      refine va_get (D := (dC, dI)) (ci := 1) (v := .ref h_this_row) (C := R_Tape) (T := F_Tape) (N := 2) hx hb ht i_Tape hown hK hP 0 rfl rfl 0 (by decide) (ht _ q_1) (fun _ h9 => h9) rfl d_Tape_add_20 ?_
      refine lv_aload_n hx hb d_Tape_add_23 rfl (lv_at hl 0 rfl) ?_
      refine va_get (D := (dC, dI)) (ci := 1) (v := .int v_length) (C := R_Tape) (T := F_Tape) (N := 2) hx hb ht i_Tape hown hK hP 0 rfl rfl 1 (by decide) (ht _ q_0) (fun _ h9 => h9) rfl d_Tape_add_24 ?_
      refine lv_iload_n hx hb d_Tape_add_27 rfl (lv_at hl 1 rfl) ?_
      refine lv_i2b (v := p1.toInt8.toInt32) hx hb d_Tape_add_28 rfl ?_
      obtain ⟨c3, h⟩ := ck_x h
      refine va_bast (D := (dC, dI)) hx hb hK hP hD hS 1 0 rfl rfl c3 d_Tape_add_29 (fun H locs hP hD hS => ?_)
      obtain ⟨a4, e_a4⟩ : ∃ y, y = upd a_row v_length.toNatClampNeg ((p1.toInt8.toInt32).toInt8.toInt32) := ⟨_, rfl⟩
      have hP : va_P (dC, dI) classes (WS_Tape_add h_this h_this_row c_this_row v_length a4) H := by rw [e_a4]; exact hP
      have hD : va_D A (WS_Tape_add h_this h_this_row c_this_row v_length a4) := by rw [e_a4]; exact hD
      have h := bd_g e_a4 h
      refine lv_aload_n hx hb d_Tape_add_30 rfl (lv_at hl 0 rfl) ?_
      refine lv_dup hx hb d_Tape_add_31 rfl ?_
      refine va_get (D := (dC, dI)) (ci := 1) (v := .int v_length) (C := R_Tape) (T := F_Tape) (N := 2) hx hb ht i_Tape hown hK hP 0 rfl rfl 1 (by decide) (ht _ q_0) (fun _ h9 => h9) rfl d_Tape_add_32 ?_
      refine lv_iconst (v := 1) hx hb d_Tape_add_35 (by decide) ?_
      refine lv_iadd hx hb d_Tape_add_36 ?_
      refine lv_topi (fun x5 e_x5 => ?_)
      have h := bd_g e_x5 h
      refine va_put (D := (dC, dI)) (ci := 1) (v := .int x5) (ty := .int) (C := R_Tape) (T := F_Tape) (N := 2) hx hb ht i_Tape t_Tape t_Tape_ok n_Tape hown hK hP hD hS 0 rfl rfl 1 (by decide) (ht _ q_0) (fun _ h9 => h9) rfl (t_Tape_ok 1 (by decide)) rfl rfl (Nat.le_of_ble_eq_true rfl) d_Tape_add_37 (fun H locs hP hD hS => ?_)
      have hP : va_P (dC, dI) classes (WS_Tape_add h_this h_this_row c_this_row x5 a4) H := hP
      have hD : va_D A (WS_Tape_add h_this h_this_row c_this_row x5 a4) := hD
      exact W.vret hx hb hr (fun t ht9 hW => ⟨⟨(x5, a4), rfl, h, by rw [ht9]; exact hP, va_K.moved hW.alike hK, hD⟩, hS.F ht9⟩) hS.2.2 d_Tape_add_40 hlk
set_option maxHeartbeats 4000000 in
set_option maxRecDepth 100000 in
theorem c_Tape_add (l : Launch) (dC : Nat → ClassId) (dI : Nat → Nat → Nat) (X : SXT) (h_this : Nat) (h_this_row : Nat) (c_this_row : ClassId) (sz : Nat) (v_length : Int32) (a_row : (Nat → Int32)) (p1 : Int32) (res : Int32 × (Nat → Int32)) (hf : f_Tape_add v_length a_row p1 = some res) : Met l y_Tape_add (.code y_Tape_add b_Tape_add 2 none :: w0) ({ frames := 0, cells := 0, slots := 0, locals := 0 }) (va_Pc [.ref h_this, .int p1] (gP (dC, dI) (WS_Tape_add h_this h_this_row c_this_row v_length a_row) [(c_this_row, .byte)] sz X)) (va_Qv (fun (u : Int32 × (Nat → Int32)) => some u = some res) (gB (dC, dI) [(c_this_row, .byte)] (va_A (WS_Tape_add h_this h_this_row c_this_row v_length a_row) sz) (fun (u : Int32 × (Nat → Int32)) => (WS_Tape_add h_this h_this_row c_this_row u.1 u.2))) (va_A (WS_Tape_add h_this h_this_row c_this_row v_length a_row) sz)) 0 0 (va_A (WS_Tape_add h_this h_this_row c_this_row v_length a_row) sz) := by
  refine Met.ofW (cc := b_Tape_add) (maxL := 2) (ret := none) (by decide) rfl ?_
  intro p e s m args below meth c s₁ B hml hv
  obtain ⟨rfl, hsz, hP, hK, hD0, hX⟩ := hv
  subst hsz
  have cx : cxx p s m ([.ref h_this, .int p1] : List Value).toArray meth c b_Tape_add 2 none R_Tape := ⟨B.exec, B.bytes, B.returns, hml, findClass_of_methodNamed B.named, fun w9 hw => atoms_spec (ws := .code y_Tape_add b_Tape_add 2 none :: w0) B.pre w9 (List.mem_cons_of_mem _ hw), B.notSynchronized⟩
  have hD := hD0.self (sz := s.heap.size)
  generalize hAe : va_A (WS_Tape_add h_this h_this_row c_this_row v_length a_row) s.heap.size = A at hD hX ⊢
  have hA : ∀ q : Nat, s.heap.size ≤ q → A q := fun q h => by rw [← hAe]; exact Or.inr h
  have hS : va_S A s.heap s.heap [] := va_S.rf
  have hl := lv_entry ([.ref h_this, .int p1]) (n := 2) (Nat.le_of_ble_eq_true rfl)
  rw [lg_entry_eq]
  generalize (lg_sl ([.ref h_this, .int p1]) ++ List.replicate (2 - (lg_sl ([.ref h_this, .int p1])).length) Slot.unset).toArray = ls at hl ⊢
  have hl : lv_has ls 2 [(0, .ref h_this), (1, .int p1)] := hl
  exact s_Tape_add_e cx hK hA hX v_length a_row p1 s.heap [] ls hP hD hS hl hf
abbrev WS_Tape_length (g_this_row : Nat) (h_this : Nat)  (v_length : Int32) : va_W := [(h_this, .inr (1, [.ref g_this_row, .int v_length]))]
def f_Tape_length (v_length : Int32) : Option (Int32) :=
  some v_length
set_option maxHeartbeats 4000000 in
set_option maxRecDepth 100000 in
theorem s_Tape_length_e {p : Program} {l : Launch} {e : Env} {s : State} {m : MethodId} {args : Array Value} {below : List Frame} {meth : Method} {c : Code} {dC : Nat → ClassId} {dI : Nat → Nat → Nat} {A : Nat → Prop} {X : SXT} {g_this_row : Nat} {h_this : Nat} {res : Int32} (cx : cxx p s m args meth c b_Tape_length 1 (some .int) R_Tape) (hK : va_K (dC, dI) classes [] s) (hA : ∀ q, s.heap.size ≤ q → A q) (hX : SX X A s s.heap) : ∀ (v_length : Int32) (H : Heap) (locs : List Loc) (ls : Array Slot), va_P (dC, dI) classes (WS_Tape_length g_this_row h_this v_length) H → va_D A (WS_Tape_length g_this_row h_this v_length) → va_S A s.heap H locs → lv_has ls 1 [(0, .ref h_this)] → f_Tape_length v_length = some res → W p l e ({ frames := 0, cells := 0, slots := 0, locals := 0 }) s m args below meth c H locs 0 0 (MQ below (va_Qi (fun (r : Int32) (_ : Unit) => some r = some res) (gB (dC, dI) [] A (fun (u : Unit) => (WS_Tape_length g_this_row h_this v_length))) A) args s 0 0 A) (F0 m 0 ls []) := by
  intro v_length H locs ls hP hD hS hl h
  obtain ⟨hx, hb, hr, hml, hown, ht, hlk⟩ := id cx
  refine lv_aload_n hx hb d_Tape_length_0 rfl (lv_at hl 0 rfl) ?_
  refine va_get (D := (dC, dI)) (ci := 1) (v := .int v_length) (C := R_Tape) (T := F_Tape) (N := 2) hx hb ht i_Tape hown hK hP 0 rfl rfl 1 (by decide) (ht _ q_0) (fun _ h9 => h9) rfl d_Tape_length_1 ?_
  exact W.iret (v := v_length) hx hb hr (fun t ht9 hW => ⟨⟨v_length, (), rfl, h, by rw [ht9]; exact hP, va_K.moved hW.alike hK, hD⟩, hS.F ht9⟩) hS.2.2 d_Tape_length_4 hlk
set_option maxHeartbeats 4000000 in
set_option maxRecDepth 100000 in
theorem c_Tape_length (l : Launch) (dC : Nat → ClassId) (dI : Nat → Nat → Nat) (X : SXT) (g_this_row : Nat) (h_this : Nat) (sz : Nat) (v_length : Int32) (res : Int32) (hf : f_Tape_length v_length = some res) : Met l y_Tape_length (.code y_Tape_length b_Tape_length 1 (some .int) :: w0) ({ frames := 0, cells := 0, slots := 0, locals := 0 }) (va_Pc [.ref h_this] (gP (dC, dI) (WS_Tape_length g_this_row h_this v_length) [] sz X)) (va_Qi (fun (r : Int32) (_ : Unit) => some r = some res) (gB (dC, dI) [] (va_A (WS_Tape_length g_this_row h_this v_length) sz) (fun (u : Unit) => (WS_Tape_length g_this_row h_this v_length))) (va_A (WS_Tape_length g_this_row h_this v_length) sz)) 0 0 (va_A (WS_Tape_length g_this_row h_this v_length) sz) := by
  refine Met.ofW (cc := b_Tape_length) (maxL := 1) (ret := (some .int)) (by decide) rfl ?_
  intro p e s m args below meth c s₁ B hml hv
  obtain ⟨rfl, hsz, hP, hK, hD0, hX⟩ := hv
  subst hsz
  have cx : cxx p s m ([.ref h_this] : List Value).toArray meth c b_Tape_length 1 (some .int) R_Tape := ⟨B.exec, B.bytes, B.returns, hml, findClass_of_methodNamed B.named, fun w9 hw => atoms_spec (ws := .code y_Tape_length b_Tape_length 1 (some .int) :: w0) B.pre w9 (List.mem_cons_of_mem _ hw), B.notSynchronized⟩
  have hD := hD0.self (sz := s.heap.size)
  generalize hAe : va_A (WS_Tape_length g_this_row h_this v_length) s.heap.size = A at hD hX ⊢
  have hA : ∀ q : Nat, s.heap.size ≤ q → A q := fun q h => by rw [← hAe]; exact Or.inr h
  have hS : va_S A s.heap s.heap [] := va_S.rf
  have hl := lv_entry ([.ref h_this]) (n := 1) (Nat.le_of_ble_eq_true rfl)
  rw [lg_entry_eq]
  generalize (lg_sl ([.ref h_this]) ++ List.replicate (1 - (lg_sl ([.ref h_this])).length) Slot.unset).toArray = ls at hl ⊢
  have hl : lv_has ls 1 [(0, .ref h_this)] := hl
  exact s_Tape_length_e cx hK hA hX v_length s.heap [] ls hP hD hS hl hf
abbrev WS_N_type (g_this_numeral : Nat) (g_this_room : Nat) (g_this_exact : Nat) (g_this_size : Nat) (g_this_again : Nat) (g_this_page : Nat) (g_this_writer : Nat) (h_this : Nat) (h_this_tape : Nat) (h_this_tape_row : Nat) (c_this_tape_row : ClassId) (v_valueKind : Int32) (v_valueNumber : Int64) (v_valueExponent : Int32) (v_tape_length : Int32) (a_tape_row : (Nat → Int32)) : va_W := [(h_this, .inr (0, [.ref h_this_tape, .ref g_this_numeral, .ref g_this_room, .ref g_this_exact, .ref g_this_size, .ref g_this_again, .ref g_this_page, .ref g_this_writer, .int v_valueKind, .long v_valueNumber, .int v_valueExponent])), (h_this_tape, .inr (1, [.ref h_this_tape_row, .int v_tape_length])), (h_this_tape_row, .inl (c_this_tape_row, 1200, .inl a_tape_row))]
def f_N_type_62 (v_tape_length : Int32) (a_tape_row : (Nat → Int32)) : Option (Int32 × Int32 × (Nat → Int32)) :=
  bi1 (f_Tape_length v_tape_length) fun r1 =>
  some (r1, v_tape_length, a_tape_row)
def f_N_type_32b (k32 : Int32 → (Nat → Int32) → Int64 → Int32 → Option (Int32 × Int32 × (Nat → Int32))) (v_tape_length : Int32) (a_tape_row : (Nat → Int32)) (y1 : Int64) (y4 : Int32) : Option (Int32 × Int32 × (Nat → Int32)) :=
  if y4 < 0 then
    f_N_type_62 v_tape_length a_tape_row
  else
    bi2 (f_Tape_add v_tape_length a_tape_row (((lus y1 ((8 : Int32) * y4)).toInt32) &&& (255 : Int32))) fun v3 a4 =>
    bd (y4 + (-1 : Int32)) fun x5 =>
    k32 v3 a4 y1 x5
def f_N_type_32 : Nat → Int32 → (Nat → Int32) → Int64 → Int32 → Option (Int32 × Int32 × (Nat → Int32))
  | 0 => fun _ _ _ _ => none
  | n + 1 => fun v_tape_length a_tape_row y1 y4 => f_N_type_32b (f_N_type_32 n) v_tape_length a_tape_row y1 y4
def f_N_type (v_tape_length : Int32) (a_tape_row : (Nat → Int32)) (p1 : Int64) (p3 : Int32) : Option (Int32 × Int32 × (Nat → Int32)) :=
  if p3 < (1 : Int32) then
    some ((-1 : Int32), v_tape_length, a_tape_row)
  else
    if p3 ≤ (8 : Int32) then
      bi1 (f_Tape_hasRoomFor v_tape_length p3) fun r8 =>
      if r8 = 0 then
        some ((-3 : Int32), v_tape_length, a_tape_row)
      else
        bd (p3 - (1 : Int32)) fun x10 =>
        f_N_type_32 fu v_tape_length a_tape_row p1 x10
    else
      some ((-1 : Int32), v_tape_length, a_tape_row)
set_option maxHeartbeats 4000000 in
set_option maxRecDepth 100000 in
theorem s_N_type_62 {p : Program} {l : Launch} {e : Env} {s : State} {m : MethodId} {args : Array Value} {below : List Frame} {meth : Method} {c : Code} {dC : Nat → ClassId} {dI : Nat → Nat → Nat} {A : Nat → Prop} {X : SXT} {g_this_numeral : Nat} {g_this_room : Nat} {g_this_exact : Nat} {g_this_size : Nat} {g_this_again : Nat} {g_this_page : Nat} {g_this_writer : Nat} {h_this : Nat} {h_this_tape : Nat} {h_this_tape_row : Nat} {c_this_tape_row : ClassId} {v_valueKind : Int32} {v_valueNumber : Int64} {v_valueExponent : Int32} {res : Int32 × Int32 × (Nat → Int32)}  (cx : cxx p s m args meth c b_N_type 5 (some .int) R_N) (hK : va_K (dC, dI) classes [(c_this_tape_row, .byte)] s) (hA : ∀ q, s.heap.size ≤ q → A q) (hX : SX X A s s.heap)  : ∀ (v_tape_length : Int32) (a_tape_row : (Nat → Int32)) (H : Heap) (locs : List Loc) (ls : Array Slot), va_P (dC, dI) classes (WS_N_type g_this_numeral g_this_room g_this_exact g_this_size g_this_again g_this_page g_this_writer h_this h_this_tape h_this_tape_row c_this_tape_row v_valueKind v_valueNumber v_valueExponent v_tape_length a_tape_row) H → va_D A (WS_N_type g_this_numeral g_this_room g_this_exact g_this_size g_this_again g_this_page g_this_writer h_this h_this_tape h_this_tape_row c_this_tape_row v_valueKind v_valueNumber v_valueExponent v_tape_length a_tape_row) → va_S A s.heap H locs → lv_has ls 5 [(0, .ref h_this)] → f_N_type_62 v_tape_length a_tape_row = some res → W p l e ({ frames := 1, cells := 0, slots := 0, locals := 21 }) s m args below meth c H locs 0 0 (MQ below (va_Qi (fun (r : Int32) (u : Int32 × (Nat → Int32)) => some (r, u) = some res) (gB (dC, dI) [(c_this_tape_row, .byte)] A (fun (u : Int32 × (Nat → Int32)) => (WS_N_type g_this_numeral g_this_room g_this_exact g_this_size g_this_again g_this_page g_this_writer h_this h_this_tape h_this_tape_row c_this_tape_row v_valueKind v_valueNumber v_valueExponent u.1 u.2))) A) args s 0 0 A) (F0 m 62 ls []) := by
  intro v_tape_length a_tape_row H locs ls hP hD hS hl h
  obtain ⟨hx, hb, hr, hml, hown, ht, hlk⟩ := id cx
  refine lv_aload_n hx hb d_N_type_62 rfl (lv_at hl 0 rfl) ?_
  refine va_get (D := (dC, dI)) (ci := 0) (v := .ref h_this_tape) (C := R_N) (T := F_N) (N := 11) hx hb ht i_N hown hK hP 0 rfl rfl 0 (by decide) (ht _ q_2) (fun _ h9 => h9) rfl d_N_type_63 ?_
  obtain ⟨r1, hf, h⟩ := bi1_x h
  refine clVi (D := (dC, dI)) (n := 0) (As := []) ⟨hx, hb, hml, hown, ht⟩ (c_Tape_length l dC dI X h_this_tape_row h_this_tape H.size v_tape_length r1 hf) (gV q_3 q_4 q_5 q_6 q_7) (by decide +kernel) ⟨rfl, rfl, Nat.le_of_ble_eq_true rfl, Nat.le_of_ble_eq_true rfl⟩ hK hP hD hS hA hX [1] [0, 2] [] rfl (wr := [(h_this, .inr (0, [.ref h_this_tape, .ref g_this_numeral, .ref g_this_room, .ref g_this_exact, .ref g_this_size, .ref g_this_again, .ref g_this_page, .ref g_this_writer, .int v_valueKind, .long v_valueNumber, .int v_valueExponent])), (h_this_tape_row, .inl (c_this_tape_row, 1200, .inl a_tape_row))]) rfl (by decide) (by decide) (by decide) rfl (va_recv hK hP (ci := 1) (q0 := 1) rfl rfl) rfl hl.1 rfl (lv_room (Nat.le_of_ble_eq_true rfl)) d_N_type_66 ⟨Nat.zero_le _, Nat.zero_le _⟩ (fun r9 u9 H locs h9 hP hD hS => ?_)
  cases h9
  have hP : va_P (dC, dI) classes (WS_N_type g_this_numeral g_this_room g_this_exact g_this_size g_this_again g_this_page g_this_writer h_this h_this_tape h_this_tape_row c_this_tape_row v_valueKind v_valueNumber v_valueExponent v_tape_length a_tape_row) H := hP.sub [0, 2, 1] rfl
  have hD : va_D A (WS_N_type g_this_numeral g_this_room g_this_exact g_this_size g_this_again g_this_page g_this_writer h_this h_this_tape h_this_tape_row c_this_tape_row v_valueKind v_valueNumber v_valueExponent v_tape_length a_tape_row) := hD.sub [0, 2, 1] (by decide) rfl
  exact W.iret (v := r1) hx hb hr (fun t ht9 hW => ⟨⟨r1, (v_tape_length, a_tape_row), rfl, h, by rw [ht9]; exact hP, va_K.moved hW.alike hK, hD⟩, hS.F ht9⟩) hS.2.2 d_N_type_69 hlk
set_option maxHeartbeats 4000000 in
set_option maxRecDepth 100000 in
theorem s_N_type_32b {p : Program} {l : Launch} {e : Env} {s : State} {m : MethodId} {args : Array Value} {below : List Frame} {meth : Method} {c : Code} {dC : Nat → ClassId} {dI : Nat → Nat → Nat} {A : Nat → Prop} {X : SXT} {g_this_numeral : Nat} {g_this_room : Nat} {g_this_exact : Nat} {g_this_size : Nat} {g_this_again : Nat} {g_this_page : Nat} {g_this_writer : Nat} {h_this : Nat} {h_this_tape : Nat} {h_this_tape_row : Nat} {c_this_tape_row : ClassId} {v_valueKind : Int32} {v_valueNumber : Int64} {v_valueExponent : Int32} {res : Int32 × Int32 × (Nat → Int32)} {k32 : Int32 → (Nat → Int32) → Int64 → Int32 → Option (Int32 × Int32 × (Nat → Int32))} (cx : cxx p s m args meth c b_N_type 5 (some .int) R_N) (hK : va_K (dC, dI) classes [(c_this_tape_row, .byte)] s) (hA : ∀ q, s.heap.size ≤ q → A q) (hX : SX X A s s.heap) (hk32 : ∀ (v_tape_length : Int32) (a_tape_row : (Nat → Int32)) (y1 : Int64) (y4 : Int32) (H : Heap) (locs : List Loc) (ls : Array Slot), va_P (dC, dI) classes (WS_N_type g_this_numeral g_this_room g_this_exact g_this_size g_this_again g_this_page g_this_writer h_this h_this_tape h_this_tape_row c_this_tape_row v_valueKind v_valueNumber v_valueExponent v_tape_length a_tape_row) H → va_D A (WS_N_type g_this_numeral g_this_room g_this_exact g_this_size g_this_again g_this_page g_this_writer h_this h_this_tape h_this_tape_row c_this_tape_row v_valueKind v_valueNumber v_valueExponent v_tape_length a_tape_row) → va_S A s.heap H locs → lv_has ls 5 [(0, .ref h_this), (1, .long y1), (4, .int y4)] → k32 v_tape_length a_tape_row y1 y4 = some res → W p l e ({ frames := 1, cells := 0, slots := 0, locals := 21 }) s m args below meth c H locs 0 0 (MQ below (va_Qi (fun (r : Int32) (u : Int32 × (Nat → Int32)) => some (r, u) = some res) (gB (dC, dI) [(c_this_tape_row, .byte)] A (fun (u : Int32 × (Nat → Int32)) => (WS_N_type g_this_numeral g_this_room g_this_exact g_this_size g_this_again g_this_page g_this_writer h_this h_this_tape h_this_tape_row c_this_tape_row v_valueKind v_valueNumber v_valueExponent u.1 u.2))) A) args s 0 0 A) (F0 m 32 ls [])) : ∀ (v_tape_length : Int32) (a_tape_row : (Nat → Int32)) (y1 : Int64) (y4 : Int32) (H : Heap) (locs : List Loc) (ls : Array Slot), va_P (dC, dI) classes (WS_N_type g_this_numeral g_this_room g_this_exact g_this_size g_this_again g_this_page g_this_writer h_this h_this_tape h_this_tape_row c_this_tape_row v_valueKind v_valueNumber v_valueExponent v_tape_length a_tape_row) H → va_D A (WS_N_type g_this_numeral g_this_room g_this_exact g_this_size g_this_again g_this_page g_this_writer h_this h_this_tape h_this_tape_row c_this_tape_row v_valueKind v_valueNumber v_valueExponent v_tape_length a_tape_row) → va_S A s.heap H locs → lv_has ls 5 [(0, .ref h_this), (1, .long y1), (4, .int y4)] → f_N_type_32b k32 v_tape_length a_tape_row y1 y4 = some res → W p l e ({ frames := 1, cells := 0, slots := 0, locals := 21 }) s m args below meth c H locs 0 0 (MQ below (va_Qi (fun (r : Int32) (u : Int32 × (Nat → Int32)) => some (r, u) = some res) (gB (dC, dI) [(c_this_tape_row, .byte)] A (fun (u : Int32 × (Nat → Int32)) => (WS_N_type g_this_numeral g_this_room g_this_exact g_this_size g_this_again g_this_page g_this_writer h_this h_this_tape h_this_tape_row c_this_tape_row v_valueKind v_valueNumber v_valueExponent u.1 u.2))) A) args s 0 0 A) (F0 m 32 ls []) := by
  intro v_tape_length a_tape_row y1 y4 H locs ls hP hD hS hl h
  obtain ⟨hx, hb, hr, hml, hown, ht, hlk⟩ := id cx
  refine lv_iload hx hb d_N_type_32 (lv_at hl 2 rfl) ?_
  refine lv_if_lt (tgt := 62) hx hb d_N_type_34 (by decide) (fun c2 => ?_) (fun c2 => ?_)
  · have h := if_t c2 h
    exact s_N_type_62 cx hK hA hX v_tape_length a_tape_row H locs ls hP hD hS (lv_sub hl [0] rfl) h
  · have h := if_f c2 h
    refine lv_aload_n hx hb d_N_type_37 rfl (lv_at hl 0 rfl) ?_
    refine va_get (D := (dC, dI)) (ci := 0) (v := .ref h_this_tape) (C := R_N) (T := F_N) (N := 11) hx hb ht i_N hown hK hP 0 rfl rfl 0 (by decide) (ht _ q_2) (fun _ h9 => h9) rfl d_N_type_38 ?_
    refine lv_lload_n hx hb d_N_type_41 rfl (lv_at hl 1 rfl) ?_
    refine lv_bipush (v := 8) hx hb d_N_type_42 (by decide) ?_
    refine lv_iload hx hb d_N_type_44 (lv_at hl 2 rfl) ?_
    refine lv_imul hx hb d_N_type_46 ?_
    refine lv_lushr (v := lus y1 ((8 : Int32) * y4)) hx hb d_N_type_47 rfl ?_
    refine lv_l2i (v := (lus y1 ((8 : Int32) * y4)).toInt32) hx hb d_N_type_48 rfl ?_
    refine lv_sipush (v := 255) hx hb d_N_type_49 (by decide) ?_
    refine lv_iand hx hb d_N_type_52 ?_
    obtain ⟨v3, a4, hf, h⟩ := bi2_x h
    refine clVv (D := (dC, dI)) (n := 1) (As := [.int (((lus y1 ((8 : Int32) * y4)).toInt32) &&& (255 : Int32))]) ⟨hx, hb, hml, hown, ht⟩ (c_Tape_add l dC dI X h_this_tape h_this_tape_row c_this_tape_row H.size v_tape_length a_tape_row (((lus y1 ((8 : Int32) * y4)).toInt32) &&& (255 : Int32)) (v3, a4) hf) (gV q_8 q_9 q_10 q_6 q_11) (by decide +kernel) ⟨rfl, rfl, Nat.le_of_ble_eq_true rfl, Nat.le_of_ble_eq_true rfl⟩ hK hP hD hS hA hX [1, 2] [0] [0] rfl (wr := [(h_this, .inr (0, [.ref h_this_tape, .ref g_this_numeral, .ref g_this_room, .ref g_this_exact, .ref g_this_size, .ref g_this_again, .ref g_this_page, .ref g_this_writer, .int v_valueKind, .long v_valueNumber, .int v_valueExponent]))]) rfl (by decide) (by decide) (by decide) rfl (va_recv hK hP (ci := 1) (q0 := 1) rfl rfl) rfl hl.1 rfl (lv_room (Nat.le_of_ble_eq_true rfl)) d_N_type_53 ⟨Nat.zero_le _, Nat.zero_le _⟩ (fun u9 H locs h9 hP hD hS => ?_)
    cases h9
    have hP : va_P (dC, dI) classes (WS_N_type g_this_numeral g_this_room g_this_exact g_this_size g_this_again g_this_page g_this_writer h_this h_this_tape h_this_tape_row c_this_tape_row v_valueKind v_valueNumber v_valueExponent v3 a4) H := hP.sub [0, 1, 2] rfl
    have hD : va_D A (WS_N_type g_this_numeral g_this_room g_this_exact g_this_size g_this_again g_this_page g_this_writer h_this h_this_tape h_this_tape_row c_this_tape_row v_valueKind v_valueNumber v_valueExponent v3 a4) := hD.sub [0, 1, 2] (by decide) rfl
    obtain ⟨x5, e_x5⟩ : ∃ y : Int32, y = y4 + (-1 : Int32) := ⟨_, rfl⟩
    refine lv_iinc (v := x5) (lv' := [(4, .int x5), (0, .ref h_this), (1, .long y1)]) hx hb d_N_type_56 hl (k := 2) rfl (by rw [e_x5]; rfl) (by decide) rfl (fun ls hl => ?_)
    have h := bd_g e_x5 h
    refine lv_goto (tgt := 32) hx hb d_N_type_59 (by decide) ?_
    exact hk32 v3 a4 y1 x5 H locs ls hP hD hS (lv_sub hl [1, 2, 0] rfl) h
set_option maxHeartbeats 4000000 in
set_option maxRecDepth 100000 in
theorem s_N_type_32 {p : Program} {l : Launch} {e : Env} {s : State} {m : MethodId} {args : Array Value} {below : List Frame} {meth : Method} {c : Code} {dC : Nat → ClassId} {dI : Nat → Nat → Nat} {A : Nat → Prop} {X : SXT} {g_this_numeral : Nat} {g_this_room : Nat} {g_this_exact : Nat} {g_this_size : Nat} {g_this_again : Nat} {g_this_page : Nat} {g_this_writer : Nat} {h_this : Nat} {h_this_tape : Nat} {h_this_tape_row : Nat} {c_this_tape_row : ClassId} {v_valueKind : Int32} {v_valueNumber : Int64} {v_valueExponent : Int32} {res : Int32 × Int32 × (Nat → Int32)}  (cx : cxx p s m args meth c b_N_type 5 (some .int) R_N) (hK : va_K (dC, dI) classes [(c_this_tape_row, .byte)] s) (hA : ∀ q, s.heap.size ≤ q → A q) (hX : SX X A s s.heap)  : ∀ n : Nat, ∀ (v_tape_length : Int32) (a_tape_row : (Nat → Int32)) (y1 : Int64) (y4 : Int32) (H : Heap) (locs : List Loc) (ls : Array Slot), va_P (dC, dI) classes (WS_N_type g_this_numeral g_this_room g_this_exact g_this_size g_this_again g_this_page g_this_writer h_this h_this_tape h_this_tape_row c_this_tape_row v_valueKind v_valueNumber v_valueExponent v_tape_length a_tape_row) H → va_D A (WS_N_type g_this_numeral g_this_room g_this_exact g_this_size g_this_again g_this_page g_this_writer h_this h_this_tape h_this_tape_row c_this_tape_row v_valueKind v_valueNumber v_valueExponent v_tape_length a_tape_row) → va_S A s.heap H locs → lv_has ls 5 [(0, .ref h_this), (1, .long y1), (4, .int y4)] → f_N_type_32 n v_tape_length a_tape_row y1 y4 = some res → W p l e ({ frames := 1, cells := 0, slots := 0, locals := 21 }) s m args below meth c H locs 0 0 (MQ below (va_Qi (fun (r : Int32) (u : Int32 × (Nat → Int32)) => some (r, u) = some res) (gB (dC, dI) [(c_this_tape_row, .byte)] A (fun (u : Int32 × (Nat → Int32)) => (WS_N_type g_this_numeral g_this_room g_this_exact g_this_size g_this_again g_this_page g_this_writer h_this h_this_tape h_this_tape_row c_this_tape_row v_valueKind v_valueNumber v_valueExponent u.1 u.2))) A) args s 0 0 A) (F0 m 32 ls []) := by
  intro n
  induction n with
  | zero =>
    intro v_tape_length a_tape_row y1 y4 H locs ls hP hD hS hl h
    have h9 : (none : Option (Int32 × Int32 × (Nat → Int32))) = some res := h
    cases h9
  | succ n ih =>
    intro v_tape_length a_tape_row y1 y4 H locs ls hP hD hS hl h
    exact s_N_type_32b cx hK hA hX ih v_tape_length a_tape_row y1 y4 H locs ls hP hD hS hl h
set_option maxHeartbeats 4000000 in
set_option maxRecDepth 100000 in
theorem s_N_type_e {p : Program} {l : Launch} {e : Env} {s : State} {m : MethodId} {args : Array Value} {below : List Frame} {meth : Method} {c : Code} {dC : Nat → ClassId} {dI : Nat → Nat → Nat} {A : Nat → Prop} {X : SXT} {g_this_numeral : Nat} {g_this_room : Nat} {g_this_exact : Nat} {g_this_size : Nat} {g_this_again : Nat} {g_this_page : Nat} {g_this_writer : Nat} {h_this : Nat} {h_this_tape : Nat} {h_this_tape_row : Nat} {c_this_tape_row : ClassId} {v_valueKind : Int32} {v_valueNumber : Int64} {v_valueExponent : Int32} {res : Int32 × Int32 × (Nat → Int32)} (cx : cxx p s m args meth c b_N_type 5 (some .int) R_N) (hK : va_K (dC, dI) classes [(c_this_tape_row, .byte)] s) (hA : ∀ q, s.heap.size ≤ q → A q) (hX : SX X A s s.heap) : ∀ (v_tape_length : Int32) (a_tape_row : (Nat → Int32)) (p1 : Int64) (p3 : Int32) (H : Heap) (locs : List Loc) (ls : Array Slot), va_P (dC, dI) classes (WS_N_type g_this_numeral g_this_room g_this_exact g_this_size g_this_again g_this_page g_this_writer h_this h_this_tape h_this_tape_row c_this_tape_row v_valueKind v_valueNumber v_valueExponent v_tape_length a_tape_row) H → va_D A (WS_N_type g_this_numeral g_this_room g_this_exact g_this_size g_this_again g_this_page g_this_writer h_this h_this_tape h_this_tape_row c_this_tape_row v_valueKind v_valueNumber v_valueExponent v_tape_length a_tape_row) → va_S A s.heap H locs → lv_has ls 5 [(0, .ref h_this), (1, .long p1), (3, .int p3)] → f_N_type v_tape_length a_tape_row p1 p3 = some res → W p l e ({ frames := 1, cells := 0, slots := 0, locals := 21 }) s m args below meth c H locs 0 0 (MQ below (va_Qi (fun (r : Int32) (u : Int32 × (Nat → Int32)) => some (r, u) = some res) (gB (dC, dI) [(c_this_tape_row, .byte)] A (fun (u : Int32 × (Nat → Int32)) => (WS_N_type g_this_numeral g_this_room g_this_exact g_this_size g_this_again g_this_page g_this_writer h_this h_this_tape h_this_tape_row c_this_tape_row v_valueKind v_valueNumber v_valueExponent u.1 u.2))) A) args s 0 0 A) (F0 m 0 ls []) := by
  intro v_tape_length a_tape_row p1 p3 H locs ls hP hD hS hl h
  obtain ⟨hx, hb, hr, hml, hown, ht, hlk⟩ := id cx
  refine lv_iload_n hx hb d_N_type_0 rfl (lv_at hl 2 rfl) ?_
  refine lv_iconst (v := 1) hx hb d_N_type_1 (by decide) ?_
  refine lv_icmp_lt (tgt := 11) hx hb d_N_type_2 (by decide) (fun c6 => ?_) (fun c6 => ?_)
  · have h := if_t c6 h
    refine lv_iconst (v := -1) hx hb d_N_type_11 (by decide) ?_
    exact W.iret (v := (-1 : Int32)) hx hb hr (fun t ht9 hW => ⟨⟨(-1 : Int32), (v_tape_length, a_tape_row), rfl, h, by rw [ht9]; exact hP, va_K.moved hW.alike hK, hD⟩, hS.F ht9⟩) hS.2.2 d_N_type_12 hlk
  · have h := if_f c6 h
    refine lv_iload_n hx hb d_N_type_5 rfl (lv_at hl 2 rfl) ?_
    refine lv_bipush (v := 8) hx hb d_N_type_6 (by decide) ?_
    refine lv_icmp_le (tgt := 13) hx hb d_N_type_8 (by decide) (fun c7 => ?_) (fun c7 => ?_)
    · have h := if_t c7 h
      refine lv_aload_n hx hb d_N_type_13 rfl (lv_at hl 0 rfl) ?_
      refine va_get (D := (dC, dI)) (ci := 0) (v := .ref h_this_tape) (C := R_N) (T := F_N) (N := 11) hx hb ht i_N hown hK hP 0 rfl rfl 0 (by decide) (ht _ q_2) (fun _ h9 => h9) rfl d_N_type_14 ?_
      refine lv_iload_n hx hb d_N_type_17 rfl (lv_at hl 2 rfl) ?_
      obtain ⟨r8, hf, h⟩ := bi1_x h
      refine clVi (D := (dC, dI)) (n := 1) (As := [.int p3]) ⟨hx, hb, hml, hown, ht⟩ (c_Tape_hasRoomFor l dC dI X h_this_tape_row h_this_tape H.size v_tape_length p3 r8 hf) (gV q_12 q_13 q_14 q_6 q_15) (by decide +kernel) ⟨rfl, rfl, Nat.le_of_ble_eq_true rfl, Nat.le_of_ble_eq_true rfl⟩ hK hP hD hS hA hX [1] [0, 2] [] rfl (wr := [(h_this, .inr (0, [.ref h_this_tape, .ref g_this_numeral, .ref g_this_room, .ref g_this_exact, .ref g_this_size, .ref g_this_again, .ref g_this_page, .ref g_this_writer, .int v_valueKind, .long v_valueNumber, .int v_valueExponent])), (h_this_tape_row, .inl (c_this_tape_row, 1200, .inl a_tape_row))]) rfl (by decide) (by decide) (by decide) rfl (va_recv hK hP (ci := 1) (q0 := 1) rfl rfl) rfl hl.1 rfl (lv_room (Nat.le_of_ble_eq_true rfl)) d_N_type_18 ⟨Nat.zero_le _, Nat.zero_le _⟩ (fun r9 u9 H locs h9 hP hD hS => ?_)
      cases h9
      have hP : va_P (dC, dI) classes (WS_N_type g_this_numeral g_this_room g_this_exact g_this_size g_this_again g_this_page g_this_writer h_this h_this_tape h_this_tape_row c_this_tape_row v_valueKind v_valueNumber v_valueExponent v_tape_length a_tape_row) H := hP.sub [0, 2, 1] rfl
      have hD : va_D A (WS_N_type g_this_numeral g_this_room g_this_exact g_this_size g_this_again g_this_page g_this_writer h_this h_this_tape h_this_tape_row c_this_tape_row v_valueKind v_valueNumber v_valueExponent v_tape_length a_tape_row) := hD.sub [0, 2, 1] (by decide) rfl
      refine lv_if_ne (tgt := 27) hx hb d_N_type_21 (by decide) (fun c9 => ?_) (fun c9 => ?_)
      · have h := if_f c9 h
        refine lv_iload_n hx hb d_N_type_27 rfl (lv_at hl 2 rfl) ?_
        refine lv_iconst (v := 1) hx hb d_N_type_28 (by decide) ?_
        refine lv_isub hx hb d_N_type_29 ?_
        refine lv_topi (fun x10 e_x10 => ?_)
        have h := bd_g e_x10 h
        refine lv_istore (lv' := [(4, .int x10), (0, .ref h_this), (1, .long p1), (3, .int p3)]) hx hb d_N_type_30 hl (by decide) rfl (fun ls hl => ?_)
        exact s_N_type_32 cx hK hA hX fu v_tape_length a_tape_row p1 x10 H locs ls hP hD hS (lv_sub hl [1, 2, 0] rfl) h
      · have h := if_t c9 h
        refine lv_bipush (v := -3) hx hb d_N_type_24 (by decide) ?_
        exact W.iret (v := (-3 : Int32)) hx hb hr (fun t ht9 hW => ⟨⟨(-3 : Int32), (v_tape_length, a_tape_row), rfl, h, by rw [ht9]; exact hP, va_K.moved hW.alike hK, hD⟩, hS.F ht9⟩) hS.2.2 d_N_type_26 hlk
    · have h := if_f c7 h
      refine lv_iconst (v := -1) hx hb d_N_type_11 (by decide) ?_
      exact W.iret (v := (-1 : Int32)) hx hb hr (fun t ht9 hW => ⟨⟨(-1 : Int32), (v_tape_length, a_tape_row), rfl, h, by rw [ht9]; exact hP, va_K.moved hW.alike hK, hD⟩, hS.F ht9⟩) hS.2.2 d_N_type_12 hlk
set_option maxHeartbeats 4000000 in
set_option maxRecDepth 100000 in
theorem c_N_type (l : Launch) (dC : Nat → ClassId) (dI : Nat → Nat → Nat) (X : SXT) (g_this_numeral : Nat) (g_this_room : Nat) (g_this_exact : Nat) (g_this_size : Nat) (g_this_again : Nat) (g_this_page : Nat) (g_this_writer : Nat) (h_this : Nat) (h_this_tape : Nat) (h_this_tape_row : Nat) (c_this_tape_row : ClassId) (sz : Nat) (v_valueKind : Int32) (v_valueNumber : Int64) (v_valueExponent : Int32) (v_tape_length : Int32) (a_tape_row : (Nat → Int32)) (p1 : Int64) (p3 : Int32) (res : Int32 × Int32 × (Nat → Int32)) (hf : f_N_type v_tape_length a_tape_row p1 p3 = some res) : Met l y_N_type (.code y_N_type b_N_type 5 (some .int) :: w0) ({ frames := 1, cells := 0, slots := 0, locals := 21 }) (va_Pc [.ref h_this, .long p1, .int p3] (gP (dC, dI) (WS_N_type g_this_numeral g_this_room g_this_exact g_this_size g_this_again g_this_page g_this_writer h_this h_this_tape h_this_tape_row c_this_tape_row v_valueKind v_valueNumber v_valueExponent v_tape_length a_tape_row) [(c_this_tape_row, .byte)] sz X)) (va_Qi (fun (r : Int32) (u : Int32 × (Nat → Int32)) => some (r, u) = some res) (gB (dC, dI) [(c_this_tape_row, .byte)] (va_A (WS_N_type g_this_numeral g_this_room g_this_exact g_this_size g_this_again g_this_page g_this_writer h_this h_this_tape h_this_tape_row c_this_tape_row v_valueKind v_valueNumber v_valueExponent v_tape_length a_tape_row) sz) (fun (u : Int32 × (Nat → Int32)) => (WS_N_type g_this_numeral g_this_room g_this_exact g_this_size g_this_again g_this_page g_this_writer h_this h_this_tape h_this_tape_row c_this_tape_row v_valueKind v_valueNumber v_valueExponent u.1 u.2))) (va_A (WS_N_type g_this_numeral g_this_room g_this_exact g_this_size g_this_again g_this_page g_this_writer h_this h_this_tape h_this_tape_row c_this_tape_row v_valueKind v_valueNumber v_valueExponent v_tape_length a_tape_row) sz)) 0 0 (va_A (WS_N_type g_this_numeral g_this_room g_this_exact g_this_size g_this_again g_this_page g_this_writer h_this h_this_tape h_this_tape_row c_this_tape_row v_valueKind v_valueNumber v_valueExponent v_tape_length a_tape_row) sz) := by
  refine Met.ofW (cc := b_N_type) (maxL := 5) (ret := (some .int)) (by decide) rfl ?_
  intro p e s m args below meth c s₁ B hml hv
  obtain ⟨rfl, hsz, hP, hK, hD0, hX⟩ := hv
  subst hsz
  have cx : cxx p s m ([.ref h_this, .long p1, .int p3] : List Value).toArray meth c b_N_type 5 (some .int) R_N := ⟨B.exec, B.bytes, B.returns, hml, findClass_of_methodNamed B.named, fun w9 hw => atoms_spec (ws := .code y_N_type b_N_type 5 (some .int) :: w0) B.pre w9 (List.mem_cons_of_mem _ hw), B.notSynchronized⟩
  have hD := hD0.self (sz := s.heap.size)
  generalize hAe : va_A (WS_N_type g_this_numeral g_this_room g_this_exact g_this_size g_this_again g_this_page g_this_writer h_this h_this_tape h_this_tape_row c_this_tape_row v_valueKind v_valueNumber v_valueExponent v_tape_length a_tape_row) s.heap.size = A at hD hX ⊢
  have hA : ∀ q : Nat, s.heap.size ≤ q → A q := fun q h => by rw [← hAe]; exact Or.inr h
  have hS : va_S A s.heap s.heap [] := va_S.rf
  have hl := lv_entry ([.ref h_this, .long p1, .int p3]) (n := 5) (Nat.le_of_ble_eq_true rfl)
  rw [lg_entry_eq]
  generalize (lg_sl ([.ref h_this, .long p1, .int p3]) ++ List.replicate (5 - (lg_sl ([.ref h_this, .long p1, .int p3])).length) Slot.unset).toArray = ls at hl ⊢
  have hl : lv_has ls 5 [(0, .ref h_this), (1, .long p1), (3, .int p3)] := hl
  exact s_N_type_e cx hK hA hX v_tape_length a_tape_row p1 p3 s.heap [] ls hP hD hS hl hf
abbrev WS_Tape_at (h_this : Nat) (h_this_row : Nat) (c_this_row : ClassId) (v_length : Int32) (a_row : (Nat → Int32)) : va_W := [(h_this, .inr (1, [.ref h_this_row, .int v_length])), (h_this_row, .inl (c_this_row, 1200, .inl a_row))]
def f_Tape_at_21 (v_length : Int32) (a_row : (Nat → Int32)) : Option (Int32) :=
  some (-1 : Int32)
def f_Tape_at (v_length : Int32) (a_row : (Nat → Int32)) (p1 : Int32) : Option (Int32) :=
  if p1 < 0 then
    f_Tape_at_21 v_length a_row
  else
    if v_length ≤ p1 then
      f_Tape_at_21 v_length a_row
    else
      if p1 < (1200 : Int32) then
        ck (gin p1 1200) <|
        some ((a_row p1.toNatClampNeg) &&& (255 : Int32))
      else
        f_Tape_at_21 v_length a_row
set_option maxHeartbeats 4000000 in
set_option maxRecDepth 100000 in
theorem s_Tape_at_21 {p : Program} {l : Launch} {e : Env} {s : State} {m : MethodId} {args : Array Value} {below : List Frame} {meth : Method} {c : Code} {dC : Nat → ClassId} {dI : Nat → Nat → Nat} {A : Nat → Prop} {X : SXT} {h_this : Nat} {h_this_row : Nat} {c_this_row : ClassId} {res : Int32}  (cx : cxx p s m args meth c b_Tape_at 2 (some .int) R_Tape) (hK : va_K (dC, dI) classes [(c_this_row, .byte)] s) (hA : ∀ q, s.heap.size ≤ q → A q) (hX : SX X A s s.heap)  : ∀ (v_length : Int32) (a_row : (Nat → Int32)) (H : Heap) (locs : List Loc) (ls : Array Slot), va_P (dC, dI) classes (WS_Tape_at h_this h_this_row c_this_row v_length a_row) H → va_D A (WS_Tape_at h_this h_this_row c_this_row v_length a_row) → va_S A s.heap H locs → lv_has ls 2 [(0, .ref h_this)] → f_Tape_at_21 v_length a_row = some res → W p l e ({ frames := 0, cells := 0, slots := 0, locals := 0 }) s m args below meth c H locs 0 0 (MQ below (va_Qi (fun (r : Int32) (_ : Unit) => some r = some res) (gB (dC, dI) [(c_this_row, .byte)] A (fun (u : Unit) => (WS_Tape_at h_this h_this_row c_this_row v_length a_row))) A) args s 0 0 A) (F0 m 21 ls []) := by
  intro v_length a_row H locs ls hP hD hS hl h
  obtain ⟨hx, hb, hr, hml, hown, ht, hlk⟩ := id cx
  refine lv_iconst (v := -1) hx hb d_Tape_at_21 (by decide) ?_
  refine lv_goto (tgt := 35) hx hb d_Tape_at_22 (by decide) ?_
  exact W.iret (v := (-1 : Int32)) hx hb hr (fun t ht9 hW => ⟨⟨(-1 : Int32), (), rfl, h, by rw [ht9]; exact hP, va_K.moved hW.alike hK, hD⟩, hS.F ht9⟩) hS.2.2 d_Tape_at_35 hlk
set_option maxHeartbeats 4000000 in
set_option maxRecDepth 100000 in
theorem s_Tape_at_e {p : Program} {l : Launch} {e : Env} {s : State} {m : MethodId} {args : Array Value} {below : List Frame} {meth : Method} {c : Code} {dC : Nat → ClassId} {dI : Nat → Nat → Nat} {A : Nat → Prop} {X : SXT} {h_this : Nat} {h_this_row : Nat} {c_this_row : ClassId} {res : Int32} (cx : cxx p s m args meth c b_Tape_at 2 (some .int) R_Tape) (hK : va_K (dC, dI) classes [(c_this_row, .byte)] s) (hA : ∀ q, s.heap.size ≤ q → A q) (hX : SX X A s s.heap) : ∀ (v_length : Int32) (a_row : (Nat → Int32)) (p1 : Int32) (H : Heap) (locs : List Loc) (ls : Array Slot), va_P (dC, dI) classes (WS_Tape_at h_this h_this_row c_this_row v_length a_row) H → va_D A (WS_Tape_at h_this h_this_row c_this_row v_length a_row) → va_S A s.heap H locs → lv_has ls 2 [(0, .ref h_this), (1, .int p1)] → f_Tape_at v_length a_row p1 = some res → W p l e ({ frames := 0, cells := 0, slots := 0, locals := 0 }) s m args below meth c H locs 0 0 (MQ below (va_Qi (fun (r : Int32) (_ : Unit) => some r = some res) (gB (dC, dI) [(c_this_row, .byte)] A (fun (u : Unit) => (WS_Tape_at h_this h_this_row c_this_row v_length a_row))) A) args s 0 0 A) (F0 m 0 ls []) := by
  intro v_length a_row p1 H locs ls hP hD hS hl h
  obtain ⟨hx, hb, hr, hml, hown, ht, hlk⟩ := id cx
  refine lv_iload_n hx hb d_Tape_at_0 rfl (lv_at hl 1 rfl) ?_
  refine lv_if_lt (tgt := 21) hx hb d_Tape_at_1 (by decide) (fun c1 => ?_) (fun c1 => ?_)
  · have h := if_t c1 h
    exact s_Tape_at_21 cx hK hA hX v_length a_row H locs ls hP hD hS (lv_sub hl [0] rfl) h
  · have h := if_f c1 h
    refine lv_iload_n hx hb d_Tape_at_4 rfl (lv_at hl 1 rfl) ?_
    refine lv_aload_n hx hb d_Tape_at_5 rfl (lv_at hl 0 rfl) ?_
    refine va_get (D := (dC, dI)) (ci := 1) (v := .int v_length) (C := R_Tape) (T := F_Tape) (N := 2) hx hb ht i_Tape hown hK hP 0 rfl rfl 1 (by decide) (ht _ q_0) (fun _ h9 => h9) rfl d_Tape_at_6 ?_
    refine lv_icmp_ge (tgt := 21) hx hb d_Tape_at_9 (by decide) (fun c2 => ?_) (fun c2 => ?_)
    · have h := if_t c2 h
      exact s_Tape_at_21 cx hK hA hX v_length a_row H locs ls hP hD hS (lv_sub hl [0] rfl) h
    · have h := if_f c2 h
      refine lv_iload_n hx hb d_Tape_at_12 rfl (lv_at hl 1 rfl) ?_
      refine lv_aload_n hx hb d_Tape_at_13 rfl (lv_at hl 0 rfl) ?_
      refine va_get (D := (dC, dI)) (ci := 1) (v := .ref h_this_row) (C := R_Tape) (T := F_Tape) (N := 2) hx hb ht i_Tape hown hK hP 0 rfl rfl 0 (by decide) (ht _ q_1) (fun _ h9 => h9) rfl d_Tape_at_14 ?_
      refine va_alen (D := (dC, dI)) (v := 1200) hx hb hK hP 1 0 rfl rfl rfl d_Tape_at_17 ?_
      refine lv_icmp_lt (tgt := 25) hx hb d_Tape_at_18 (by decide) (fun c3 => ?_) (fun c3 => ?_)
      · have h := if_t c3 h
        refine lv_aload_n hx hb d_Tape_at_25 rfl (lv_at hl 0 rfl) ?_
        refine va_get (D := (dC, dI)) (ci := 1) (v := .ref h_this_row) (C := R_Tape) (T := F_Tape) (N := 2) hx hb ht i_Tape hown hK hP 0 rfl rfl 0 (by decide) (ht _ q_1) (fun _ h9 => h9) rfl d_Tape_at_26 ?_
        refine lv_iload_n hx hb d_Tape_at_29 rfl (lv_at hl 1 rfl) ?_
        obtain ⟨c4, h⟩ := ck_x h
        refine va_bald (D := (dC, dI)) hx hb hK hP 1 0 rfl rfl c4 d_Tape_at_30 ?_
        refine lv_sipush (v := 255) hx hb d_Tape_at_31 (by decide) ?_
        refine lv_iand hx hb d_Tape_at_34 ?_
        exact W.iret (v := ((a_row p1.toNatClampNeg) &&& (255 : Int32))) hx hb hr (fun t ht9 hW => ⟨⟨((a_row p1.toNatClampNeg) &&& (255 : Int32)), (), rfl, h, by rw [ht9]; exact hP, va_K.moved hW.alike hK, hD⟩, hS.F ht9⟩) hS.2.2 d_Tape_at_35 hlk
      · have h := if_f c3 h
        exact s_Tape_at_21 cx hK hA hX v_length a_row H locs ls hP hD hS (lv_sub hl [0] rfl) h
set_option maxHeartbeats 4000000 in
set_option maxRecDepth 100000 in
theorem c_Tape_at (l : Launch) (dC : Nat → ClassId) (dI : Nat → Nat → Nat) (X : SXT) (h_this : Nat) (h_this_row : Nat) (c_this_row : ClassId) (sz : Nat) (v_length : Int32) (a_row : (Nat → Int32)) (p1 : Int32) (res : Int32) (hf : f_Tape_at v_length a_row p1 = some res) : Met l y_Tape_at (.code y_Tape_at b_Tape_at 2 (some .int) :: w0) ({ frames := 0, cells := 0, slots := 0, locals := 0 }) (va_Pc [.ref h_this, .int p1] (gP (dC, dI) (WS_Tape_at h_this h_this_row c_this_row v_length a_row) [(c_this_row, .byte)] sz X)) (va_Qi (fun (r : Int32) (_ : Unit) => some r = some res) (gB (dC, dI) [(c_this_row, .byte)] (va_A (WS_Tape_at h_this h_this_row c_this_row v_length a_row) sz) (fun (u : Unit) => (WS_Tape_at h_this h_this_row c_this_row v_length a_row))) (va_A (WS_Tape_at h_this h_this_row c_this_row v_length a_row) sz)) 0 0 (va_A (WS_Tape_at h_this h_this_row c_this_row v_length a_row) sz) := by
  refine Met.ofW (cc := b_Tape_at) (maxL := 2) (ret := (some .int)) (by decide) rfl ?_
  intro p e s m args below meth c s₁ B hml hv
  obtain ⟨rfl, hsz, hP, hK, hD0, hX⟩ := hv
  subst hsz
  have cx : cxx p s m ([.ref h_this, .int p1] : List Value).toArray meth c b_Tape_at 2 (some .int) R_Tape := ⟨B.exec, B.bytes, B.returns, hml, findClass_of_methodNamed B.named, fun w9 hw => atoms_spec (ws := .code y_Tape_at b_Tape_at 2 (some .int) :: w0) B.pre w9 (List.mem_cons_of_mem _ hw), B.notSynchronized⟩
  have hD := hD0.self (sz := s.heap.size)
  generalize hAe : va_A (WS_Tape_at h_this h_this_row c_this_row v_length a_row) s.heap.size = A at hD hX ⊢
  have hA : ∀ q : Nat, s.heap.size ≤ q → A q := fun q h => by rw [← hAe]; exact Or.inr h
  have hS : va_S A s.heap s.heap [] := va_S.rf
  have hl := lv_entry ([.ref h_this, .int p1]) (n := 2) (Nat.le_of_ble_eq_true rfl)
  rw [lg_entry_eq]
  generalize (lg_sl ([.ref h_this, .int p1]) ++ List.replicate (2 - (lg_sl ([.ref h_this, .int p1])).length) Slot.unset).toArray = ls at hl ⊢
  have hl : lv_has ls 2 [(0, .ref h_this), (1, .int p1)] := hl
  exact s_Tape_at_e cx hK hA hX v_length a_row p1 s.heap [] ls hP hD hS hl hf
def f_Numeral_isBlank_18  : Option (Int32) :=
  some (1 : Int32)
def f_Numeral_isBlank_12 (y0 : Int32) : Option (Int32) :=
  if y0 = (32 : Int32) then
    f_Numeral_isBlank_18
  else
    some (0 : Int32)
def f_Numeral_isBlank (p0 : Int32) : Option (Int32) :=
  if p0 < (9 : Int32) then
    f_Numeral_isBlank_12 p0
  else
    if p0 ≤ (13 : Int32) then
      f_Numeral_isBlank_18
    else
      f_Numeral_isBlank_12 p0
set_option maxHeartbeats 4000000 in
set_option maxRecDepth 100000 in
theorem s_Numeral_isBlank_18 {p : Program} {l : Launch} {e : Env} {s : State} {m : MethodId} {args : Array Value} {below : List Frame} {meth : Method} {c : Code} {dC : Nat → ClassId} {dI : Nat → Nat → Nat} {A : Nat → Prop} {X : SXT} {res : Int32}  (cx : cxx p s m args meth c b_Numeral_isBlank 1 (some .boolean) R_Numeral) (hK : va_K (dC, dI) classes [] s) (hA : ∀ q, s.heap.size ≤ q → A q) (hX : SX X A s s.heap)  : ∀  (H : Heap) (locs : List Loc) (ls : Array Slot), va_P (dC, dI) classes [] H → va_D A [] → va_S A s.heap H locs → lv_has ls 1 [] → f_Numeral_isBlank_18  = some res → W p l e ({ frames := 0, cells := 0, slots := 0, locals := 0 }) s m args below meth c H locs 0 0 (MQ below (va_Qi (fun (r : Int32) (_ : Unit) => some r = some res) (gB (dC, dI) [] A (fun (u : Unit) => [])) A) args s 0 0 A) (F0 m 18 ls []) := by
  intro  H locs ls hP hD hS hl h
  obtain ⟨hx, hb, hr, hml, hown, ht, hlk⟩ := id cx
  refine lv_iconst (v := 1) hx hb d_Numeral_isBlank_18 (by decide) ?_
  refine lv_goto (tgt := 23) hx hb d_Numeral_isBlank_19 (by decide) ?_
  exact W.zret (v := (1 : Int32)) hx hb hr rfl (fun t ht9 hW => ⟨⟨(1 : Int32), (), rfl, h, by rw [ht9]; exact hP, va_K.moved hW.alike hK, hD⟩, hS.F ht9⟩) hS.2.2 d_Numeral_isBlank_23 hlk
set_option maxHeartbeats 4000000 in
set_option maxRecDepth 100000 in
theorem s_Numeral_isBlank_12 {p : Program} {l : Launch} {e : Env} {s : State} {m : MethodId} {args : Array Value} {below : List Frame} {meth : Method} {c : Code} {dC : Nat → ClassId} {dI : Nat → Nat → Nat} {A : Nat → Prop} {X : SXT} {res : Int32}  (cx : cxx p s m args meth c b_Numeral_isBlank 1 (some .boolean) R_Numeral) (hK : va_K (dC, dI) classes [] s) (hA : ∀ q, s.heap.size ≤ q → A q) (hX : SX X A s s.heap)  : ∀ (y0 : Int32) (H : Heap) (locs : List Loc) (ls : Array Slot), va_P (dC, dI) classes [] H → va_D A [] → va_S A s.heap H locs → lv_has ls 1 [(0, .int y0)] → f_Numeral_isBlank_12 y0 = some res → W p l e ({ frames := 0, cells := 0, slots := 0, locals := 0 }) s m args below meth c H locs 0 0 (MQ below (va_Qi (fun (r : Int32) (_ : Unit) => some r = some res) (gB (dC, dI) [] A (fun (u : Unit) => [])) A) args s 0 0 A) (F0 m 12 ls []) := by
  intro y0 H locs ls hP hD hS hl h
  obtain ⟨hx, hb, hr, hml, hown, ht, hlk⟩ := id cx
  refine lv_iload_n hx hb d_Numeral_isBlank_12 rfl (lv_at hl 0 rfl) ?_
  refine lv_bipush (v := 32) hx hb d_Numeral_isBlank_13 (by decide) ?_
  refine lv_icmp_ne (tgt := 22) hx hb d_Numeral_isBlank_15 (by decide) (fun c1 => ?_) (fun c1 => ?_)
  · have h := if_f c1 h
    refine lv_iconst (v := 0) hx hb d_Numeral_isBlank_22 (by decide) ?_
    exact W.zret (v := (0 : Int32)) hx hb hr rfl (fun t ht9 hW => ⟨⟨(0 : Int32), (), rfl, h, by rw [ht9]; exact hP, va_K.moved hW.alike hK, hD⟩, hS.F ht9⟩) hS.2.2 d_Numeral_isBlank_23 hlk
  · have h := if_t c1 h
    exact s_Numeral_isBlank_18 cx hK hA hX  H locs ls hP hD hS (lv_sub hl [] rfl) h
set_option maxHeartbeats 4000000 in
set_option maxRecDepth 100000 in
theorem s_Numeral_isBlank_e {p : Program} {l : Launch} {e : Env} {s : State} {m : MethodId} {args : Array Value} {below : List Frame} {meth : Method} {c : Code} {dC : Nat → ClassId} {dI : Nat → Nat → Nat} {A : Nat → Prop} {X : SXT} {res : Int32} (cx : cxx p s m args meth c b_Numeral_isBlank 1 (some .boolean) R_Numeral) (hK : va_K (dC, dI) classes [] s) (hA : ∀ q, s.heap.size ≤ q → A q) (hX : SX X A s s.heap) : ∀ (p0 : Int32) (H : Heap) (locs : List Loc) (ls : Array Slot), va_P (dC, dI) classes [] H → va_D A [] → va_S A s.heap H locs → lv_has ls 1 [(0, .int p0)] → f_Numeral_isBlank p0 = some res → W p l e ({ frames := 0, cells := 0, slots := 0, locals := 0 }) s m args below meth c H locs 0 0 (MQ below (va_Qi (fun (r : Int32) (_ : Unit) => some r = some res) (gB (dC, dI) [] A (fun (u : Unit) => [])) A) args s 0 0 A) (F0 m 0 ls []) := by
  intro p0 H locs ls hP hD hS hl h
  obtain ⟨hx, hb, hr, hml, hown, ht, hlk⟩ := id cx
  refine lv_iload_n hx hb d_Numeral_isBlank_0 rfl (lv_at hl 0 rfl) ?_
  refine lv_bipush (v := 9) hx hb d_Numeral_isBlank_1 (by decide) ?_
  refine lv_icmp_lt (tgt := 12) hx hb d_Numeral_isBlank_3 (by decide) (fun c2 => ?_) (fun c2 => ?_)
  · have h := if_t c2 h
    exact s_Numeral_isBlank_12 cx hK hA hX p0 H locs ls hP hD hS (lv_sub hl [0] rfl) h
  · have h := if_f c2 h
    refine lv_iload_n hx hb d_Numeral_isBlank_6 rfl (lv_at hl 0 rfl) ?_
    refine lv_bipush (v := 13) hx hb d_Numeral_isBlank_7 (by decide) ?_
    refine lv_icmp_le (tgt := 18) hx hb d_Numeral_isBlank_9 (by decide) (fun c3 => ?_) (fun c3 => ?_)
    · have h := if_t c3 h
      exact s_Numeral_isBlank_18 cx hK hA hX  H locs ls hP hD hS (lv_sub hl [] rfl) h
    · have h := if_f c3 h
      exact s_Numeral_isBlank_12 cx hK hA hX p0 H locs ls hP hD hS (lv_sub hl [0] rfl) h
set_option maxHeartbeats 4000000 in
set_option maxRecDepth 100000 in
theorem c_Numeral_isBlank (l : Launch) (dC : Nat → ClassId) (dI : Nat → Nat → Nat) (X : SXT) (sz : Nat) (p0 : Int32) (res : Int32) (hf : f_Numeral_isBlank p0 = some res) : Met l y_Numeral_isBlank (.code y_Numeral_isBlank b_Numeral_isBlank 1 (some .boolean) :: w0) ({ frames := 0, cells := 0, slots := 0, locals := 0 }) (va_Pc [.int p0] (gP (dC, dI) [] [] sz X)) (va_Qi (fun (r : Int32) (_ : Unit) => some r = some res) (gB (dC, dI) [] (va_A [] sz) (fun (u : Unit) => [])) (va_A [] sz)) 0 0 (va_A [] sz) := by
  refine Met.ofW (cc := b_Numeral_isBlank) (maxL := 1) (ret := (some .boolean)) (by decide) rfl ?_
  intro p e s m args below meth c s₁ B hml hv
  obtain ⟨rfl, hsz, hP, hK, hD0, hX⟩ := hv
  subst hsz
  have cx : cxx p s m ([.int p0] : List Value).toArray meth c b_Numeral_isBlank 1 (some .boolean) R_Numeral := ⟨B.exec, B.bytes, B.returns, hml, findClass_of_methodNamed B.named, fun w9 hw => atoms_spec (ws := .code y_Numeral_isBlank b_Numeral_isBlank 1 (some .boolean) :: w0) B.pre w9 (List.mem_cons_of_mem _ hw), B.notSynchronized⟩
  have hD := hD0.self (sz := s.heap.size)
  generalize hAe : va_A [] s.heap.size = A at hD hX ⊢
  have hA : ∀ q : Nat, s.heap.size ≤ q → A q := fun q h => by rw [← hAe]; exact Or.inr h
  have hS : va_S A s.heap s.heap [] := va_S.rf
  have hl := lv_entry ([.int p0]) (n := 1) (Nat.le_of_ble_eq_true rfl)
  rw [lg_entry_eq]
  generalize (lg_sl ([.int p0]) ++ List.replicate (1 - (lg_sl ([.int p0])).length) Slot.unset).toArray = ls at hl ⊢
  have hl : lv_has ls 1 [(0, .int p0)] := hl
  exact s_Numeral_isBlank_e cx hK hA hX p0 s.heap [] ls hP hD hS hl hf
abbrev WS_Numeral_passBlanks (h_this : Nat) (h_this_tape : Nat) (h_this_tape_row : Nat) (c_this_tape_row : ClassId) (v_next : Int32) (v_negative : Int32) (v_sixteen : Int32) (v_hasPoint : Int32) (v_hasPower : Int32) (v_from : Int32) (v_to : Int32) (v_before : Int32) (v_digits : Int32) (v_power : Int32) (v_found : Int64) (v_tape_length : Int32) (a_tape_row : (Nat → Int32)) : va_W := [(h_this, .inr (2, [.ref h_this_tape, .int v_next, .int v_negative, .int v_sixteen, .int v_hasPoint, .int v_hasPower, .int v_from, .int v_to, .int v_before, .int v_digits, .int v_power, .long v_found])), (h_this_tape, .inr (1, [.ref h_this_tape_row, .int v_tape_length])), (h_this_tape_row, .inl (c_this_tape_row, 1200, .inl a_tape_row))]
def f_Numeral_passBlanks_8b (k8 : Int32 → Int32 → (Nat → Int32) → Int32 → Option (Int32)) (v_next : Int32) (v_tape_length : Int32) (a_tape_row : (Nat → Int32)) (y1 : Int32) : Option (Int32) :=
  if y1 ≤ v_next then
    some v_next
  else
    bi1 (f_Tape_at v_tape_length a_tape_row v_next) fun r2 =>
    bi1 (f_Numeral_isBlank r2) fun r3 =>
    if r3 = 0 then
      some v_next
    else
      bd (v_next + (1 : Int32)) fun x5 =>
      k8 x5 v_tape_length a_tape_row y1
def f_Numeral_passBlanks_8 : Nat → Int32 → Int32 → (Nat → Int32) → Int32 → Option (Int32)
  | 0 => fun _ _ _ _ => none
  | n + 1 => fun v_next v_tape_length a_tape_row y1 => f_Numeral_passBlanks_8b (f_Numeral_passBlanks_8 n) v_next v_tape_length a_tape_row y1
def f_Numeral_passBlanks (v_next : Int32) (v_tape_length : Int32) (a_tape_row : (Nat → Int32)) : Option (Int32) :=
  bi1 (f_Tape_length v_tape_length) fun r6 =>
  f_Numeral_passBlanks_8 fu v_next v_tape_length a_tape_row r6
set_option maxHeartbeats 4000000 in
set_option maxRecDepth 100000 in
theorem s_Numeral_passBlanks_8b {p : Program} {l : Launch} {e : Env} {s : State} {m : MethodId} {args : Array Value} {below : List Frame} {meth : Method} {c : Code} {dC : Nat → ClassId} {dI : Nat → Nat → Nat} {A : Nat → Prop} {X : SXT} {h_this : Nat} {h_this_tape : Nat} {h_this_tape_row : Nat} {c_this_tape_row : ClassId} {v_negative : Int32} {v_sixteen : Int32} {v_hasPoint : Int32} {v_hasPower : Int32} {v_from : Int32} {v_to : Int32} {v_before : Int32} {v_digits : Int32} {v_power : Int32} {v_found : Int64} {res : Int32} {k8 : Int32 → Int32 → (Nat → Int32) → Int32 → Option (Int32)} (cx : cxx p s m args meth c b_Numeral_passBlanks 2 none R_Numeral) (hK : va_K (dC, dI) classes [(c_this_tape_row, .byte)] s) (hA : ∀ q, s.heap.size ≤ q → A q) (hX : SX X A s s.heap) (hk8 : ∀ (v_next : Int32) (v_tape_length : Int32) (a_tape_row : (Nat → Int32)) (y1 : Int32) (H : Heap) (locs : List Loc) (ls : Array Slot), va_P (dC, dI) classes (WS_Numeral_passBlanks h_this h_this_tape h_this_tape_row c_this_tape_row v_next v_negative v_sixteen v_hasPoint v_hasPower v_from v_to v_before v_digits v_power v_found v_tape_length a_tape_row) H → va_D A (WS_Numeral_passBlanks h_this h_this_tape h_this_tape_row c_this_tape_row v_next v_negative v_sixteen v_hasPoint v_hasPower v_from v_to v_before v_digits v_power v_found v_tape_length a_tape_row) → va_S A s.heap H locs → lv_has ls 2 [(0, .ref h_this), (1, .int y1)] → k8 v_next v_tape_length a_tape_row y1 = some res → W p l e ({ frames := 1, cells := 0, slots := 0, locals := 21 }) s m args below meth c H locs 0 0 (MQ below (va_Qv (fun (u : Int32) => some u = some res) (gB (dC, dI) [(c_this_tape_row, .byte)] A (fun (u : Int32) => (WS_Numeral_passBlanks h_this h_this_tape h_this_tape_row c_this_tape_row u v_negative v_sixteen v_hasPoint v_hasPower v_from v_to v_before v_digits v_power v_found v_tape_length a_tape_row))) A) args s 0 0 A) (F0 m 8 ls [])) : ∀ (v_next : Int32) (v_tape_length : Int32) (a_tape_row : (Nat → Int32)) (y1 : Int32) (H : Heap) (locs : List Loc) (ls : Array Slot), va_P (dC, dI) classes (WS_Numeral_passBlanks h_this h_this_tape h_this_tape_row c_this_tape_row v_next v_negative v_sixteen v_hasPoint v_hasPower v_from v_to v_before v_digits v_power v_found v_tape_length a_tape_row) H → va_D A (WS_Numeral_passBlanks h_this h_this_tape h_this_tape_row c_this_tape_row v_next v_negative v_sixteen v_hasPoint v_hasPower v_from v_to v_before v_digits v_power v_found v_tape_length a_tape_row) → va_S A s.heap H locs → lv_has ls 2 [(0, .ref h_this), (1, .int y1)] → f_Numeral_passBlanks_8b k8 v_next v_tape_length a_tape_row y1 = some res → W p l e ({ frames := 1, cells := 0, slots := 0, locals := 21 }) s m args below meth c H locs 0 0 (MQ below (va_Qv (fun (u : Int32) => some u = some res) (gB (dC, dI) [(c_this_tape_row, .byte)] A (fun (u : Int32) => (WS_Numeral_passBlanks h_this h_this_tape h_this_tape_row c_this_tape_row u v_negative v_sixteen v_hasPoint v_hasPower v_from v_to v_before v_digits v_power v_found v_tape_length a_tape_row))) A) args s 0 0 A) (F0 m 8 ls []) := by
  intro v_next v_tape_length a_tape_row y1 H locs ls hP hD hS hl h
  obtain ⟨hx, hb, hr, hml, hown, ht, hlk⟩ := id cx
  refine lv_aload_n hx hb d_Numeral_passBlanks_8 rfl (lv_at hl 0 rfl) ?_
  refine va_get (D := (dC, dI)) (ci := 2) (v := .int v_next) (C := R_Numeral) (T := F_Numeral) (N := 12) hx hb ht i_Numeral hown hK hP 0 rfl rfl 1 (by decide) (ht _ q_16) (fun _ h9 => h9) rfl d_Numeral_passBlanks_9 ?_
  refine lv_iload_n hx hb d_Numeral_passBlanks_12 rfl (lv_at hl 1 rfl) ?_
  refine lv_icmp_ge (tgt := 46) hx hb d_Numeral_passBlanks_13 (by decide) (fun c1 => ?_) (fun c1 => ?_)
  · have h := if_t c1 h
    exact W.vret hx hb hr (fun t ht9 hW => ⟨⟨v_next, rfl, h, by rw [ht9]; exact hP, va_K.moved hW.alike hK, hD⟩, hS.F ht9⟩) hS.2.2 d_Numeral_passBlanks_46 hlk
  · have h := if_f c1 h
    refine lv_aload_n hx hb d_Numeral_passBlanks_16 rfl (lv_at hl 0 rfl) ?_
    refine va_get (D := (dC, dI)) (ci := 2) (v := .ref h_this_tape) (C := R_Numeral) (T := F_Numeral) (N := 12) hx hb ht i_Numeral hown hK hP 0 rfl rfl 0 (by decide) (ht _ q_17) (fun _ h9 => h9) rfl d_Numeral_passBlanks_17 ?_
    refine lv_aload_n hx hb d_Numeral_passBlanks_20 rfl (lv_at hl 0 rfl) ?_
    refine va_get (D := (dC, dI)) (ci := 2) (v := .int v_next) (C := R_Numeral) (T := F_Numeral) (N := 12) hx hb ht i_Numeral hown hK hP 0 rfl rfl 1 (by decide) (ht _ q_16) (fun _ h9 => h9) rfl d_Numeral_passBlanks_21 ?_
    obtain ⟨r2, hf, h⟩ := bi1_x h
    refine clVi (D := (dC, dI)) (n := 1) (As := [.int v_next]) ⟨hx, hb, hml, hown, ht⟩ (c_Tape_at l dC dI X h_this_tape h_this_tape_row c_this_tape_row H.size v_tape_length a_tape_row v_next r2 hf) (gV q_18 q_19 q_20 q_6 q_21) (by decide +kernel) ⟨rfl, rfl, Nat.le_of_ble_eq_true rfl, Nat.le_of_ble_eq_true rfl⟩ hK hP hD hS hA hX [1, 2] [0] [0] rfl (wr := [(h_this, .inr (2, [.ref h_this_tape, .int v_next, .int v_negative, .int v_sixteen, .int v_hasPoint, .int v_hasPower, .int v_from, .int v_to, .int v_before, .int v_digits, .int v_power, .long v_found]))]) rfl (by decide) (by decide) (by decide) rfl (va_recv hK hP (ci := 1) (q0 := 1) rfl rfl) rfl hl.1 rfl (lv_room (Nat.le_of_ble_eq_true rfl)) d_Numeral_passBlanks_24 ⟨Nat.zero_le _, Nat.zero_le _⟩ (fun r9 u9 H locs h9 hP hD hS => ?_)
    cases h9
    have hP : va_P (dC, dI) classes (WS_Numeral_passBlanks h_this h_this_tape h_this_tape_row c_this_tape_row v_next v_negative v_sixteen v_hasPoint v_hasPower v_from v_to v_before v_digits v_power v_found v_tape_length a_tape_row) H := hP.sub [0, 1, 2] rfl
    have hD : va_D A (WS_Numeral_passBlanks h_this h_this_tape h_this_tape_row c_this_tape_row v_next v_negative v_sixteen v_hasPoint v_hasPower v_from v_to v_before v_digits v_power v_found v_tape_length a_tape_row) := hD.sub [0, 1, 2] (by decide) rfl
    obtain ⟨r3, hf, h⟩ := bi1_x h
    refine clSi (D := (dC, dI)) (n := 1) (As := [.int r2]) ⟨hx, hb, hml, hown, ht⟩ (c_Numeral_isBlank l dC dI X  H.size r2 r3 hf) (gS q_22 q_23 q_24 q_25) (by decide +kernel) ⟨rfl, rfl, Nat.le_of_ble_eq_true rfl, Nat.le_of_ble_eq_true rfl⟩ hK hP hD hS hA hX [] [0, 1, 2] [] rfl (wr := [(h_this, .inr (2, [.ref h_this_tape, .int v_next, .int v_negative, .int v_sixteen, .int v_hasPoint, .int v_hasPower, .int v_from, .int v_to, .int v_before, .int v_digits, .int v_power, .long v_found])), (h_this_tape, .inr (1, [.ref h_this_tape_row, .int v_tape_length])), (h_this_tape_row, .inl (c_this_tape_row, 1200, .inl a_tape_row))]) rfl (by decide) (by decide) (by decide) rfl rfl hl.1 rfl (lv_room (Nat.le_of_ble_eq_true rfl)) d_Numeral_passBlanks_27 ⟨Nat.zero_le _, Nat.zero_le _⟩ (fun r9 u9 H locs h9 hP hD hS => ?_)
    cases h9
    have hP : va_P (dC, dI) classes (WS_Numeral_passBlanks h_this h_this_tape h_this_tape_row c_this_tape_row v_next v_negative v_sixteen v_hasPoint v_hasPower v_from v_to v_before v_digits v_power v_found v_tape_length a_tape_row) H := hP.sub [0, 1, 2] rfl
    have hD : va_D A (WS_Numeral_passBlanks h_this h_this_tape h_this_tape_row c_this_tape_row v_next v_negative v_sixteen v_hasPoint v_hasPower v_from v_to v_before v_digits v_power v_found v_tape_length a_tape_row) := hD.sub [0, 1, 2] (by decide) rfl
    refine lv_if_eq (tgt := 46) hx hb d_Numeral_passBlanks_30 (by decide) (fun c4 => ?_) (fun c4 => ?_)
    · have h := if_t c4 h
      exact W.vret hx hb hr (fun t ht9 hW => ⟨⟨v_next, rfl, h, by rw [ht9]; exact hP, va_K.moved hW.alike hK, hD⟩, hS.F ht9⟩) hS.2.2 d_Numeral_passBlanks_46 hlk
    · have h := if_f c4 h
      refine lv_aload_n hx hb d_Numeral_passBlanks_33 rfl (lv_at hl 0 rfl) ?_
      refine lv_dup hx hb d_Numeral_passBlanks_34 rfl ?_
      refine va_get (D := (dC, dI)) (ci := 2) (v := .int v_next) (C := R_Numeral) (T := F_Numeral) (N := 12) hx hb ht i_Numeral hown hK hP 0 rfl rfl 1 (by decide) (ht _ q_16) (fun _ h9 => h9) rfl d_Numeral_passBlanks_35 ?_
      refine lv_iconst (v := 1) hx hb d_Numeral_passBlanks_38 (by decide) ?_
      refine lv_iadd hx hb d_Numeral_passBlanks_39 ?_
      refine lv_topi (fun x5 e_x5 => ?_)
      have h := bd_g e_x5 h
      refine va_put (D := (dC, dI)) (ci := 2) (v := .int x5) (ty := .int) (C := R_Numeral) (T := F_Numeral) (N := 12) hx hb ht i_Numeral t_Numeral t_Numeral_ok n_Numeral hown hK hP hD hS 0 rfl rfl 1 (by decide) (ht _ q_16) (fun _ h9 => h9) rfl (t_Numeral_ok 1 (by decide)) rfl rfl (Nat.le_of_ble_eq_true rfl) d_Numeral_passBlanks_40 (fun H locs hP hD hS => ?_)
      have hP : va_P (dC, dI) classes (WS_Numeral_passBlanks h_this h_this_tape h_this_tape_row c_this_tape_row x5 v_negative v_sixteen v_hasPoint v_hasPower v_from v_to v_before v_digits v_power v_found v_tape_length a_tape_row) H := hP
      have hD : va_D A (WS_Numeral_passBlanks h_this h_this_tape h_this_tape_row c_this_tape_row x5 v_negative v_sixteen v_hasPoint v_hasPower v_from v_to v_before v_digits v_power v_found v_tape_length a_tape_row) := hD
      refine lv_goto (tgt := 8) hx hb d_Numeral_passBlanks_43 (by decide) ?_
      exact hk8 x5 v_tape_length a_tape_row y1 H locs ls hP hD hS (lv_sub hl [0, 1] rfl) h
set_option maxHeartbeats 4000000 in
set_option maxRecDepth 100000 in
theorem s_Numeral_passBlanks_8 {p : Program} {l : Launch} {e : Env} {s : State} {m : MethodId} {args : Array Value} {below : List Frame} {meth : Method} {c : Code} {dC : Nat → ClassId} {dI : Nat → Nat → Nat} {A : Nat → Prop} {X : SXT} {h_this : Nat} {h_this_tape : Nat} {h_this_tape_row : Nat} {c_this_tape_row : ClassId} {v_negative : Int32} {v_sixteen : Int32} {v_hasPoint : Int32} {v_hasPower : Int32} {v_from : Int32} {v_to : Int32} {v_before : Int32} {v_digits : Int32} {v_power : Int32} {v_found : Int64} {res : Int32}  (cx : cxx p s m args meth c b_Numeral_passBlanks 2 none R_Numeral) (hK : va_K (dC, dI) classes [(c_this_tape_row, .byte)] s) (hA : ∀ q, s.heap.size ≤ q → A q) (hX : SX X A s s.heap)  : ∀ n : Nat, ∀ (v_next : Int32) (v_tape_length : Int32) (a_tape_row : (Nat → Int32)) (y1 : Int32) (H : Heap) (locs : List Loc) (ls : Array Slot), va_P (dC, dI) classes (WS_Numeral_passBlanks h_this h_this_tape h_this_tape_row c_this_tape_row v_next v_negative v_sixteen v_hasPoint v_hasPower v_from v_to v_before v_digits v_power v_found v_tape_length a_tape_row) H → va_D A (WS_Numeral_passBlanks h_this h_this_tape h_this_tape_row c_this_tape_row v_next v_negative v_sixteen v_hasPoint v_hasPower v_from v_to v_before v_digits v_power v_found v_tape_length a_tape_row) → va_S A s.heap H locs → lv_has ls 2 [(0, .ref h_this), (1, .int y1)] → f_Numeral_passBlanks_8 n v_next v_tape_length a_tape_row y1 = some res → W p l e ({ frames := 1, cells := 0, slots := 0, locals := 21 }) s m args below meth c H locs 0 0 (MQ below (va_Qv (fun (u : Int32) => some u = some res) (gB (dC, dI) [(c_this_tape_row, .byte)] A (fun (u : Int32) => (WS_Numeral_passBlanks h_this h_this_tape h_this_tape_row c_this_tape_row u v_negative v_sixteen v_hasPoint v_hasPower v_from v_to v_before v_digits v_power v_found v_tape_length a_tape_row))) A) args s 0 0 A) (F0 m 8 ls []) := by
  intro n
  induction n with
  | zero =>
    intro v_next v_tape_length a_tape_row y1 H locs ls hP hD hS hl h
    have h9 : (none : Option (Int32)) = some res := h
    cases h9
  | succ n ih =>
    intro v_next v_tape_length a_tape_row y1 H locs ls hP hD hS hl h
    exact s_Numeral_passBlanks_8b cx hK hA hX ih v_next v_tape_length a_tape_row y1 H locs ls hP hD hS hl h
set_option maxHeartbeats 4000000 in
set_option maxRecDepth 100000 in
theorem s_Numeral_passBlanks_e {p : Program} {l : Launch} {e : Env} {s : State} {m : MethodId} {args : Array Value} {below : List Frame} {meth : Method} {c : Code} {dC : Nat → ClassId} {dI : Nat → Nat → Nat} {A : Nat → Prop} {X : SXT} {h_this : Nat} {h_this_tape : Nat} {h_this_tape_row : Nat} {c_this_tape_row : ClassId} {v_negative : Int32} {v_sixteen : Int32} {v_hasPoint : Int32} {v_hasPower : Int32} {v_from : Int32} {v_to : Int32} {v_before : Int32} {v_digits : Int32} {v_power : Int32} {v_found : Int64} {res : Int32} (cx : cxx p s m args meth c b_Numeral_passBlanks 2 none R_Numeral) (hK : va_K (dC, dI) classes [(c_this_tape_row, .byte)] s) (hA : ∀ q, s.heap.size ≤ q → A q) (hX : SX X A s s.heap) : ∀ (v_next : Int32) (v_tape_length : Int32) (a_tape_row : (Nat → Int32)) (H : Heap) (locs : List Loc) (ls : Array Slot), va_P (dC, dI) classes (WS_Numeral_passBlanks h_this h_this_tape h_this_tape_row c_this_tape_row v_next v_negative v_sixteen v_hasPoint v_hasPower v_from v_to v_before v_digits v_power v_found v_tape_length a_tape_row) H → va_D A (WS_Numeral_passBlanks h_this h_this_tape h_this_tape_row c_this_tape_row v_next v_negative v_sixteen v_hasPoint v_hasPower v_from v_to v_before v_digits v_power v_found v_tape_length a_tape_row) → va_S A s.heap H locs → lv_has ls 2 [(0, .ref h_this)] → f_Numeral_passBlanks v_next v_tape_length a_tape_row = some res → W p l e ({ frames := 1, cells := 0, slots := 0, locals := 21 }) s m args below meth c H locs 0 0 (MQ below (va_Qv (fun (u : Int32) => some u = some res) (gB (dC, dI) [(c_this_tape_row, .byte)] A (fun (u : Int32) => (WS_Numeral_passBlanks h_this h_this_tape h_this_tape_row c_this_tape_row u v_negative v_sixteen v_hasPoint v_hasPower v_from v_to v_before v_digits v_power v_found v_tape_length a_tape_row))) A) args s 0 0 A) (F0 m 0 ls []) := by
  intro v_next v_tape_length a_tape_row H locs ls hP hD hS hl h
  obtain ⟨hx, hb, hr, hml, hown, ht, hlk⟩ := id cx
  refine lv_aload_n hx hb d_Numeral_passBlanks_0 rfl (lv_at hl 0 rfl) ?_
  refine va_get (D := (dC, dI)) (ci := 2) (v := .ref h_this_tape) (C := R_Numeral) (T := F_Numeral) (N := 12) hx hb ht i_Numeral hown hK hP 0 rfl rfl 0 (by decide) (ht _ q_17) (fun _ h9 => h9) rfl d_Numeral_passBlanks_1 ?_
  obtain ⟨r6, hf, h⟩ := bi1_x h
  refine clVi (D := (dC, dI)) (n := 0) (As := []) ⟨hx, hb, hml, hown, ht⟩ (c_Tape_length l dC dI X h_this_tape_row h_this_tape H.size v_tape_length r6 hf) (gV q_26 q_4 q_5 q_6 q_7) (by decide +kernel) ⟨rfl, rfl, Nat.le_of_ble_eq_true rfl, Nat.le_of_ble_eq_true rfl⟩ hK hP hD hS hA hX [1] [0, 2] [] rfl (wr := [(h_this, .inr (2, [.ref h_this_tape, .int v_next, .int v_negative, .int v_sixteen, .int v_hasPoint, .int v_hasPower, .int v_from, .int v_to, .int v_before, .int v_digits, .int v_power, .long v_found])), (h_this_tape_row, .inl (c_this_tape_row, 1200, .inl a_tape_row))]) rfl (by decide) (by decide) (by decide) rfl (va_recv hK hP (ci := 1) (q0 := 1) rfl rfl) rfl hl.1 rfl (lv_room (Nat.le_of_ble_eq_true rfl)) d_Numeral_passBlanks_4 ⟨Nat.zero_le _, Nat.zero_le _⟩ (fun r9 u9 H locs h9 hP hD hS => ?_)
  cases h9
  have hP : va_P (dC, dI) classes (WS_Numeral_passBlanks h_this h_this_tape h_this_tape_row c_this_tape_row v_next v_negative v_sixteen v_hasPoint v_hasPower v_from v_to v_before v_digits v_power v_found v_tape_length a_tape_row) H := hP.sub [0, 2, 1] rfl
  have hD : va_D A (WS_Numeral_passBlanks h_this h_this_tape h_this_tape_row c_this_tape_row v_next v_negative v_sixteen v_hasPoint v_hasPower v_from v_to v_before v_digits v_power v_found v_tape_length a_tape_row) := hD.sub [0, 2, 1] (by decide) rfl
  refine lv_istore_n (lv' := [(1, .int r6), (0, .ref h_this)]) hx hb d_Numeral_passBlanks_7 rfl hl (by decide) rfl (fun ls hl => ?_)
  exact s_Numeral_passBlanks_8 cx hK hA hX fu v_next v_tape_length a_tape_row r6 H locs ls hP hD hS (lv_sub hl [1, 0] rfl) h
set_option maxHeartbeats 4000000 in
set_option maxRecDepth 100000 in
theorem c_Numeral_passBlanks (l : Launch) (dC : Nat → ClassId) (dI : Nat → Nat → Nat) (X : SXT) (h_this : Nat) (h_this_tape : Nat) (h_this_tape_row : Nat) (c_this_tape_row : ClassId) (sz : Nat) (v_next : Int32) (v_negative : Int32) (v_sixteen : Int32) (v_hasPoint : Int32) (v_hasPower : Int32) (v_from : Int32) (v_to : Int32) (v_before : Int32) (v_digits : Int32) (v_power : Int32) (v_found : Int64) (v_tape_length : Int32) (a_tape_row : (Nat → Int32)) (res : Int32) (hf : f_Numeral_passBlanks v_next v_tape_length a_tape_row = some res) : Met l y_Numeral_passBlanks (.code y_Numeral_passBlanks b_Numeral_passBlanks 2 none :: w0) ({ frames := 1, cells := 0, slots := 0, locals := 21 }) (va_Pc [.ref h_this] (gP (dC, dI) (WS_Numeral_passBlanks h_this h_this_tape h_this_tape_row c_this_tape_row v_next v_negative v_sixteen v_hasPoint v_hasPower v_from v_to v_before v_digits v_power v_found v_tape_length a_tape_row) [(c_this_tape_row, .byte)] sz X)) (va_Qv (fun (u : Int32) => some u = some res) (gB (dC, dI) [(c_this_tape_row, .byte)] (va_A (WS_Numeral_passBlanks h_this h_this_tape h_this_tape_row c_this_tape_row v_next v_negative v_sixteen v_hasPoint v_hasPower v_from v_to v_before v_digits v_power v_found v_tape_length a_tape_row) sz) (fun (u : Int32) => (WS_Numeral_passBlanks h_this h_this_tape h_this_tape_row c_this_tape_row u v_negative v_sixteen v_hasPoint v_hasPower v_from v_to v_before v_digits v_power v_found v_tape_length a_tape_row))) (va_A (WS_Numeral_passBlanks h_this h_this_tape h_this_tape_row c_this_tape_row v_next v_negative v_sixteen v_hasPoint v_hasPower v_from v_to v_before v_digits v_power v_found v_tape_length a_tape_row) sz)) 0 0 (va_A (WS_Numeral_passBlanks h_this h_this_tape h_this_tape_row c_this_tape_row v_next v_negative v_sixteen v_hasPoint v_hasPower v_from v_to v_before v_digits v_power v_found v_tape_length a_tape_row) sz) := by
  refine Met.ofW (cc := b_Numeral_passBlanks) (maxL := 2) (ret := none) (by decide) rfl ?_
  intro p e s m args below meth c s₁ B hml hv
  obtain ⟨rfl, hsz, hP, hK, hD0, hX⟩ := hv
  subst hsz
  have cx : cxx p s m ([.ref h_this] : List Value).toArray meth c b_Numeral_passBlanks 2 none R_Numeral := ⟨B.exec, B.bytes, B.returns, hml, findClass_of_methodNamed B.named, fun w9 hw => atoms_spec (ws := .code y_Numeral_passBlanks b_Numeral_passBlanks 2 none :: w0) B.pre w9 (List.mem_cons_of_mem _ hw), B.notSynchronized⟩
  have hD := hD0.self (sz := s.heap.size)
  generalize hAe : va_A (WS_Numeral_passBlanks h_this h_this_tape h_this_tape_row c_this_tape_row v_next v_negative v_sixteen v_hasPoint v_hasPower v_from v_to v_before v_digits v_power v_found v_tape_length a_tape_row) s.heap.size = A at hD hX ⊢
  have hA : ∀ q : Nat, s.heap.size ≤ q → A q := fun q h => by rw [← hAe]; exact Or.inr h
  have hS : va_S A s.heap s.heap [] := va_S.rf
  have hl := lv_entry ([.ref h_this]) (n := 2) (Nat.le_of_ble_eq_true rfl)
  rw [lg_entry_eq]
  generalize (lg_sl ([.ref h_this]) ++ List.replicate (2 - (lg_sl ([.ref h_this])).length) Slot.unset).toArray = ls at hl ⊢
  have hl : lv_has ls 2 [(0, .ref h_this)] := hl
  exact s_Numeral_passBlanks_e cx hK hA hX v_next v_tape_length a_tape_row s.heap [] ls hP hD hS hl hf
abbrev WS_Numeral_passSign (h_this : Nat) (h_this_tape : Nat) (h_this_tape_row : Nat) (c_this_tape_row : ClassId) (v_next : Int32) (v_negative : Int32) (v_sixteen : Int32) (v_hasPoint : Int32) (v_hasPower : Int32) (v_from : Int32) (v_to : Int32) (v_before : Int32) (v_digits : Int32) (v_power : Int32) (v_found : Int64) (v_tape_length : Int32) (a_tape_row : (Nat → Int32)) : va_W := [(h_this, .inr (2, [.ref h_this_tape, .int v_next, .int v_negative, .int v_sixteen, .int v_hasPoint, .int v_hasPower, .int v_from, .int v_to, .int v_before, .int v_digits, .int v_power, .long v_found])), (h_this_tape, .inr (1, [.ref h_this_tape_row, .int v_tape_length])), (h_this_tape_row, .inl (c_this_tape_row, 1200, .inl a_tape_row))]
def f_Numeral_passSign_34 (v_next : Int32) (v_tape_length : Int32) (a_tape_row : (Nat → Int32)) (y1 : Int32) : Option (Int32 × Int32) :=
  if y1 = (45 : Int32) then
    some ((1 : Int32), v_next)
  else
    some ((0 : Int32), v_next)
def f_Numeral_passSign_24 (v_next : Int32) (v_tape_length : Int32) (a_tape_row : (Nat → Int32)) (y1 : Int32) : Option (Int32 × Int32) :=
  bd (v_next + (1 : Int32)) fun x2 =>
  f_Numeral_passSign_34 x2 v_tape_length a_tape_row y1
def f_Numeral_passSign (v_next : Int32) (v_tape_length : Int32) (a_tape_row : (Nat → Int32)) : Option (Int32 × Int32) :=
  bi1 (f_Tape_at v_tape_length a_tape_row v_next) fun r3 =>
  if r3 = (43 : Int32) then
    f_Numeral_passSign_24 v_next v_tape_length a_tape_row r3
  else
    if r3 = (45 : Int32) then
      f_Numeral_passSign_24 v_next v_tape_length a_tape_row r3
    else
      f_Numeral_passSign_34 v_next v_tape_length a_tape_row r3
set_option maxHeartbeats 4000000 in
set_option maxRecDepth 100000 in
theorem s_Numeral_passSign_34 {p : Program} {l : Launch} {e : Env} {s : State} {m : MethodId} {args : Array Value} {below : List Frame} {meth : Method} {c : Code} {dC : Nat → ClassId} {dI : Nat → Nat → Nat} {A : Nat → Prop} {X : SXT} {h_this : Nat} {h_this_tape : Nat} {h_this_tape_row : Nat} {c_this_tape_row : ClassId} {v_negative : Int32} {v_sixteen : Int32} {v_hasPoint : Int32} {v_hasPower : Int32} {v_from : Int32} {v_to : Int32} {v_before : Int32} {v_digits : Int32} {v_power : Int32} {v_found : Int64} {res : Int32 × Int32}  (cx : cxx p s m args meth c b_Numeral_passSign 2 (some .boolean) R_Numeral) (hK : va_K (dC, dI) classes [(c_this_tape_row, .byte)] s) (hA : ∀ q, s.heap.size ≤ q → A q) (hX : SX X A s s.heap)  : ∀ (v_next : Int32) (v_tape_length : Int32) (a_tape_row : (Nat → Int32)) (y1 : Int32) (H : Heap) (locs : List Loc) (ls : Array Slot), va_P (dC, dI) classes (WS_Numeral_passSign h_this h_this_tape h_this_tape_row c_this_tape_row v_next v_negative v_sixteen v_hasPoint v_hasPower v_from v_to v_before v_digits v_power v_found v_tape_length a_tape_row) H → va_D A (WS_Numeral_passSign h_this h_this_tape h_this_tape_row c_this_tape_row v_next v_negative v_sixteen v_hasPoint v_hasPower v_from v_to v_before v_digits v_power v_found v_tape_length a_tape_row) → va_S A s.heap H locs → lv_has ls 2 [(0, .ref h_this), (1, .int y1)] → f_Numeral_passSign_34 v_next v_tape_length a_tape_row y1 = some res → W p l e ({ frames := 1, cells := 0, slots := 0, locals := 21 }) s m args below meth c H locs 0 0 (MQ below (va_Qi (fun (r : Int32) (u : Int32) => some (r, u) = some res) (gB (dC, dI) [(c_this_tape_row, .byte)] A (fun (u : Int32) => (WS_Numeral_passSign h_this h_this_tape h_this_tape_row c_this_tape_row u v_negative v_sixteen v_hasPoint v_hasPower v_from v_to v_before v_digits v_power v_found v_tape_length a_tape_row))) A) args s 0 0 A) (F0 m 34 ls []) := by
  intro v_next v_tape_length a_tape_row y1 H locs ls hP hD hS hl h
  obtain ⟨hx, hb, hr, hml, hown, ht, hlk⟩ := id cx
  refine lv_iload_n hx hb d_Numeral_passSign_34 rfl (lv_at hl 1 rfl) ?_
  refine lv_bipush (v := 45) hx hb d_Numeral_passSign_35 (by decide) ?_
  refine lv_icmp_ne (tgt := 44) hx hb d_Numeral_passSign_37 (by decide) (fun c1 => ?_) (fun c1 => ?_)
  · have h := if_f c1 h
    refine lv_iconst (v := 0) hx hb d_Numeral_passSign_44 (by decide) ?_
    exact W.zret (v := (0 : Int32)) hx hb hr rfl (fun t ht9 hW => ⟨⟨(0 : Int32), v_next, rfl, h, by rw [ht9]; exact hP, va_K.moved hW.alike hK, hD⟩, hS.F ht9⟩) hS.2.2 d_Numeral_passSign_45 hlk
  · have h := if_t c1 h
    refine lv_iconst (v := 1) hx hb d_Numeral_passSign_40 (by decide) ?_
    refine lv_goto (tgt := 45) hx hb d_Numeral_passSign_41 (by decide) ?_
    exact W.zret (v := (1 : Int32)) hx hb hr rfl (fun t ht9 hW => ⟨⟨(1 : Int32), v_next, rfl, h, by rw [ht9]; exact hP, va_K.moved hW.alike hK, hD⟩, hS.F ht9⟩) hS.2.2 d_Numeral_passSign_45 hlk
set_option maxHeartbeats 4000000 in
set_option maxRecDepth 100000 in
theorem s_Numeral_passSign_24 {p : Program} {l : Launch} {e : Env} {s : State} {m : MethodId} {args : Array Value} {below : List Frame} {meth : Method} {c : Code} {dC : Nat → ClassId} {dI : Nat → Nat → Nat} {A : Nat → Prop} {X : SXT} {h_this : Nat} {h_this_tape : Nat} {h_this_tape_row : Nat} {c_this_tape_row : ClassId} {v_negative : Int32} {v_sixteen : Int32} {v_hasPoint : Int32} {v_hasPower : Int32} {v_from : Int32} {v_to : Int32} {v_before : Int32} {v_digits : Int32} {v_power : Int32} {v_found : Int64} {res : Int32 × Int32}  (cx : cxx p s m args meth c b_Numeral_passSign 2 (some .boolean) R_Numeral) (hK : va_K (dC, dI) classes [(c_this_tape_row, .byte)] s) (hA : ∀ q, s.heap.size ≤ q → A q) (hX : SX X A s s.heap)  : ∀ (v_next : Int32) (v_tape_length : Int32) (a_tape_row : (Nat → Int32)) (y1 : Int32) (H : Heap) (locs : List Loc) (ls : Array Slot), va_P (dC, dI) classes (WS_Numeral_passSign h_this h_this_tape h_this_tape_row c_this_tape_row v_next v_negative v_sixteen v_hasPoint v_hasPower v_from v_to v_before v_digits v_power v_found v_tape_length a_tape_row) H → va_D A (WS_Numeral_passSign h_this h_this_tape h_this_tape_row c_this_tape_row v_next v_negative v_sixteen v_hasPoint v_hasPower v_from v_to v_before v_digits v_power v_found v_tape_length a_tape_row) → va_S A s.heap H locs → lv_has ls 2 [(0, .ref h_this), (1, .int y1)] → f_Numeral_passSign_24 v_next v_tape_length a_tape_row y1 = some res → W p l e ({ frames := 1, cells := 0, slots := 0, locals := 21 }) s m args below meth c H locs 0 0 (MQ below (va_Qi (fun (r : Int32) (u : Int32) => some (r, u) = some res) (gB (dC, dI) [(c_this_tape_row, .byte)] A (fun (u : Int32) => (WS_Numeral_passSign h_this h_this_tape h_this_tape_row c_this_tape_row u v_negative v_sixteen v_hasPoint v_hasPower v_from v_to v_before v_digits v_power v_found v_tape_length a_tape_row))) A) args s 0 0 A) (F0 m 24 ls []) := by
  intro v_next v_tape_length a_tape_row y1 H locs ls hP hD hS hl h
  obtain ⟨hx, hb, hr, hml, hown, ht, hlk⟩ := id cx
  refine lv_aload_n hx hb d_Numeral_passSign_24 rfl (lv_at hl 0 rfl) ?_
  refine lv_dup hx hb d_Numeral_passSign_25 rfl ?_
  refine va_get (D := (dC, dI)) (ci := 2) (v := .int v_next) (C := R_Numeral) (T := F_Numeral) (N := 12) hx hb ht i_Numeral hown hK hP 0 rfl rfl 1 (by decide) (ht _ q_16) (fun _ h9 => h9) rfl d_Numeral_passSign_26 ?_
  refine lv_iconst (v := 1) hx hb d_Numeral_passSign_29 (by decide) ?_
  refine lv_iadd hx hb d_Numeral_passSign_30 ?_
  refine lv_topi (fun x2 e_x2 => ?_)
  have h := bd_g e_x2 h
  refine va_put (D := (dC, dI)) (ci := 2) (v := .int x2) (ty := .int) (C := R_Numeral) (T := F_Numeral) (N := 12) hx hb ht i_Numeral t_Numeral t_Numeral_ok n_Numeral hown hK hP hD hS 0 rfl rfl 1 (by decide) (ht _ q_16) (fun _ h9 => h9) rfl (t_Numeral_ok 1 (by decide)) rfl rfl (Nat.le_of_ble_eq_true rfl) d_Numeral_passSign_31 (fun H locs hP hD hS => ?_)
  have hP : va_P (dC, dI) classes (WS_Numeral_passSign h_this h_this_tape h_this_tape_row c_this_tape_row x2 v_negative v_sixteen v_hasPoint v_hasPower v_from v_to v_before v_digits v_power v_found v_tape_length a_tape_row) H := hP
  have hD : va_D A (WS_Numeral_passSign h_this h_this_tape h_this_tape_row c_this_tape_row x2 v_negative v_sixteen v_hasPoint v_hasPower v_from v_to v_before v_digits v_power v_found v_tape_length a_tape_row) := hD
  exact s_Numeral_passSign_34 cx hK hA hX x2 v_tape_length a_tape_row y1 H locs ls hP hD hS (lv_sub hl [0, 1] rfl) h
set_option maxHeartbeats 4000000 in
set_option maxRecDepth 100000 in
theorem s_Numeral_passSign_e {p : Program} {l : Launch} {e : Env} {s : State} {m : MethodId} {args : Array Value} {below : List Frame} {meth : Method} {c : Code} {dC : Nat → ClassId} {dI : Nat → Nat → Nat} {A : Nat → Prop} {X : SXT} {h_this : Nat} {h_this_tape : Nat} {h_this_tape_row : Nat} {c_this_tape_row : ClassId} {v_negative : Int32} {v_sixteen : Int32} {v_hasPoint : Int32} {v_hasPower : Int32} {v_from : Int32} {v_to : Int32} {v_before : Int32} {v_digits : Int32} {v_power : Int32} {v_found : Int64} {res : Int32 × Int32} (cx : cxx p s m args meth c b_Numeral_passSign 2 (some .boolean) R_Numeral) (hK : va_K (dC, dI) classes [(c_this_tape_row, .byte)] s) (hA : ∀ q, s.heap.size ≤ q → A q) (hX : SX X A s s.heap) : ∀ (v_next : Int32) (v_tape_length : Int32) (a_tape_row : (Nat → Int32)) (H : Heap) (locs : List Loc) (ls : Array Slot), va_P (dC, dI) classes (WS_Numeral_passSign h_this h_this_tape h_this_tape_row c_this_tape_row v_next v_negative v_sixteen v_hasPoint v_hasPower v_from v_to v_before v_digits v_power v_found v_tape_length a_tape_row) H → va_D A (WS_Numeral_passSign h_this h_this_tape h_this_tape_row c_this_tape_row v_next v_negative v_sixteen v_hasPoint v_hasPower v_from v_to v_before v_digits v_power v_found v_tape_length a_tape_row) → va_S A s.heap H locs → lv_has ls 2 [(0, .ref h_this)] → f_Numeral_passSign v_next v_tape_length a_tape_row = some res → W p l e ({ frames := 1, cells := 0, slots := 0, locals := 21 }) s m args below meth c H locs 0 0 (MQ below (va_Qi (fun (r : Int32) (u : Int32) => some (r, u) = some res) (gB (dC, dI) [(c_this_tape_row, .byte)] A (fun (u : Int32) => (WS_Numeral_passSign h_this h_this_tape h_this_tape_row c_this_tape_row u v_negative v_sixteen v_hasPoint v_hasPower v_from v_to v_before v_digits v_power v_found v_tape_length a_tape_row))) A) args s 0 0 A) (F0 m 0 ls []) := by
  intro v_next v_tape_length a_tape_row H locs ls hP hD hS hl h
  obtain ⟨hx, hb, hr, hml, hown, ht, hlk⟩ := id cx
  refine lv_aload_n hx hb d_Numeral_passSign_0 rfl (lv_at hl 0 rfl) ?_
  refine va_get (D := (dC, dI)) (ci := 2) (v := .ref h_this_tape) (C := R_Numeral) (T := F_Numeral) (N := 12) hx hb ht i_Numeral hown hK hP 0 rfl rfl 0 (by decide) (ht _ q_17) (fun _ h9 => h9) rfl d_Numeral_passSign_1 ?_
  refine lv_aload_n hx hb d_Numeral_passSign_4 rfl (lv_at hl 0 rfl) ?_
  refine va_get (D := (dC, dI)) (ci := 2) (v := .int v_next) (C := R_Numeral) (T := F_Numeral) (N := 12) hx hb ht i_Numeral hown hK hP 0 rfl rfl 1 (by decide) (ht _ q_16) (fun _ h9 => h9) rfl d_Numeral_passSign_5 ?_
  obtain ⟨r3, hf, h⟩ := bi1_x h
  refine clVi (D := (dC, dI)) (n := 1) (As := [.int v_next]) ⟨hx, hb, hml, hown, ht⟩ (c_Tape_at l dC dI X h_this_tape h_this_tape_row c_this_tape_row H.size v_tape_length a_tape_row v_next r3 hf) (gV q_18 q_19 q_20 q_6 q_21) (by decide +kernel) ⟨rfl, rfl, Nat.le_of_ble_eq_true rfl, Nat.le_of_ble_eq_true rfl⟩ hK hP hD hS hA hX [1, 2] [0] [0] rfl (wr := [(h_this, .inr (2, [.ref h_this_tape, .int v_next, .int v_negative, .int v_sixteen, .int v_hasPoint, .int v_hasPower, .int v_from, .int v_to, .int v_before, .int v_digits, .int v_power, .long v_found]))]) rfl (by decide) (by decide) (by decide) rfl (va_recv hK hP (ci := 1) (q0 := 1) rfl rfl) rfl hl.1 rfl (lv_room (Nat.le_of_ble_eq_true rfl)) d_Numeral_passSign_8 ⟨Nat.zero_le _, Nat.zero_le _⟩ (fun r9 u9 H locs h9 hP hD hS => ?_)
  cases h9
  have hP : va_P (dC, dI) classes (WS_Numeral_passSign h_this h_this_tape h_this_tape_row c_this_tape_row v_next v_negative v_sixteen v_hasPoint v_hasPower v_from v_to v_before v_digits v_power v_found v_tape_length a_tape_row) H := hP.sub [0, 1, 2] rfl
  have hD : va_D A (WS_Numeral_passSign h_this h_this_tape h_this_tape_row c_this_tape_row v_next v_negative v_sixteen v_hasPoint v_hasPower v_from v_to v_before v_digits v_power v_found v_tape_length a_tape_row) := hD.sub [0, 1, 2] (by decide) rfl
  refine lv_istore_n (lv' := [(1, .int r3), (0, .ref h_this)]) hx hb d_Numeral_passSign_11 rfl hl (by decide) rfl (fun ls hl => ?_)
  refine lv_iload_n hx hb d_Numeral_passSign_12 rfl (lv_at hl 0 rfl) ?_
  refine lv_bipush (v := 43) hx hb d_Numeral_passSign_13 (by decide) ?_
  refine lv_icmp_eq (tgt := 24) hx hb d_Numeral_passSign_15 (by decide) (fun c4 => ?_) (fun c4 => ?_)
  · have h := if_t c4 h
    exact s_Numeral_passSign_24 cx hK hA hX v_next v_tape_length a_tape_row r3 H locs ls hP hD hS (lv_sub hl [1, 0] rfl) h
  · have h := if_f c4 h
    refine lv_iload_n hx hb d_Numeral_passSign_18 rfl (lv_at hl 0 rfl) ?_
    refine lv_bipush (v := 45) hx hb d_Numeral_passSign_19 (by decide) ?_
    refine lv_icmp_ne (tgt := 34) hx hb d_Numeral_passSign_21 (by decide) (fun c5 => ?_) (fun c5 => ?_)
    · have h := if_f c5 h
      exact s_Numeral_passSign_34 cx hK hA hX v_next v_tape_length a_tape_row r3 H locs ls hP hD hS (lv_sub hl [1, 0] rfl) h
    · have h := if_t c5 h
      exact s_Numeral_passSign_24 cx hK hA hX v_next v_tape_length a_tape_row r3 H locs ls hP hD hS (lv_sub hl [1, 0] rfl) h
set_option maxHeartbeats 4000000 in
set_option maxRecDepth 100000 in
theorem c_Numeral_passSign (l : Launch) (dC : Nat → ClassId) (dI : Nat → Nat → Nat) (X : SXT) (h_this : Nat) (h_this_tape : Nat) (h_this_tape_row : Nat) (c_this_tape_row : ClassId) (sz : Nat) (v_next : Int32) (v_negative : Int32) (v_sixteen : Int32) (v_hasPoint : Int32) (v_hasPower : Int32) (v_from : Int32) (v_to : Int32) (v_before : Int32) (v_digits : Int32) (v_power : Int32) (v_found : Int64) (v_tape_length : Int32) (a_tape_row : (Nat → Int32)) (res : Int32 × Int32) (hf : f_Numeral_passSign v_next v_tape_length a_tape_row = some res) : Met l y_Numeral_passSign (.code y_Numeral_passSign b_Numeral_passSign 2 (some .boolean) :: w0) ({ frames := 1, cells := 0, slots := 0, locals := 21 }) (va_Pc [.ref h_this] (gP (dC, dI) (WS_Numeral_passSign h_this h_this_tape h_this_tape_row c_this_tape_row v_next v_negative v_sixteen v_hasPoint v_hasPower v_from v_to v_before v_digits v_power v_found v_tape_length a_tape_row) [(c_this_tape_row, .byte)] sz X)) (va_Qi (fun (r : Int32) (u : Int32) => some (r, u) = some res) (gB (dC, dI) [(c_this_tape_row, .byte)] (va_A (WS_Numeral_passSign h_this h_this_tape h_this_tape_row c_this_tape_row v_next v_negative v_sixteen v_hasPoint v_hasPower v_from v_to v_before v_digits v_power v_found v_tape_length a_tape_row) sz) (fun (u : Int32) => (WS_Numeral_passSign h_this h_this_tape h_this_tape_row c_this_tape_row u v_negative v_sixteen v_hasPoint v_hasPower v_from v_to v_before v_digits v_power v_found v_tape_length a_tape_row))) (va_A (WS_Numeral_passSign h_this h_this_tape h_this_tape_row c_this_tape_row v_next v_negative v_sixteen v_hasPoint v_hasPower v_from v_to v_before v_digits v_power v_found v_tape_length a_tape_row) sz)) 0 0 (va_A (WS_Numeral_passSign h_this h_this_tape h_this_tape_row c_this_tape_row v_next v_negative v_sixteen v_hasPoint v_hasPower v_from v_to v_before v_digits v_power v_found v_tape_length a_tape_row) sz) := by
  refine Met.ofW (cc := b_Numeral_passSign) (maxL := 2) (ret := (some .boolean)) (by decide) rfl ?_
  intro p e s m args below meth c s₁ B hml hv
  obtain ⟨rfl, hsz, hP, hK, hD0, hX⟩ := hv
  subst hsz
  have cx : cxx p s m ([.ref h_this] : List Value).toArray meth c b_Numeral_passSign 2 (some .boolean) R_Numeral := ⟨B.exec, B.bytes, B.returns, hml, findClass_of_methodNamed B.named, fun w9 hw => atoms_spec (ws := .code y_Numeral_passSign b_Numeral_passSign 2 (some .boolean) :: w0) B.pre w9 (List.mem_cons_of_mem _ hw), B.notSynchronized⟩
  have hD := hD0.self (sz := s.heap.size)
  generalize hAe : va_A (WS_Numeral_passSign h_this h_this_tape h_this_tape_row c_this_tape_row v_next v_negative v_sixteen v_hasPoint v_hasPower v_from v_to v_before v_digits v_power v_found v_tape_length a_tape_row) s.heap.size = A at hD hX ⊢
  have hA : ∀ q : Nat, s.heap.size ≤ q → A q := fun q h => by rw [← hAe]; exact Or.inr h
  have hS : va_S A s.heap s.heap [] := va_S.rf
  have hl := lv_entry ([.ref h_this]) (n := 2) (Nat.le_of_ble_eq_true rfl)
  rw [lg_entry_eq]
  generalize (lg_sl ([.ref h_this]) ++ List.replicate (2 - (lg_sl ([.ref h_this])).length) Slot.unset).toArray = ls at hl ⊢
  have hl : lv_has ls 2 [(0, .ref h_this)] := hl
  exact s_Numeral_passSign_e cx hK hA hX v_next v_tape_length a_tape_row s.heap [] ls hP hD hS hl hf
abbrev WS_Numeral_passPrefix (h_this : Nat) (h_this_tape : Nat) (h_this_tape_row : Nat) (c_this_tape_row : ClassId) (v_next : Int32) (v_negative : Int32) (v_sixteen : Int32) (v_hasPoint : Int32) (v_hasPower : Int32) (v_from : Int32) (v_to : Int32) (v_before : Int32) (v_digits : Int32) (v_power : Int32) (v_found : Int64) (v_tape_length : Int32) (a_tape_row : (Nat → Int32)) : va_W := [(h_this, .inr (2, [.ref h_this_tape, .int v_next, .int v_negative, .int v_sixteen, .int v_hasPoint, .int v_hasPower, .int v_from, .int v_to, .int v_before, .int v_digits, .int v_power, .long v_found])), (h_this_tape, .inr (1, [.ref h_this_tape_row, .int v_tape_length])), (h_this_tape_row, .inl (c_this_tape_row, 1200, .inl a_tape_row))]
def f_Numeral_passPrefix_48 (v_next : Int32) (v_sixteen : Int32) (v_tape_length : Int32) (a_tape_row : (Nat → Int32)) (z1 : Int32) : Option (Int32 × Int32) :=
  ck (ckZ z1) <|
  if z1 = 0 then
    some (v_next, z1)
  else
    bd (v_next + (2 : Int32)) fun x3 =>
    some (x3, z1)
def f_Numeral_passPrefix_47 (v_next : Int32) (v_sixteen : Int32) (v_tape_length : Int32) (a_tape_row : (Nat → Int32)) : Option (Int32 × Int32) :=
  f_Numeral_passPrefix_48 v_next v_sixteen v_tape_length a_tape_row (0 : Int32)
def f_Numeral_passPrefix_43 (v_next : Int32) (v_sixteen : Int32) (v_tape_length : Int32) (a_tape_row : (Nat → Int32)) : Option (Int32 × Int32) :=
  f_Numeral_passPrefix_48 v_next v_sixteen v_tape_length a_tape_row (1 : Int32)
def f_Numeral_passPrefix (v_next : Int32) (v_sixteen : Int32) (v_tape_length : Int32) (a_tape_row : (Nat → Int32)) : Option (Int32 × Int32) :=
  bi1 (f_Tape_at v_tape_length a_tape_row (v_next + (1 : Int32))) fun r4 =>
  bi1 (f_Tape_at v_tape_length a_tape_row v_next) fun r5 =>
  if r5 = (48 : Int32) then
    if r4 = (120 : Int32) then
      f_Numeral_passPrefix_43 v_next v_sixteen v_tape_length a_tape_row
    else
      if r4 = (88 : Int32) then
        f_Numeral_passPrefix_43 v_next v_sixteen v_tape_length a_tape_row
      else
        f_Numeral_passPrefix_47 v_next v_sixteen v_tape_length a_tape_row
  else
    f_Numeral_passPrefix_47 v_next v_sixteen v_tape_length a_tape_row
set_option maxHeartbeats 4000000 in
set_option maxRecDepth 100000 in
theorem s_Numeral_passPrefix_48 {p : Program} {l : Launch} {e : Env} {s : State} {m : MethodId} {args : Array Value} {below : List Frame} {meth : Method} {c : Code} {dC : Nat → ClassId} {dI : Nat → Nat → Nat} {A : Nat → Prop} {X : SXT} {h_this : Nat} {h_this_tape : Nat} {h_this_tape_row : Nat} {c_this_tape_row : ClassId} {v_negative : Int32} {v_hasPoint : Int32} {v_hasPower : Int32} {v_from : Int32} {v_to : Int32} {v_before : Int32} {v_digits : Int32} {v_power : Int32} {v_found : Int64} {res : Int32 × Int32}  (cx : cxx p s m args meth c b_Numeral_passPrefix 2 none R_Numeral) (hK : va_K (dC, dI) classes [(c_this_tape_row, .byte)] s) (hA : ∀ q, s.heap.size ≤ q → A q) (hX : SX X A s s.heap)  : ∀ (v_next : Int32) (v_sixteen : Int32) (v_tape_length : Int32) (a_tape_row : (Nat → Int32)) (z1 : Int32) (H : Heap) (locs : List Loc) (ls : Array Slot), va_P (dC, dI) classes (WS_Numeral_passPrefix h_this h_this_tape h_this_tape_row c_this_tape_row v_next v_negative v_sixteen v_hasPoint v_hasPower v_from v_to v_before v_digits v_power v_found v_tape_length a_tape_row) H → va_D A (WS_Numeral_passPrefix h_this h_this_tape h_this_tape_row c_this_tape_row v_next v_negative v_sixteen v_hasPoint v_hasPower v_from v_to v_before v_digits v_power v_found v_tape_length a_tape_row) → va_S A s.heap H locs → lv_has ls 2 [(0, .ref h_this)] → f_Numeral_passPrefix_48 v_next v_sixteen v_tape_length a_tape_row z1 = some res → W p l e ({ frames := 1, cells := 0, slots := 0, locals := 21 }) s m args below meth c H locs 0 0 (MQ below (va_Qv (fun (u : Int32 × Int32) => some u = some res) (gB (dC, dI) [(c_this_tape_row, .byte)] A (fun (u : Int32 × Int32) => (WS_Numeral_passPrefix h_this h_this_tape h_this_tape_row c_this_tape_row u.1 v_negative u.2 v_hasPoint v_hasPower v_from v_to v_before v_digits v_power v_found v_tape_length a_tape_row))) A) args s 0 0 A) (F0 m 48 ls [.int z1, .ref h_this]) := by
  intro v_next v_sixteen v_tape_length a_tape_row z1 H locs ls hP hD hS hl h
  obtain ⟨hx, hb, hr, hml, hown, ht, hlk⟩ := id cx
  obtain ⟨c1, h⟩ := ck_x h
  refine va_put (D := (dC, dI)) (ci := 2) (v := .int z1) (ty := .boolean) (C := R_Numeral) (T := F_Numeral) (N := 12) hx hb ht i_Numeral t_Numeral t_Numeral_ok n_Numeral hown hK hP hD hS 0 rfl rfl 3 (by decide) (ht _ q_27) (fun _ h9 => h9) rfl (t_Numeral_ok 3 (by decide)) (ckZ_n c1) (ckZ_f c1) (Nat.le_of_ble_eq_true rfl) d_Numeral_passPrefix_48 (fun H locs hP hD hS => ?_)
  have hP : va_P (dC, dI) classes (WS_Numeral_passPrefix h_this h_this_tape h_this_tape_row c_this_tape_row v_next v_negative z1 v_hasPoint v_hasPower v_from v_to v_before v_digits v_power v_found v_tape_length a_tape_row) H := hP
  have hD : va_D A (WS_Numeral_passPrefix h_this h_this_tape h_this_tape_row c_this_tape_row v_next v_negative z1 v_hasPoint v_hasPower v_from v_to v_before v_digits v_power v_found v_tape_length a_tape_row) := hD
  refine lv_aload_n hx hb d_Numeral_passPrefix_51 rfl (lv_at hl 0 rfl) ?_
  refine va_get (D := (dC, dI)) (ci := 2) (v := .int z1) (C := R_Numeral) (T := F_Numeral) (N := 12) hx hb ht i_Numeral hown hK hP 0 rfl rfl 3 (by decide) (ht _ q_27) (fun _ h9 => h9) rfl d_Numeral_passPrefix_52 ?_
  refine lv_if_eq (tgt := 68) hx hb d_Numeral_passPrefix_55 (by decide) (fun c2 => ?_) (fun c2 => ?_)
  · have h := if_t c2 h
    exact W.vret hx hb hr (fun t ht9 hW => ⟨⟨(v_next, z1), rfl, h, by rw [ht9]; exact hP, va_K.moved hW.alike hK, hD⟩, hS.F ht9⟩) hS.2.2 d_Numeral_passPrefix_68 hlk
  · have h := if_f c2 h
    refine lv_aload_n hx hb d_Numeral_passPrefix_58 rfl (lv_at hl 0 rfl) ?_
    refine lv_dup hx hb d_Numeral_passPrefix_59 rfl ?_
    refine va_get (D := (dC, dI)) (ci := 2) (v := .int v_next) (C := R_Numeral) (T := F_Numeral) (N := 12) hx hb ht i_Numeral hown hK hP 0 rfl rfl 1 (by decide) (ht _ q_16) (fun _ h9 => h9) rfl d_Numeral_passPrefix_60 ?_
    refine lv_iconst (v := 2) hx hb d_Numeral_passPrefix_63 (by decide) ?_
    refine lv_iadd hx hb d_Numeral_passPrefix_64 ?_
    refine lv_topi (fun x3 e_x3 => ?_)
    have h := bd_g e_x3 h
    refine va_put (D := (dC, dI)) (ci := 2) (v := .int x3) (ty := .int) (C := R_Numeral) (T := F_Numeral) (N := 12) hx hb ht i_Numeral t_Numeral t_Numeral_ok n_Numeral hown hK hP hD hS 0 rfl rfl 1 (by decide) (ht _ q_16) (fun _ h9 => h9) rfl (t_Numeral_ok 1 (by decide)) rfl rfl (Nat.le_of_ble_eq_true rfl) d_Numeral_passPrefix_65 (fun H locs hP hD hS => ?_)
    have hP : va_P (dC, dI) classes (WS_Numeral_passPrefix h_this h_this_tape h_this_tape_row c_this_tape_row x3 v_negative z1 v_hasPoint v_hasPower v_from v_to v_before v_digits v_power v_found v_tape_length a_tape_row) H := hP
    have hD : va_D A (WS_Numeral_passPrefix h_this h_this_tape h_this_tape_row c_this_tape_row x3 v_negative z1 v_hasPoint v_hasPower v_from v_to v_before v_digits v_power v_found v_tape_length a_tape_row) := hD
    exact W.vret hx hb hr (fun t ht9 hW => ⟨⟨(x3, z1), rfl, h, by rw [ht9]; exact hP, va_K.moved hW.alike hK, hD⟩, hS.F ht9⟩) hS.2.2 d_Numeral_passPrefix_68 hlk
set_option maxHeartbeats 4000000 in
set_option maxRecDepth 100000 in
theorem s_Numeral_passPrefix_47 {p : Program} {l : Launch} {e : Env} {s : State} {m : MethodId} {args : Array Value} {below : List Frame} {meth : Method} {c : Code} {dC : Nat → ClassId} {dI : Nat → Nat → Nat} {A : Nat → Prop} {X : SXT} {h_this : Nat} {h_this_tape : Nat} {h_this_tape_row : Nat} {c_this_tape_row : ClassId} {v_negative : Int32} {v_hasPoint : Int32} {v_hasPower : Int32} {v_from : Int32} {v_to : Int32} {v_before : Int32} {v_digits : Int32} {v_power : Int32} {v_found : Int64} {res : Int32 × Int32}  (cx : cxx p s m args meth c b_Numeral_passPrefix 2 none R_Numeral) (hK : va_K (dC, dI) classes [(c_this_tape_row, .byte)] s) (hA : ∀ q, s.heap.size ≤ q → A q) (hX : SX X A s s.heap)  : ∀ (v_next : Int32) (v_sixteen : Int32) (v_tape_length : Int32) (a_tape_row : (Nat → Int32)) (H : Heap) (locs : List Loc) (ls : Array Slot), va_P (dC, dI) classes (WS_Numeral_passPrefix h_this h_this_tape h_this_tape_row c_this_tape_row v_next v_negative v_sixteen v_hasPoint v_hasPower v_from v_to v_before v_digits v_power v_found v_tape_length a_tape_row) H → va_D A (WS_Numeral_passPrefix h_this h_this_tape h_this_tape_row c_this_tape_row v_next v_negative v_sixteen v_hasPoint v_hasPower v_from v_to v_before v_digits v_power v_found v_tape_length a_tape_row) → va_S A s.heap H locs → lv_has ls 2 [(0, .ref h_this)] → f_Numeral_passPrefix_47 v_next v_sixteen v_tape_length a_tape_row = some res → W p l e ({ frames := 1, cells := 0, slots := 0, locals := 21 }) s m args below meth c H locs 0 0 (MQ below (va_Qv (fun (u : Int32 × Int32) => some u = some res) (gB (dC, dI) [(c_this_tape_row, .byte)] A (fun (u : Int32 × Int32) => (WS_Numeral_passPrefix h_this h_this_tape h_this_tape_row c_this_tape_row u.1 v_negative u.2 v_hasPoint v_hasPower v_from v_to v_before v_digits v_power v_found v_tape_length a_tape_row))) A) args s 0 0 A) (F0 m 47 ls [.ref h_this]) := by
  intro v_next v_sixteen v_tape_length a_tape_row H locs ls hP hD hS hl h
  obtain ⟨hx, hb, hr, hml, hown, ht, hlk⟩ := id cx
  refine lv_iconst (v := 0) hx hb d_Numeral_passPrefix_47 (by decide) ?_
  exact s_Numeral_passPrefix_48 cx hK hA hX v_next v_sixteen v_tape_length a_tape_row (0 : Int32) H locs ls hP hD hS (lv_sub hl [0] rfl) h
set_option maxHeartbeats 4000000 in
set_option maxRecDepth 100000 in
theorem s_Numeral_passPrefix_43 {p : Program} {l : Launch} {e : Env} {s : State} {m : MethodId} {args : Array Value} {below : List Frame} {meth : Method} {c : Code} {dC : Nat → ClassId} {dI : Nat → Nat → Nat} {A : Nat → Prop} {X : SXT} {h_this : Nat} {h_this_tape : Nat} {h_this_tape_row : Nat} {c_this_tape_row : ClassId} {v_negative : Int32} {v_hasPoint : Int32} {v_hasPower : Int32} {v_from : Int32} {v_to : Int32} {v_before : Int32} {v_digits : Int32} {v_power : Int32} {v_found : Int64} {res : Int32 × Int32}  (cx : cxx p s m args meth c b_Numeral_passPrefix 2 none R_Numeral) (hK : va_K (dC, dI) classes [(c_this_tape_row, .byte)] s) (hA : ∀ q, s.heap.size ≤ q → A q) (hX : SX X A s s.heap)  : ∀ (v_next : Int32) (v_sixteen : Int32) (v_tape_length : Int32) (a_tape_row : (Nat → Int32)) (H : Heap) (locs : List Loc) (ls : Array Slot), va_P (dC, dI) classes (WS_Numeral_passPrefix h_this h_this_tape h_this_tape_row c_this_tape_row v_next v_negative v_sixteen v_hasPoint v_hasPower v_from v_to v_before v_digits v_power v_found v_tape_length a_tape_row) H → va_D A (WS_Numeral_passPrefix h_this h_this_tape h_this_tape_row c_this_tape_row v_next v_negative v_sixteen v_hasPoint v_hasPower v_from v_to v_before v_digits v_power v_found v_tape_length a_tape_row) → va_S A s.heap H locs → lv_has ls 2 [(0, .ref h_this)] → f_Numeral_passPrefix_43 v_next v_sixteen v_tape_length a_tape_row = some res → W p l e ({ frames := 1, cells := 0, slots := 0, locals := 21 }) s m args below meth c H locs 0 0 (MQ below (va_Qv (fun (u : Int32 × Int32) => some u = some res) (gB (dC, dI) [(c_this_tape_row, .byte)] A (fun (u : Int32 × Int32) => (WS_Numeral_passPrefix h_this h_this_tape h_this_tape_row c_this_tape_row u.1 v_negative u.2 v_hasPoint v_hasPower v_from v_to v_before v_digits v_power v_found v_tape_length a_tape_row))) A) args s 0 0 A) (F0 m 43 ls [.ref h_this]) := by
  intro v_next v_sixteen v_tape_length a_tape_row H locs ls hP hD hS hl h
  obtain ⟨hx, hb, hr, hml, hown, ht, hlk⟩ := id cx
  refine lv_iconst (v := 1) hx hb d_Numeral_passPrefix_43 (by decide) ?_
  refine lv_goto (tgt := 48) hx hb d_Numeral_passPrefix_44 (by decide) ?_
  exact s_Numeral_passPrefix_48 cx hK hA hX v_next v_sixteen v_tape_length a_tape_row (1 : Int32) H locs ls hP hD hS (lv_sub hl [0] rfl) h
set_option maxHeartbeats 4000000 in
set_option maxRecDepth 100000 in
theorem s_Numeral_passPrefix_e {p : Program} {l : Launch} {e : Env} {s : State} {m : MethodId} {args : Array Value} {below : List Frame} {meth : Method} {c : Code} {dC : Nat → ClassId} {dI : Nat → Nat → Nat} {A : Nat → Prop} {X : SXT} {h_this : Nat} {h_this_tape : Nat} {h_this_tape_row : Nat} {c_this_tape_row : ClassId} {v_negative : Int32} {v_hasPoint : Int32} {v_hasPower : Int32} {v_from : Int32} {v_to : Int32} {v_before : Int32} {v_digits : Int32} {v_power : Int32} {v_found : Int64} {res : Int32 × Int32} (cx : cxx p s m args meth c b_Numeral_passPrefix 2 none R_Numeral) (hK : va_K (dC, dI) classes [(c_this_tape_row, .byte)] s) (hA : ∀ q, s.heap.size ≤ q → A q) (hX : SX X A s s.heap) : ∀ (v_next : Int32) (v_sixteen : Int32) (v_tape_length : Int32) (a_tape_row : (Nat → Int32)) (H : Heap) (locs : List Loc) (ls : Array Slot), va_P (dC, dI) classes (WS_Numeral_passPrefix h_this h_this_tape h_this_tape_row c_this_tape_row v_next v_negative v_sixteen v_hasPoint v_hasPower v_from v_to v_before v_digits v_power v_found v_tape_length a_tape_row) H → va_D A (WS_Numeral_passPrefix h_this h_this_tape h_this_tape_row c_this_tape_row v_next v_negative v_sixteen v_hasPoint v_hasPower v_from v_to v_before v_digits v_power v_found v_tape_length a_tape_row) → va_S A s.heap H locs → lv_has ls 2 [(0, .ref h_this)] → f_Numeral_passPrefix v_next v_sixteen v_tape_length a_tape_row = some res → W p l e ({ frames := 1, cells := 0, slots := 0, locals := 21 }) s m args below meth c H locs 0 0 (MQ below (va_Qv (fun (u : Int32 × Int32) => some u = some res) (gB (dC, dI) [(c_this_tape_row, .byte)] A (fun (u : Int32 × Int32) => (WS_Numeral_passPrefix h_this h_this_tape h_this_tape_row c_this_tape_row u.1 v_negative u.2 v_hasPoint v_hasPower v_from v_to v_before v_digits v_power v_found v_tape_length a_tape_row))) A) args s 0 0 A) (F0 m 0 ls []) := by
  intro v_next v_sixteen v_tape_length a_tape_row H locs ls hP hD hS hl h
  obtain ⟨hx, hb, hr, hml, hown, ht, hlk⟩ := id cx
  refine lv_aload_n hx hb d_Numeral_passPrefix_0 rfl (lv_at hl 0 rfl) ?_
  refine va_get (D := (dC, dI)) (ci := 2) (v := .ref h_this_tape) (C := R_Numeral) (T := F_Numeral) (N := 12) hx hb ht i_Numeral hown hK hP 0 rfl rfl 0 (by decide) (ht _ q_17) (fun _ h9 => h9) rfl d_Numeral_passPrefix_1 ?_
  refine lv_aload_n hx hb d_Numeral_passPrefix_4 rfl (lv_at hl 0 rfl) ?_
  refine va_get (D := (dC, dI)) (ci := 2) (v := .int v_next) (C := R_Numeral) (T := F_Numeral) (N := 12) hx hb ht i_Numeral hown hK hP 0 rfl rfl 1 (by decide) (ht _ q_16) (fun _ h9 => h9) rfl d_Numeral_passPrefix_5 ?_
  refine lv_iconst (v := 1) hx hb d_Numeral_passPrefix_8 (by decide) ?_
  refine lv_iadd hx hb d_Numeral_passPrefix_9 ?_
  obtain ⟨r4, hf, h⟩ := bi1_x h
  refine clVi (D := (dC, dI)) (n := 1) (As := [.int (v_next + (1 : Int32))]) ⟨hx, hb, hml, hown, ht⟩ (c_Tape_at l dC dI X h_this_tape h_this_tape_row c_this_tape_row H.size v_tape_length a_tape_row (v_next + (1 : Int32)) r4 hf) (gV q_18 q_19 q_20 q_6 q_21) (by decide +kernel) ⟨rfl, rfl, Nat.le_of_ble_eq_true rfl, Nat.le_of_ble_eq_true rfl⟩ hK hP hD hS hA hX [1, 2] [0] [0] rfl (wr := [(h_this, .inr (2, [.ref h_this_tape, .int v_next, .int v_negative, .int v_sixteen, .int v_hasPoint, .int v_hasPower, .int v_from, .int v_to, .int v_before, .int v_digits, .int v_power, .long v_found]))]) rfl (by decide) (by decide) (by decide) rfl (va_recv hK hP (ci := 1) (q0 := 1) rfl rfl) rfl hl.1 rfl (lv_room (Nat.le_of_ble_eq_true rfl)) d_Numeral_passPrefix_10 ⟨Nat.zero_le _, Nat.zero_le _⟩ (fun r9 u9 H locs h9 hP hD hS => ?_)
  cases h9
  have hP : va_P (dC, dI) classes (WS_Numeral_passPrefix h_this h_this_tape h_this_tape_row c_this_tape_row v_next v_negative v_sixteen v_hasPoint v_hasPower v_from v_to v_before v_digits v_power v_found v_tape_length a_tape_row) H := hP.sub [0, 1, 2] rfl
  have hD : va_D A (WS_Numeral_passPrefix h_this h_this_tape h_this_tape_row c_this_tape_row v_next v_negative v_sixteen v_hasPoint v_hasPower v_from v_to v_before v_digits v_power v_found v_tape_length a_tape_row) := hD.sub [0, 1, 2] (by decide) rfl
  refine lv_istore_n (lv' := [(1, .int r4), (0, .ref h_this)]) hx hb d_Numeral_passPrefix_13 rfl hl (by decide) rfl (fun ls hl => ?_)
  refine lv_aload_n hx hb d_Numeral_passPrefix_14 rfl (lv_at hl 1 rfl) ?_
  refine lv_aload_n hx hb d_Numeral_passPrefix_15 rfl (lv_at hl 1 rfl) ?_
  refine va_get (D := (dC, dI)) (ci := 2) (v := .ref h_this_tape) (C := R_Numeral) (T := F_Numeral) (N := 12) hx hb ht i_Numeral hown hK hP 0 rfl rfl 0 (by decide) (ht _ q_17) (fun _ h9 => h9) rfl d_Numeral_passPrefix_16 ?_
  refine lv_aload_n hx hb d_Numeral_passPrefix_19 rfl (lv_at hl 1 rfl) ?_
  refine va_get (D := (dC, dI)) (ci := 2) (v := .int v_next) (C := R_Numeral) (T := F_Numeral) (N := 12) hx hb ht i_Numeral hown hK hP 0 rfl rfl 1 (by decide) (ht _ q_16) (fun _ h9 => h9) rfl d_Numeral_passPrefix_20 ?_
  obtain ⟨r5, hf, h⟩ := bi1_x h
  refine clVi (D := (dC, dI)) (n := 1) (As := [.int v_next]) ⟨hx, hb, hml, hown, ht⟩ (c_Tape_at l dC dI X h_this_tape h_this_tape_row c_this_tape_row H.size v_tape_length a_tape_row v_next r5 hf) (gV q_18 q_19 q_20 q_6 q_21) (by decide +kernel) ⟨rfl, rfl, Nat.le_of_ble_eq_true rfl, Nat.le_of_ble_eq_true rfl⟩ hK hP hD hS hA hX [1, 2] [0] [0] rfl (wr := [(h_this, .inr (2, [.ref h_this_tape, .int v_next, .int v_negative, .int v_sixteen, .int v_hasPoint, .int v_hasPower, .int v_from, .int v_to, .int v_before, .int v_digits, .int v_power, .long v_found]))]) rfl (by decide) (by decide) (by decide) rfl (va_recv hK hP (ci := 1) (q0 := 1) rfl rfl) rfl hl.1 rfl (lv_room (Nat.le_of_ble_eq_true rfl)) d_Numeral_passPrefix_23 ⟨Nat.zero_le _, Nat.zero_le _⟩ (fun r9 u9 H locs h9 hP hD hS => ?_)
  cases h9
  have hP : va_P (dC, dI) classes (WS_Numeral_passPrefix h_this h_this_tape h_this_tape_row c_this_tape_row v_next v_negative v_sixteen v_hasPoint v_hasPower v_from v_to v_before v_digits v_power v_found v_tape_length a_tape_row) H := hP.sub [0, 1, 2] rfl
  have hD : va_D A (WS_Numeral_passPrefix h_this h_this_tape h_this_tape_row c_this_tape_row v_next v_negative v_sixteen v_hasPoint v_hasPower v_from v_to v_before v_digits v_power v_found v_tape_length a_tape_row) := hD.sub [0, 1, 2] (by decide) rfl
  refine lv_bipush (v := 48) hx hb d_Numeral_passPrefix_26 (by decide) ?_
  refine lv_icmp_ne (tgt := 47) hx hb d_Numeral_passPrefix_28 (by decide) (fun c6 => ?_) (fun c6 => ?_)
  · have h := if_f c6 h
    exact s_Numeral_passPrefix_47 cx hK hA hX v_next v_sixteen v_tape_length a_tape_row H locs ls hP hD hS (lv_sub hl [1] rfl) h
  · have h := if_t c6 h
    refine lv_iload_n hx hb d_Numeral_passPrefix_31 rfl (lv_at hl 0 rfl) ?_
    refine lv_bipush (v := 120) hx hb d_Numeral_passPrefix_32 (by decide) ?_
    refine lv_icmp_eq (tgt := 43) hx hb d_Numeral_passPrefix_34 (by decide) (fun c7 => ?_) (fun c7 => ?_)
    · have h := if_t c7 h
      exact s_Numeral_passPrefix_43 cx hK hA hX v_next v_sixteen v_tape_length a_tape_row H locs ls hP hD hS (lv_sub hl [1] rfl) h
    · have h := if_f c7 h
      refine lv_iload_n hx hb d_Numeral_passPrefix_37 rfl (lv_at hl 0 rfl) ?_
      refine lv_bipush (v := 88) hx hb d_Numeral_passPrefix_38 (by decide) ?_
      refine lv_icmp_ne (tgt := 47) hx hb d_Numeral_passPrefix_40 (by decide) (fun c8 => ?_) (fun c8 => ?_)
      · have h := if_f c8 h
        exact s_Numeral_passPrefix_47 cx hK hA hX v_next v_sixteen v_tape_length a_tape_row H locs ls hP hD hS (lv_sub hl [1] rfl) h
      · have h := if_t c8 h
        exact s_Numeral_passPrefix_43 cx hK hA hX v_next v_sixteen v_tape_length a_tape_row H locs ls hP hD hS (lv_sub hl [1] rfl) h
set_option maxHeartbeats 4000000 in
set_option maxRecDepth 100000 in
theorem c_Numeral_passPrefix (l : Launch) (dC : Nat → ClassId) (dI : Nat → Nat → Nat) (X : SXT) (h_this : Nat) (h_this_tape : Nat) (h_this_tape_row : Nat) (c_this_tape_row : ClassId) (sz : Nat) (v_next : Int32) (v_negative : Int32) (v_sixteen : Int32) (v_hasPoint : Int32) (v_hasPower : Int32) (v_from : Int32) (v_to : Int32) (v_before : Int32) (v_digits : Int32) (v_power : Int32) (v_found : Int64) (v_tape_length : Int32) (a_tape_row : (Nat → Int32)) (res : Int32 × Int32) (hf : f_Numeral_passPrefix v_next v_sixteen v_tape_length a_tape_row = some res) : Met l y_Numeral_passPrefix (.code y_Numeral_passPrefix b_Numeral_passPrefix 2 none :: w0) ({ frames := 1, cells := 0, slots := 0, locals := 21 }) (va_Pc [.ref h_this] (gP (dC, dI) (WS_Numeral_passPrefix h_this h_this_tape h_this_tape_row c_this_tape_row v_next v_negative v_sixteen v_hasPoint v_hasPower v_from v_to v_before v_digits v_power v_found v_tape_length a_tape_row) [(c_this_tape_row, .byte)] sz X)) (va_Qv (fun (u : Int32 × Int32) => some u = some res) (gB (dC, dI) [(c_this_tape_row, .byte)] (va_A (WS_Numeral_passPrefix h_this h_this_tape h_this_tape_row c_this_tape_row v_next v_negative v_sixteen v_hasPoint v_hasPower v_from v_to v_before v_digits v_power v_found v_tape_length a_tape_row) sz) (fun (u : Int32 × Int32) => (WS_Numeral_passPrefix h_this h_this_tape h_this_tape_row c_this_tape_row u.1 v_negative u.2 v_hasPoint v_hasPower v_from v_to v_before v_digits v_power v_found v_tape_length a_tape_row))) (va_A (WS_Numeral_passPrefix h_this h_this_tape h_this_tape_row c_this_tape_row v_next v_negative v_sixteen v_hasPoint v_hasPower v_from v_to v_before v_digits v_power v_found v_tape_length a_tape_row) sz)) 0 0 (va_A (WS_Numeral_passPrefix h_this h_this_tape h_this_tape_row c_this_tape_row v_next v_negative v_sixteen v_hasPoint v_hasPower v_from v_to v_before v_digits v_power v_found v_tape_length a_tape_row) sz) := by
  refine Met.ofW (cc := b_Numeral_passPrefix) (maxL := 2) (ret := none) (by decide) rfl ?_
  intro p e s m args below meth c s₁ B hml hv
  obtain ⟨rfl, hsz, hP, hK, hD0, hX⟩ := hv
  subst hsz
  have cx : cxx p s m ([.ref h_this] : List Value).toArray meth c b_Numeral_passPrefix 2 none R_Numeral := ⟨B.exec, B.bytes, B.returns, hml, findClass_of_methodNamed B.named, fun w9 hw => atoms_spec (ws := .code y_Numeral_passPrefix b_Numeral_passPrefix 2 none :: w0) B.pre w9 (List.mem_cons_of_mem _ hw), B.notSynchronized⟩
  have hD := hD0.self (sz := s.heap.size)
  generalize hAe : va_A (WS_Numeral_passPrefix h_this h_this_tape h_this_tape_row c_this_tape_row v_next v_negative v_sixteen v_hasPoint v_hasPower v_from v_to v_before v_digits v_power v_found v_tape_length a_tape_row) s.heap.size = A at hD hX ⊢
  have hA : ∀ q : Nat, s.heap.size ≤ q → A q := fun q h => by rw [← hAe]; exact Or.inr h
  have hS : va_S A s.heap s.heap [] := va_S.rf
  have hl := lv_entry ([.ref h_this]) (n := 2) (Nat.le_of_ble_eq_true rfl)
  rw [lg_entry_eq]
  generalize (lg_sl ([.ref h_this]) ++ List.replicate (2 - (lg_sl ([.ref h_this])).length) Slot.unset).toArray = ls at hl ⊢
  have hl : lv_has ls 2 [(0, .ref h_this)] := hl
  exact s_Numeral_passPrefix_e cx hK hA hX v_next v_sixteen v_tape_length a_tape_row s.heap [] ls hP hD hS hl hf
def f_Numeral_digitOf_41 (y0 : Int32) (y1 : Int32) : Option (Int32) :=
  if y1 = 0 then
    some (-1 : Int32)
  else
    if y0 < (65 : Int32) then
      some (-1 : Int32)
    else
      if (70 : Int32) < y0 then
        some (-1 : Int32)
      else
        some ((y0 - (65 : Int32)) + (10 : Int32))
def f_Numeral_digitOf_17 (y0 : Int32) (y1 : Int32) : Option (Int32) :=
  if y1 = 0 then
    f_Numeral_digitOf_41 y0 y1
  else
    if y0 < (97 : Int32) then
      f_Numeral_digitOf_41 y0 y1
    else
      if (102 : Int32) < y0 then
        f_Numeral_digitOf_41 y0 y1
      else
        some ((y0 - (97 : Int32)) + (10 : Int32))
def f_Numeral_digitOf (p0 : Int32) (p1 : Int32) : Option (Int32) :=
  if p0 < (48 : Int32) then
    f_Numeral_digitOf_17 p0 p1
  else
    if (57 : Int32) < p0 then
      f_Numeral_digitOf_17 p0 p1
    else
      some (p0 - (48 : Int32))
set_option maxHeartbeats 4000000 in
set_option maxRecDepth 100000 in
theorem s_Numeral_digitOf_41 {p : Program} {l : Launch} {e : Env} {s : State} {m : MethodId} {args : Array Value} {below : List Frame} {meth : Method} {c : Code} {dC : Nat → ClassId} {dI : Nat → Nat → Nat} {A : Nat → Prop} {X : SXT} {res : Int32}  (cx : cxx p s m args meth c b_Numeral_digitOf 2 (some .int) R_Numeral) (hK : va_K (dC, dI) classes [] s) (hA : ∀ q, s.heap.size ≤ q → A q) (hX : SX X A s s.heap)  : ∀ (y0 : Int32) (y1 : Int32) (H : Heap) (locs : List Loc) (ls : Array Slot), va_P (dC, dI) classes [] H → va_D A [] → va_S A s.heap H locs → lv_has ls 2 [(0, .int y0), (1, .int y1)] → f_Numeral_digitOf_41 y0 y1 = some res → W p l e ({ frames := 0, cells := 0, slots := 0, locals := 0 }) s m args below meth c H locs 0 0 (MQ below (va_Qi (fun (r : Int32) (_ : Unit) => some r = some res) (gB (dC, dI) [] A (fun (u : Unit) => [])) A) args s 0 0 A) (F0 m 41 ls []) := by
  intro y0 y1 H locs ls hP hD hS hl h
  obtain ⟨hx, hb, hr, hml, hown, ht, hlk⟩ := id cx
  refine lv_iload_n hx hb d_Numeral_digitOf_41 rfl (lv_at hl 1 rfl) ?_
  refine lv_if_eq (tgt := 65) hx hb d_Numeral_digitOf_42 (by decide) (fun c1 => ?_) (fun c1 => ?_)
  · have h := if_t c1 h
    refine lv_iconst (v := -1) hx hb d_Numeral_digitOf_65 (by decide) ?_
    exact W.iret (v := (-1 : Int32)) hx hb hr (fun t ht9 hW => ⟨⟨(-1 : Int32), (), rfl, h, by rw [ht9]; exact hP, va_K.moved hW.alike hK, hD⟩, hS.F ht9⟩) hS.2.2 d_Numeral_digitOf_66 hlk
  · have h := if_f c1 h
    refine lv_iload_n hx hb d_Numeral_digitOf_45 rfl (lv_at hl 0 rfl) ?_
    refine lv_bipush (v := 65) hx hb d_Numeral_digitOf_46 (by decide) ?_
    refine lv_icmp_lt (tgt := 65) hx hb d_Numeral_digitOf_48 (by decide) (fun c2 => ?_) (fun c2 => ?_)
    · have h := if_t c2 h
      refine lv_iconst (v := -1) hx hb d_Numeral_digitOf_65 (by decide) ?_
      exact W.iret (v := (-1 : Int32)) hx hb hr (fun t ht9 hW => ⟨⟨(-1 : Int32), (), rfl, h, by rw [ht9]; exact hP, va_K.moved hW.alike hK, hD⟩, hS.F ht9⟩) hS.2.2 d_Numeral_digitOf_66 hlk
    · have h := if_f c2 h
      refine lv_iload_n hx hb d_Numeral_digitOf_51 rfl (lv_at hl 0 rfl) ?_
      refine lv_bipush (v := 70) hx hb d_Numeral_digitOf_52 (by decide) ?_
      refine lv_icmp_gt (tgt := 65) hx hb d_Numeral_digitOf_54 (by decide) (fun c3 => ?_) (fun c3 => ?_)
      · have h := if_t c3 h
        refine lv_iconst (v := -1) hx hb d_Numeral_digitOf_65 (by decide) ?_
        exact W.iret (v := (-1 : Int32)) hx hb hr (fun t ht9 hW => ⟨⟨(-1 : Int32), (), rfl, h, by rw [ht9]; exact hP, va_K.moved hW.alike hK, hD⟩, hS.F ht9⟩) hS.2.2 d_Numeral_digitOf_66 hlk
      · have h := if_f c3 h
        refine lv_iload_n hx hb d_Numeral_digitOf_57 rfl (lv_at hl 0 rfl) ?_
        refine lv_bipush (v := 65) hx hb d_Numeral_digitOf_58 (by decide) ?_
        refine lv_isub hx hb d_Numeral_digitOf_60 ?_
        refine lv_bipush (v := 10) hx hb d_Numeral_digitOf_61 (by decide) ?_
        refine lv_iadd hx hb d_Numeral_digitOf_63 ?_
        exact W.iret (v := ((y0 - (65 : Int32)) + (10 : Int32))) hx hb hr (fun t ht9 hW => ⟨⟨((y0 - (65 : Int32)) + (10 : Int32)), (), rfl, h, by rw [ht9]; exact hP, va_K.moved hW.alike hK, hD⟩, hS.F ht9⟩) hS.2.2 d_Numeral_digitOf_64 hlk
set_option maxHeartbeats 4000000 in
set_option maxRecDepth 100000 in
theorem s_Numeral_digitOf_17 {p : Program} {l : Launch} {e : Env} {s : State} {m : MethodId} {args : Array Value} {below : List Frame} {meth : Method} {c : Code} {dC : Nat → ClassId} {dI : Nat → Nat → Nat} {A : Nat → Prop} {X : SXT} {res : Int32}  (cx : cxx p s m args meth c b_Numeral_digitOf 2 (some .int) R_Numeral) (hK : va_K (dC, dI) classes [] s) (hA : ∀ q, s.heap.size ≤ q → A q) (hX : SX X A s s.heap)  : ∀ (y0 : Int32) (y1 : Int32) (H : Heap) (locs : List Loc) (ls : Array Slot), va_P (dC, dI) classes [] H → va_D A [] → va_S A s.heap H locs → lv_has ls 2 [(0, .int y0), (1, .int y1)] → f_Numeral_digitOf_17 y0 y1 = some res → W p l e ({ frames := 0, cells := 0, slots := 0, locals := 0 }) s m args below meth c H locs 0 0 (MQ below (va_Qi (fun (r : Int32) (_ : Unit) => some r = some res) (gB (dC, dI) [] A (fun (u : Unit) => [])) A) args s 0 0 A) (F0 m 17 ls []) := by
  intro y0 y1 H locs ls hP hD hS hl h
  obtain ⟨hx, hb, hr, hml, hown, ht, hlk⟩ := id cx
  refine lv_iload_n hx hb d_Numeral_digitOf_17 rfl (lv_at hl 1 rfl) ?_
  refine lv_if_eq (tgt := 41) hx hb d_Numeral_digitOf_18 (by decide) (fun c4 => ?_) (fun c4 => ?_)
  · have h := if_t c4 h
    exact s_Numeral_digitOf_41 cx hK hA hX y0 y1 H locs ls hP hD hS (lv_sub hl [0, 1] rfl) h
  · have h := if_f c4 h
    refine lv_iload_n hx hb d_Numeral_digitOf_21 rfl (lv_at hl 0 rfl) ?_
    refine lv_bipush (v := 97) hx hb d_Numeral_digitOf_22 (by decide) ?_
    refine lv_icmp_lt (tgt := 41) hx hb d_Numeral_digitOf_24 (by decide) (fun c5 => ?_) (fun c5 => ?_)
    · have h := if_t c5 h
      exact s_Numeral_digitOf_41 cx hK hA hX y0 y1 H locs ls hP hD hS (lv_sub hl [0, 1] rfl) h
    · have h := if_f c5 h
      refine lv_iload_n hx hb d_Numeral_digitOf_27 rfl (lv_at hl 0 rfl) ?_
      refine lv_bipush (v := 102) hx hb d_Numeral_digitOf_28 (by decide) ?_
      refine lv_icmp_gt (tgt := 41) hx hb d_Numeral_digitOf_30 (by decide) (fun c6 => ?_) (fun c6 => ?_)
      · have h := if_t c6 h
        exact s_Numeral_digitOf_41 cx hK hA hX y0 y1 H locs ls hP hD hS (lv_sub hl [0, 1] rfl) h
      · have h := if_f c6 h
        refine lv_iload_n hx hb d_Numeral_digitOf_33 rfl (lv_at hl 0 rfl) ?_
        refine lv_bipush (v := 97) hx hb d_Numeral_digitOf_34 (by decide) ?_
        refine lv_isub hx hb d_Numeral_digitOf_36 ?_
        refine lv_bipush (v := 10) hx hb d_Numeral_digitOf_37 (by decide) ?_
        refine lv_iadd hx hb d_Numeral_digitOf_39 ?_
        exact W.iret (v := ((y0 - (97 : Int32)) + (10 : Int32))) hx hb hr (fun t ht9 hW => ⟨⟨((y0 - (97 : Int32)) + (10 : Int32)), (), rfl, h, by rw [ht9]; exact hP, va_K.moved hW.alike hK, hD⟩, hS.F ht9⟩) hS.2.2 d_Numeral_digitOf_40 hlk
set_option maxHeartbeats 4000000 in
set_option maxRecDepth 100000 in
theorem s_Numeral_digitOf_e {p : Program} {l : Launch} {e : Env} {s : State} {m : MethodId} {args : Array Value} {below : List Frame} {meth : Method} {c : Code} {dC : Nat → ClassId} {dI : Nat → Nat → Nat} {A : Nat → Prop} {X : SXT} {res : Int32} (cx : cxx p s m args meth c b_Numeral_digitOf 2 (some .int) R_Numeral) (hK : va_K (dC, dI) classes [] s) (hA : ∀ q, s.heap.size ≤ q → A q) (hX : SX X A s s.heap) : ∀ (p0 : Int32) (p1 : Int32) (H : Heap) (locs : List Loc) (ls : Array Slot), va_P (dC, dI) classes [] H → va_D A [] → va_S A s.heap H locs → lv_has ls 2 [(0, .int p0), (1, .int p1)] → f_Numeral_digitOf p0 p1 = some res → W p l e ({ frames := 0, cells := 0, slots := 0, locals := 0 }) s m args below meth c H locs 0 0 (MQ below (va_Qi (fun (r : Int32) (_ : Unit) => some r = some res) (gB (dC, dI) [] A (fun (u : Unit) => [])) A) args s 0 0 A) (F0 m 0 ls []) := by
  intro p0 p1 H locs ls hP hD hS hl h
  obtain ⟨hx, hb, hr, hml, hown, ht, hlk⟩ := id cx
  refine lv_iload_n hx hb d_Numeral_digitOf_0 rfl (lv_at hl 0 rfl) ?_
  refine lv_bipush (v := 48) hx hb d_Numeral_digitOf_1 (by decide) ?_
  refine lv_icmp_lt (tgt := 17) hx hb d_Numeral_digitOf_3 (by decide) (fun c7 => ?_) (fun c7 => ?_)
  · have h := if_t c7 h
    exact s_Numeral_digitOf_17 cx hK hA hX p0 p1 H locs ls hP hD hS (lv_sub hl [0, 1] rfl) h
  · have h := if_f c7 h
    refine lv_iload_n hx hb d_Numeral_digitOf_6 rfl (lv_at hl 0 rfl) ?_
    refine lv_bipush (v := 57) hx hb d_Numeral_digitOf_7 (by decide) ?_
    refine lv_icmp_gt (tgt := 17) hx hb d_Numeral_digitOf_9 (by decide) (fun c8 => ?_) (fun c8 => ?_)
    · have h := if_t c8 h
      exact s_Numeral_digitOf_17 cx hK hA hX p0 p1 H locs ls hP hD hS (lv_sub hl [0, 1] rfl) h
    · have h := if_f c8 h
      refine lv_iload_n hx hb d_Numeral_digitOf_12 rfl (lv_at hl 0 rfl) ?_
      refine lv_bipush (v := 48) hx hb d_Numeral_digitOf_13 (by decide) ?_
      refine lv_isub hx hb d_Numeral_digitOf_15 ?_
      exact W.iret (v := (p0 - (48 : Int32))) hx hb hr (fun t ht9 hW => ⟨⟨(p0 - (48 : Int32)), (), rfl, h, by rw [ht9]; exact hP, va_K.moved hW.alike hK, hD⟩, hS.F ht9⟩) hS.2.2 d_Numeral_digitOf_16 hlk
set_option maxHeartbeats 4000000 in
set_option maxRecDepth 100000 in
theorem c_Numeral_digitOf (l : Launch) (dC : Nat → ClassId) (dI : Nat → Nat → Nat) (X : SXT) (sz : Nat) (p0 : Int32) (p1 : Int32) (res : Int32) (hf : f_Numeral_digitOf p0 p1 = some res) : Met l y_Numeral_digitOf (.code y_Numeral_digitOf b_Numeral_digitOf 2 (some .int) :: w0) ({ frames := 0, cells := 0, slots := 0, locals := 0 }) (va_Pc [.int p0, .int p1] (gP (dC, dI) [] [] sz X)) (va_Qi (fun (r : Int32) (_ : Unit) => some r = some res) (gB (dC, dI) [] (va_A [] sz) (fun (u : Unit) => [])) (va_A [] sz)) 0 0 (va_A [] sz) := by
  refine Met.ofW (cc := b_Numeral_digitOf) (maxL := 2) (ret := (some .int)) (by decide) rfl ?_
  intro p e s m args below meth c s₁ B hml hv
  obtain ⟨rfl, hsz, hP, hK, hD0, hX⟩ := hv
  subst hsz
  have cx : cxx p s m ([.int p0, .int p1] : List Value).toArray meth c b_Numeral_digitOf 2 (some .int) R_Numeral := ⟨B.exec, B.bytes, B.returns, hml, findClass_of_methodNamed B.named, fun w9 hw => atoms_spec (ws := .code y_Numeral_digitOf b_Numeral_digitOf 2 (some .int) :: w0) B.pre w9 (List.mem_cons_of_mem _ hw), B.notSynchronized⟩
  have hD := hD0.self (sz := s.heap.size)
  generalize hAe : va_A [] s.heap.size = A at hD hX ⊢
  have hA : ∀ q : Nat, s.heap.size ≤ q → A q := fun q h => by rw [← hAe]; exact Or.inr h
  have hS : va_S A s.heap s.heap [] := va_S.rf
  have hl := lv_entry ([.int p0, .int p1]) (n := 2) (Nat.le_of_ble_eq_true rfl)
  rw [lg_entry_eq]
  generalize (lg_sl ([.int p0, .int p1]) ++ List.replicate (2 - (lg_sl ([.int p0, .int p1])).length) Slot.unset).toArray = ls at hl ⊢
  have hl : lv_has ls 2 [(0, .int p0), (1, .int p1)] := hl
  exact s_Numeral_digitOf_e cx hK hA hX p0 p1 s.heap [] ls hP hD hS hl hf
abbrev WS_Numeral_passDigits (h_this : Nat) (h_this_tape : Nat) (h_this_tape_row : Nat) (c_this_tape_row : ClassId) (v_next : Int32) (v_negative : Int32) (v_sixteen : Int32) (v_hasPoint : Int32) (v_hasPower : Int32) (v_from : Int32) (v_to : Int32) (v_before : Int32) (v_digits : Int32) (v_power : Int32) (v_found : Int64) (v_tape_length : Int32) (a_tape_row : (Nat → Int32)) : va_W := [(h_this, .inr (2, [.ref h_this_tape, .int v_next, .int v_negative, .int v_sixteen, .int v_hasPoint, .int v_hasPower, .int v_from, .int v_to, .int v_before, .int v_digits, .int v_power, .long v_found])), (h_this_tape, .inr (1, [.ref h_this_tape_row, .int v_tape_length])), (h_this_tape_row, .inl (c_this_tape_row, 1200, .inl a_tape_row))]
def f_Numeral_passDigits_127 (v_next : Int32) (v_sixteen : Int32) (v_hasPoint : Int32) (v_from : Int32) (v_to : Int32) (v_before : Int32) (v_digits : Int32) (v_tape_length : Int32) (a_tape_row : (Nat → Int32)) : Option (Int32 × Int32 × Int32 × Int32 × Int32 × Int32) :=
  some (v_next, v_hasPoint, v_from, v_next, v_before, v_digits)
def f_Numeral_passDigits_114 (k31 : Int32 → Int32 → Int32 → Int32 → Int32 → Int32 → Int32 → Int32 → (Nat → Int32) → Int32 → Option (Int32 × Int32 × Int32 × Int32 × Int32 × Int32)) (v_next : Int32) (v_sixteen : Int32) (v_hasPoint : Int32) (v_from : Int32) (v_to : Int32) (v_before : Int32) (v_digits : Int32) (v_tape_length : Int32) (a_tape_row : (Nat → Int32)) (y1 : Int32) : Option (Int32 × Int32 × Int32 × Int32 × Int32 × Int32) :=
  bd (v_next + (1 : Int32)) fun x1 =>
  k31 x1 v_sixteen v_hasPoint v_from v_to v_before v_digits v_tape_length a_tape_row y1
def f_Numeral_passDigits_89 (k31 : Int32 → Int32 → Int32 → Int32 → Int32 → Int32 → Int32 → Int32 → (Nat → Int32) → Int32 → Option (Int32 × Int32 × Int32 × Int32 × Int32 × Int32)) (v_next : Int32) (v_sixteen : Int32) (v_hasPoint : Int32) (v_from : Int32) (v_to : Int32) (v_before : Int32) (v_digits : Int32) (v_tape_length : Int32) (a_tape_row : (Nat → Int32)) (y1 : Int32) (z1 : Int32) (z2 : Int32) : Option (Int32 × Int32 × Int32 × Int32 × Int32 × Int32) :=
  bd (z1 + z2) fun x2 =>
  f_Numeral_passDigits_114 k31 v_next v_sixteen v_hasPoint v_from v_to x2 v_digits v_tape_length a_tape_row y1
def f_Numeral_passDigits_31b (k31 : Int32 → Int32 → Int32 → Int32 → Int32 → Int32 → Int32 → Int32 → (Nat → Int32) → Int32 → Option (Int32 × Int32 × Int32 × Int32 × Int32 × Int32)) (v_next : Int32) (v_sixteen : Int32) (v_hasPoint : Int32) (v_from : Int32) (v_to : Int32) (v_before : Int32) (v_digits : Int32) (v_tape_length : Int32) (a_tape_row : (Nat → Int32)) (y1 : Int32) : Option (Int32 × Int32 × Int32 × Int32 × Int32 × Int32) :=
  if y1 ≤ v_next then
    f_Numeral_passDigits_127 v_next v_sixteen v_hasPoint v_from v_to v_before v_digits v_tape_length a_tape_row
  else
    bi1 (f_Tape_at v_tape_length a_tape_row v_next) fun r4 =>
    bi1 (f_Numeral_digitOf r4 v_sixteen) fun r5 =>
    if r5 < 0 then
      if r4 = (46 : Int32) then
        if v_hasPoint = 0 then
          f_Numeral_passDigits_114 k31 v_next v_sixteen (1 : Int32) v_from v_to v_before v_digits v_tape_length a_tape_row y1
        else
          f_Numeral_passDigits_127 v_next v_sixteen v_hasPoint v_from v_to v_before v_digits v_tape_length a_tape_row
      else
        f_Numeral_passDigits_127 v_next v_sixteen v_hasPoint v_from v_to v_before v_digits v_tape_length a_tape_row
    else
      bd (v_digits + (1 : Int32)) fun x9 =>
      if v_hasPoint = 0 then
        f_Numeral_passDigits_89 k31 v_next v_sixteen v_hasPoint v_from v_to v_before x9 v_tape_length a_tape_row y1 v_before (1 : Int32)
      else
        f_Numeral_passDigits_89 k31 v_next v_sixteen v_hasPoint v_from v_to v_before x9 v_tape_length a_tape_row y1 v_before (0 : Int32)
def f_Numeral_passDigits_31 : Nat → Int32 → Int32 → Int32 → Int32 → Int32 → Int32 → Int32 → Int32 → (Nat → Int32) → Int32 → Option (Int32 × Int32 × Int32 × Int32 × Int32 × Int32)
  | 0 => fun _ _ _ _ _ _ _ _ _ _ => none
  | n + 1 => fun v_next v_sixteen v_hasPoint v_from v_to v_before v_digits v_tape_length a_tape_row y1 => f_Numeral_passDigits_31b (f_Numeral_passDigits_31 n) v_next v_sixteen v_hasPoint v_from v_to v_before v_digits v_tape_length a_tape_row y1
def f_Numeral_passDigits (v_next : Int32) (v_sixteen : Int32) (v_hasPoint : Int32) (v_from : Int32) (v_to : Int32) (v_before : Int32) (v_digits : Int32) (v_tape_length : Int32) (a_tape_row : (Nat → Int32)) : Option (Int32 × Int32 × Int32 × Int32 × Int32 × Int32) :=
  bi1 (f_Tape_length v_tape_length) fun r11 =>
  f_Numeral_passDigits_31 fu v_next v_sixteen (0 : Int32) v_next v_to (0 : Int32) (0 : Int32) v_tape_length a_tape_row r11
set_option maxHeartbeats 4000000 in
set_option maxRecDepth 100000 in
theorem s_Numeral_passDigits_127 {p : Program} {l : Launch} {e : Env} {s : State} {m : MethodId} {args : Array Value} {below : List Frame} {meth : Method} {c : Code} {dC : Nat → ClassId} {dI : Nat → Nat → Nat} {A : Nat → Prop} {X : SXT} {h_this : Nat} {h_this_tape : Nat} {h_this_tape_row : Nat} {c_this_tape_row : ClassId} {v_negative : Int32} {v_hasPower : Int32} {v_power : Int32} {v_found : Int64} {res : Int32 × Int32 × Int32 × Int32 × Int32 × Int32}  (cx : cxx p s m args meth c b_Numeral_passDigits 3 none R_Numeral) (hK : va_K (dC, dI) classes [(c_this_tape_row, .byte)] s) (hA : ∀ q, s.heap.size ≤ q → A q) (hX : SX X A s s.heap)  : ∀ (v_next : Int32) (v_sixteen : Int32) (v_hasPoint : Int32) (v_from : Int32) (v_to : Int32) (v_before : Int32) (v_digits : Int32) (v_tape_length : Int32) (a_tape_row : (Nat → Int32)) (H : Heap) (locs : List Loc) (ls : Array Slot), va_P (dC, dI) classes (WS_Numeral_passDigits h_this h_this_tape h_this_tape_row c_this_tape_row v_next v_negative v_sixteen v_hasPoint v_hasPower v_from v_to v_before v_digits v_power v_found v_tape_length a_tape_row) H → va_D A (WS_Numeral_passDigits h_this h_this_tape h_this_tape_row c_this_tape_row v_next v_negative v_sixteen v_hasPoint v_hasPower v_from v_to v_before v_digits v_power v_found v_tape_length a_tape_row) → va_S A s.heap H locs → lv_has ls 3 [(0, .ref h_this)] → f_Numeral_passDigits_127 v_next v_sixteen v_hasPoint v_from v_to v_before v_digits v_tape_length a_tape_row = some res → W p l e ({ frames := 1, cells := 0, slots := 0, locals := 21 }) s m args below meth c H locs 0 0 (MQ below (va_Qv (fun (u : Int32 × Int32 × Int32 × Int32 × Int32 × Int32) => some u = some res) (gB (dC, dI) [(c_this_tape_row, .byte)] A (fun (u : Int32 × Int32 × Int32 × Int32 × Int32 × Int32) => (WS_Numeral_passDigits h_this h_this_tape h_this_tape_row c_this_tape_row u.1 v_negative v_sixteen u.2.1 v_hasPower u.2.2.1 u.2.2.2.1 u.2.2.2.2.1 u.2.2.2.2.2 v_power v_found v_tape_length a_tape_row))) A) args s 0 0 A) (F0 m 127 ls []) := by
  intro v_next v_sixteen v_hasPoint v_from v_to v_before v_digits v_tape_length a_tape_row H locs ls hP hD hS hl h
  obtain ⟨hx, hb, hr, hml, hown, ht, hlk⟩ := id cx
  refine lv_aload_n hx hb d_Numeral_passDigits_127 rfl (lv_at hl 0 rfl) ?_
  refine lv_aload_n hx hb d_Numeral_passDigits_128 rfl (lv_at hl 0 rfl) ?_
  refine va_get (D := (dC, dI)) (ci := 2) (v := .int v_next) (C := R_Numeral) (T := F_Numeral) (N := 12) hx hb ht i_Numeral hown hK hP 0 rfl rfl 1 (by decide) (ht _ q_16) (fun _ h9 => h9) rfl d_Numeral_passDigits_129 ?_
  refine va_put (D := (dC, dI)) (ci := 2) (v := .int v_next) (ty := .int) (C := R_Numeral) (T := F_Numeral) (N := 12) hx hb ht i_Numeral t_Numeral t_Numeral_ok n_Numeral hown hK hP hD hS 0 rfl rfl 7 (by decide) (ht _ q_28) (fun _ h9 => h9) rfl (t_Numeral_ok 7 (by decide)) rfl rfl (Nat.le_of_ble_eq_true rfl) d_Numeral_passDigits_132 (fun H locs hP hD hS => ?_)
  have hP : va_P (dC, dI) classes (WS_Numeral_passDigits h_this h_this_tape h_this_tape_row c_this_tape_row v_next v_negative v_sixteen v_hasPoint v_hasPower v_from v_next v_before v_digits v_power v_found v_tape_length a_tape_row) H := hP
  have hD : va_D A (WS_Numeral_passDigits h_this h_this_tape h_this_tape_row c_this_tape_row v_next v_negative v_sixteen v_hasPoint v_hasPower v_from v_next v_before v_digits v_power v_found v_tape_length a_tape_row) := hD
  exact W.vret hx hb hr (fun t ht9 hW => ⟨⟨(v_next, v_hasPoint, v_from, v_next, v_before, v_digits), rfl, h, by rw [ht9]; exact hP, va_K.moved hW.alike hK, hD⟩, hS.F ht9⟩) hS.2.2 d_Numeral_passDigits_135 hlk
set_option maxHeartbeats 4000000 in
set_option maxRecDepth 100000 in
theorem s_Numeral_passDigits_114 {p : Program} {l : Launch} {e : Env} {s : State} {m : MethodId} {args : Array Value} {below : List Frame} {meth : Method} {c : Code} {dC : Nat → ClassId} {dI : Nat → Nat → Nat} {A : Nat → Prop} {X : SXT} {h_this : Nat} {h_this_tape : Nat} {h_this_tape_row : Nat} {c_this_tape_row : ClassId} {v_negative : Int32} {v_hasPower : Int32} {v_power : Int32} {v_found : Int64} {res : Int32 × Int32 × Int32 × Int32 × Int32 × Int32} {k31 : Int32 → Int32 → Int32 → Int32 → Int32 → Int32 → Int32 → Int32 → (Nat → Int32) → Int32 → Option (Int32 × Int32 × Int32 × Int32 × Int32 × Int32)} (cx : cxx p s m args meth c b_Numeral_passDigits 3 none R_Numeral) (hK : va_K (dC, dI) classes [(c_this_tape_row, .byte)] s) (hA : ∀ q, s.heap.size ≤ q → A q) (hX : SX X A s s.heap) (hk31 : ∀ (v_next : Int32) (v_sixteen : Int32) (v_hasPoint : Int32) (v_from : Int32) (v_to : Int32) (v_before : Int32) (v_digits : Int32) (v_tape_length : Int32) (a_tape_row : (Nat → Int32)) (y1 : Int32) (H : Heap) (locs : List Loc) (ls : Array Slot), va_P (dC, dI) classes (WS_Numeral_passDigits h_this h_this_tape h_this_tape_row c_this_tape_row v_next v_negative v_sixteen v_hasPoint v_hasPower v_from v_to v_before v_digits v_power v_found v_tape_length a_tape_row) H → va_D A (WS_Numeral_passDigits h_this h_this_tape h_this_tape_row c_this_tape_row v_next v_negative v_sixteen v_hasPoint v_hasPower v_from v_to v_before v_digits v_power v_found v_tape_length a_tape_row) → va_S A s.heap H locs → lv_has ls 3 [(0, .ref h_this), (1, .int y1)] → k31 v_next v_sixteen v_hasPoint v_from v_to v_before v_digits v_tape_length a_tape_row y1 = some res → W p l e ({ frames := 1, cells := 0, slots := 0, locals := 21 }) s m args below meth c H locs 0 0 (MQ below (va_Qv (fun (u : Int32 × Int32 × Int32 × Int32 × Int32 × Int32) => some u = some res) (gB (dC, dI) [(c_this_tape_row, .byte)] A (fun (u : Int32 × Int32 × Int32 × Int32 × Int32 × Int32) => (WS_Numeral_passDigits h_this h_this_tape h_this_tape_row c_this_tape_row u.1 v_negative v_sixteen u.2.1 v_hasPower u.2.2.1 u.2.2.2.1 u.2.2.2.2.1 u.2.2.2.2.2 v_power v_found v_tape_length a_tape_row))) A) args s 0 0 A) (F0 m 31 ls [])) : ∀ (v_next : Int32) (v_sixteen : Int32) (v_hasPoint : Int32) (v_from : Int32) (v_to : Int32) (v_before : Int32) (v_digits : Int32) (v_tape_length : Int32) (a_tape_row : (Nat → Int32)) (y1 : Int32) (H : Heap) (locs : List Loc) (ls : Array Slot), va_P (dC, dI) classes (WS_Numeral_passDigits h_this h_this_tape h_this_tape_row c_this_tape_row v_next v_negative v_sixteen v_hasPoint v_hasPower v_from v_to v_before v_digits v_power v_found v_tape_length a_tape_row) H → va_D A (WS_Numeral_passDigits h_this h_this_tape h_this_tape_row c_this_tape_row v_next v_negative v_sixteen v_hasPoint v_hasPower v_from v_to v_before v_digits v_power v_found v_tape_length a_tape_row) → va_S A s.heap H locs → lv_has ls 3 [(0, .ref h_this), (1, .int y1)] → f_Numeral_passDigits_114 k31 v_next v_sixteen v_hasPoint v_from v_to v_before v_digits v_tape_length a_tape_row y1 = some res → W p l e ({ frames := 1, cells := 0, slots := 0, locals := 21 }) s m args below meth c H locs 0 0 (MQ below (va_Qv (fun (u : Int32 × Int32 × Int32 × Int32 × Int32 × Int32) => some u = some res) (gB (dC, dI) [(c_this_tape_row, .byte)] A (fun (u : Int32 × Int32 × Int32 × Int32 × Int32 × Int32) => (WS_Numeral_passDigits h_this h_this_tape h_this_tape_row c_this_tape_row u.1 v_negative v_sixteen u.2.1 v_hasPower u.2.2.1 u.2.2.2.1 u.2.2.2.2.1 u.2.2.2.2.2 v_power v_found v_tape_length a_tape_row))) A) args s 0 0 A) (F0 m 114 ls []) := by
  intro v_next v_sixteen v_hasPoint v_from v_to v_before v_digits v_tape_length a_tape_row y1 H locs ls hP hD hS hl h
  obtain ⟨hx, hb, hr, hml, hown, ht, hlk⟩ := id cx
  refine lv_aload_n hx hb d_Numeral_passDigits_114 rfl (lv_at hl 0 rfl) ?_
  refine lv_dup hx hb d_Numeral_passDigits_115 rfl ?_
  refine va_get (D := (dC, dI)) (ci := 2) (v := .int v_next) (C := R_Numeral) (T := F_Numeral) (N := 12) hx hb ht i_Numeral hown hK hP 0 rfl rfl 1 (by decide) (ht _ q_16) (fun _ h9 => h9) rfl d_Numeral_passDigits_116 ?_
  refine lv_iconst (v := 1) hx hb d_Numeral_passDigits_119 (by decide) ?_
  refine lv_iadd hx hb d_Numeral_passDigits_120 ?_
  refine lv_topi (fun x1 e_x1 => ?_)
  have h := bd_g e_x1 h
  refine va_put (D := (dC, dI)) (ci := 2) (v := .int x1) (ty := .int) (C := R_Numeral) (T := F_Numeral) (N := 12) hx hb ht i_Numeral t_Numeral t_Numeral_ok n_Numeral hown hK hP hD hS 0 rfl rfl 1 (by decide) (ht _ q_16) (fun _ h9 => h9) rfl (t_Numeral_ok 1 (by decide)) rfl rfl (Nat.le_of_ble_eq_true rfl) d_Numeral_passDigits_121 (fun H locs hP hD hS => ?_)
  have hP : va_P (dC, dI) classes (WS_Numeral_passDigits h_this h_this_tape h_this_tape_row c_this_tape_row x1 v_negative v_sixteen v_hasPoint v_hasPower v_from v_to v_before v_digits v_power v_found v_tape_length a_tape_row) H := hP
  have hD : va_D A (WS_Numeral_passDigits h_this h_this_tape h_this_tape_row c_this_tape_row x1 v_negative v_sixteen v_hasPoint v_hasPower v_from v_to v_before v_digits v_power v_found v_tape_length a_tape_row) := hD
  refine lv_goto (tgt := 31) hx hb d_Numeral_passDigits_124 (by decide) ?_
  exact hk31 x1 v_sixteen v_hasPoint v_from v_to v_before v_digits v_tape_length a_tape_row y1 H locs ls hP hD hS (lv_sub hl [0, 1] rfl) h
set_option maxHeartbeats 4000000 in
set_option maxRecDepth 100000 in
theorem s_Numeral_passDigits_89 {p : Program} {l : Launch} {e : Env} {s : State} {m : MethodId} {args : Array Value} {below : List Frame} {meth : Method} {c : Code} {dC : Nat → ClassId} {dI : Nat → Nat → Nat} {A : Nat → Prop} {X : SXT} {h_this : Nat} {h_this_tape : Nat} {h_this_tape_row : Nat} {c_this_tape_row : ClassId} {v_negative : Int32} {v_hasPower : Int32} {v_power : Int32} {v_found : Int64} {res : Int32 × Int32 × Int32 × Int32 × Int32 × Int32} {k31 : Int32 → Int32 → Int32 → Int32 → Int32 → Int32 → Int32 → Int32 → (Nat → Int32) → Int32 → Option (Int32 × Int32 × Int32 × Int32 × Int32 × Int32)} (cx : cxx p s m args meth c b_Numeral_passDigits 3 none R_Numeral) (hK : va_K (dC, dI) classes [(c_this_tape_row, .byte)] s) (hA : ∀ q, s.heap.size ≤ q → A q) (hX : SX X A s s.heap) (hk31 : ∀ (v_next : Int32) (v_sixteen : Int32) (v_hasPoint : Int32) (v_from : Int32) (v_to : Int32) (v_before : Int32) (v_digits : Int32) (v_tape_length : Int32) (a_tape_row : (Nat → Int32)) (y1 : Int32) (H : Heap) (locs : List Loc) (ls : Array Slot), va_P (dC, dI) classes (WS_Numeral_passDigits h_this h_this_tape h_this_tape_row c_this_tape_row v_next v_negative v_sixteen v_hasPoint v_hasPower v_from v_to v_before v_digits v_power v_found v_tape_length a_tape_row) H → va_D A (WS_Numeral_passDigits h_this h_this_tape h_this_tape_row c_this_tape_row v_next v_negative v_sixteen v_hasPoint v_hasPower v_from v_to v_before v_digits v_power v_found v_tape_length a_tape_row) → va_S A s.heap H locs → lv_has ls 3 [(0, .ref h_this), (1, .int y1)] → k31 v_next v_sixteen v_hasPoint v_from v_to v_before v_digits v_tape_length a_tape_row y1 = some res → W p l e ({ frames := 1, cells := 0, slots := 0, locals := 21 }) s m args below meth c H locs 0 0 (MQ below (va_Qv (fun (u : Int32 × Int32 × Int32 × Int32 × Int32 × Int32) => some u = some res) (gB (dC, dI) [(c_this_tape_row, .byte)] A (fun (u : Int32 × Int32 × Int32 × Int32 × Int32 × Int32) => (WS_Numeral_passDigits h_this h_this_tape h_this_tape_row c_this_tape_row u.1 v_negative v_sixteen u.2.1 v_hasPower u.2.2.1 u.2.2.2.1 u.2.2.2.2.1 u.2.2.2.2.2 v_power v_found v_tape_length a_tape_row))) A) args s 0 0 A) (F0 m 31 ls [])) : ∀ (v_next : Int32) (v_sixteen : Int32) (v_hasPoint : Int32) (v_from : Int32) (v_to : Int32) (v_before : Int32) (v_digits : Int32) (v_tape_length : Int32) (a_tape_row : (Nat → Int32)) (y1 : Int32) (z1 : Int32) (z2 : Int32) (H : Heap) (locs : List Loc) (ls : Array Slot), va_P (dC, dI) classes (WS_Numeral_passDigits h_this h_this_tape h_this_tape_row c_this_tape_row v_next v_negative v_sixteen v_hasPoint v_hasPower v_from v_to v_before v_digits v_power v_found v_tape_length a_tape_row) H → va_D A (WS_Numeral_passDigits h_this h_this_tape h_this_tape_row c_this_tape_row v_next v_negative v_sixteen v_hasPoint v_hasPower v_from v_to v_before v_digits v_power v_found v_tape_length a_tape_row) → va_S A s.heap H locs → lv_has ls 3 [(0, .ref h_this), (1, .int y1)] → f_Numeral_passDigits_89 k31 v_next v_sixteen v_hasPoint v_from v_to v_before v_digits v_tape_length a_tape_row y1 z1 z2 = some res → W p l e ({ frames := 1, cells := 0, slots := 0, locals := 21 }) s m args below meth c H locs 0 0 (MQ below (va_Qv (fun (u : Int32 × Int32 × Int32 × Int32 × Int32 × Int32) => some u = some res) (gB (dC, dI) [(c_this_tape_row, .byte)] A (fun (u : Int32 × Int32 × Int32 × Int32 × Int32 × Int32) => (WS_Numeral_passDigits h_this h_this_tape h_this_tape_row c_this_tape_row u.1 v_negative v_sixteen u.2.1 v_hasPower u.2.2.1 u.2.2.2.1 u.2.2.2.2.1 u.2.2.2.2.2 v_power v_found v_tape_length a_tape_row))) A) args s 0 0 A) (F0 m 89 ls [.int z2, .int z1, .ref h_this]) := by
  intro v_next v_sixteen v_hasPoint v_from v_to v_before v_digits v_tape_length a_tape_row y1 z1 z2 H locs ls hP hD hS hl h
  obtain ⟨hx, hb, hr, hml, hown, ht, hlk⟩ := id cx
  refine lv_iadd hx hb d_Numeral_passDigits_89 ?_
  refine lv_topi (fun x2 e_x2 => ?_)
  have h := bd_g e_x2 h
  refine va_put (D := (dC, dI)) (ci := 2) (v := .int x2) (ty := .int) (C := R_Numeral) (T := F_Numeral) (N := 12) hx hb ht i_Numeral t_Numeral t_Numeral_ok n_Numeral hown hK hP hD hS 0 rfl rfl 8 (by decide) (ht _ q_29) (fun _ h9 => h9) rfl (t_Numeral_ok 8 (by decide)) rfl rfl (Nat.le_of_ble_eq_true rfl) d_Numeral_passDigits_90 (fun H locs hP hD hS => ?_)
  have hP : va_P (dC, dI) classes (WS_Numeral_passDigits h_this h_this_tape h_this_tape_row c_this_tape_row v_next v_negative v_sixteen v_hasPoint v_hasPower v_from v_to x2 v_digits v_power v_found v_tape_length a_tape_row) H := hP
  have hD : va_D A (WS_Numeral_passDigits h_this h_this_tape h_this_tape_row c_this_tape_row v_next v_negative v_sixteen v_hasPoint v_hasPower v_from v_to x2 v_digits v_power v_found v_tape_length a_tape_row) := hD
  refine lv_goto (tgt := 114) hx hb d_Numeral_passDigits_93 (by decide) ?_
  exact s_Numeral_passDigits_114 cx hK hA hX hk31 v_next v_sixteen v_hasPoint v_from v_to x2 v_digits v_tape_length a_tape_row y1 H locs ls hP hD hS (lv_sub hl [0, 1] rfl) h
set_option maxHeartbeats 4000000 in
set_option maxRecDepth 100000 in
theorem s_Numeral_passDigits_31b {p : Program} {l : Launch} {e : Env} {s : State} {m : MethodId} {args : Array Value} {below : List Frame} {meth : Method} {c : Code} {dC : Nat → ClassId} {dI : Nat → Nat → Nat} {A : Nat → Prop} {X : SXT} {h_this : Nat} {h_this_tape : Nat} {h_this_tape_row : Nat} {c_this_tape_row : ClassId} {v_negative : Int32} {v_hasPower : Int32} {v_power : Int32} {v_found : Int64} {res : Int32 × Int32 × Int32 × Int32 × Int32 × Int32} {k31 : Int32 → Int32 → Int32 → Int32 → Int32 → Int32 → Int32 → Int32 → (Nat → Int32) → Int32 → Option (Int32 × Int32 × Int32 × Int32 × Int32 × Int32)} (cx : cxx p s m args meth c b_Numeral_passDigits 3 none R_Numeral) (hK : va_K (dC, dI) classes [(c_this_tape_row, .byte)] s) (hA : ∀ q, s.heap.size ≤ q → A q) (hX : SX X A s s.heap) (hk31 : ∀ (v_next : Int32) (v_sixteen : Int32) (v_hasPoint : Int32) (v_from : Int32) (v_to : Int32) (v_before : Int32) (v_digits : Int32) (v_tape_length : Int32) (a_tape_row : (Nat → Int32)) (y1 : Int32) (H : Heap) (locs : List Loc) (ls : Array Slot), va_P (dC, dI) classes (WS_Numeral_passDigits h_this h_this_tape h_this_tape_row c_this_tape_row v_next v_negative v_sixteen v_hasPoint v_hasPower v_from v_to v_before v_digits v_power v_found v_tape_length a_tape_row) H → va_D A (WS_Numeral_passDigits h_this h_this_tape h_this_tape_row c_this_tape_row v_next v_negative v_sixteen v_hasPoint v_hasPower v_from v_to v_before v_digits v_power v_found v_tape_length a_tape_row) → va_S A s.heap H locs → lv_has ls 3 [(0, .ref h_this), (1, .int y1)] → k31 v_next v_sixteen v_hasPoint v_from v_to v_before v_digits v_tape_length a_tape_row y1 = some res → W p l e ({ frames := 1, cells := 0, slots := 0, locals := 21 }) s m args below meth c H locs 0 0 (MQ below (va_Qv (fun (u : Int32 × Int32 × Int32 × Int32 × Int32 × Int32) => some u = some res) (gB (dC, dI) [(c_this_tape_row, .byte)] A (fun (u : Int32 × Int32 × Int32 × Int32 × Int32 × Int32) => (WS_Numeral_passDigits h_this h_this_tape h_this_tape_row c_this_tape_row u.1 v_negative v_sixteen u.2.1 v_hasPower u.2.2.1 u.2.2.2.1 u.2.2.2.2.1 u.2.2.2.2.2 v_power v_found v_tape_length a_tape_row))) A) args s 0 0 A) (F0 m 31 ls [])) : ∀ (v_next : Int32) (v_sixteen : Int32) (v_hasPoint : Int32) (v_from : Int32) (v_to : Int32) (v_before : Int32) (v_digits : Int32) (v_tape_length : Int32) (a_tape_row : (Nat → Int32)) (y1 : Int32) (H : Heap) (locs : List Loc) (ls : Array Slot), va_P (dC, dI) classes (WS_Numeral_passDigits h_this h_this_tape h_this_tape_row c_this_tape_row v_next v_negative v_sixteen v_hasPoint v_hasPower v_from v_to v_before v_digits v_power v_found v_tape_length a_tape_row) H → va_D A (WS_Numeral_passDigits h_this h_this_tape h_this_tape_row c_this_tape_row v_next v_negative v_sixteen v_hasPoint v_hasPower v_from v_to v_before v_digits v_power v_found v_tape_length a_tape_row) → va_S A s.heap H locs → lv_has ls 3 [(0, .ref h_this), (1, .int y1)] → f_Numeral_passDigits_31b k31 v_next v_sixteen v_hasPoint v_from v_to v_before v_digits v_tape_length a_tape_row y1 = some res → W p l e ({ frames := 1, cells := 0, slots := 0, locals := 21 }) s m args below meth c H locs 0 0 (MQ below (va_Qv (fun (u : Int32 × Int32 × Int32 × Int32 × Int32 × Int32) => some u = some res) (gB (dC, dI) [(c_this_tape_row, .byte)] A (fun (u : Int32 × Int32 × Int32 × Int32 × Int32 × Int32) => (WS_Numeral_passDigits h_this h_this_tape h_this_tape_row c_this_tape_row u.1 v_negative v_sixteen u.2.1 v_hasPower u.2.2.1 u.2.2.2.1 u.2.2.2.2.1 u.2.2.2.2.2 v_power v_found v_tape_length a_tape_row))) A) args s 0 0 A) (F0 m 31 ls []) := by
  intro v_next v_sixteen v_hasPoint v_from v_to v_before v_digits v_tape_length a_tape_row y1 H locs ls hP hD hS hl h
  obtain ⟨hx, hb, hr, hml, hown, ht, hlk⟩ := id cx
  refine lv_aload_n hx hb d_Numeral_passDigits_31 rfl (lv_at hl 0 rfl) ?_
  refine va_get (D := (dC, dI)) (ci := 2) (v := .int v_next) (C := R_Numeral) (T := F_Numeral) (N := 12) hx hb ht i_Numeral hown hK hP 0 rfl rfl 1 (by decide) (ht _ q_16) (fun _ h9 => h9) rfl d_Numeral_passDigits_32 ?_
  refine lv_iload_n hx hb d_Numeral_passDigits_35 rfl (lv_at hl 1 rfl) ?_
  refine lv_icmp_ge (tgt := 127) hx hb d_Numeral_passDigits_36 (by decide) (fun c3 => ?_) (fun c3 => ?_)
  · have h := if_t c3 h
    exact s_Numeral_passDigits_127 cx hK hA hX v_next v_sixteen v_hasPoint v_from v_to v_before v_digits v_tape_length a_tape_row H locs ls hP hD hS (lv_sub hl [0] rfl) h
  · have h := if_f c3 h
    refine lv_aload_n hx hb d_Numeral_passDigits_39 rfl (lv_at hl 0 rfl) ?_
    refine va_get (D := (dC, dI)) (ci := 2) (v := .ref h_this_tape) (C := R_Numeral) (T := F_Numeral) (N := 12) hx hb ht i_Numeral hown hK hP 0 rfl rfl 0 (by decide) (ht _ q_17) (fun _ h9 => h9) rfl d_Numeral_passDigits_40 ?_
    refine lv_aload_n hx hb d_Numeral_passDigits_43 rfl (lv_at hl 0 rfl) ?_
    refine va_get (D := (dC, dI)) (ci := 2) (v := .int v_next) (C := R_Numeral) (T := F_Numeral) (N := 12) hx hb ht i_Numeral hown hK hP 0 rfl rfl 1 (by decide) (ht _ q_16) (fun _ h9 => h9) rfl d_Numeral_passDigits_44 ?_
    obtain ⟨r4, hf, h⟩ := bi1_x h
    refine clVi (D := (dC, dI)) (n := 1) (As := [.int v_next]) ⟨hx, hb, hml, hown, ht⟩ (c_Tape_at l dC dI X h_this_tape h_this_tape_row c_this_tape_row H.size v_tape_length a_tape_row v_next r4 hf) (gV q_18 q_19 q_20 q_6 q_21) (by decide +kernel) ⟨rfl, rfl, Nat.le_of_ble_eq_true rfl, Nat.le_of_ble_eq_true rfl⟩ hK hP hD hS hA hX [1, 2] [0] [0] rfl (wr := [(h_this, .inr (2, [.ref h_this_tape, .int v_next, .int v_negative, .int v_sixteen, .int v_hasPoint, .int v_hasPower, .int v_from, .int v_to, .int v_before, .int v_digits, .int v_power, .long v_found]))]) rfl (by decide) (by decide) (by decide) rfl (va_recv hK hP (ci := 1) (q0 := 1) rfl rfl) rfl hl.1 rfl (lv_room (Nat.le_of_ble_eq_true rfl)) d_Numeral_passDigits_47 ⟨Nat.zero_le _, Nat.zero_le _⟩ (fun r9 u9 H locs h9 hP hD hS => ?_)
    cases h9
    have hP : va_P (dC, dI) classes (WS_Numeral_passDigits h_this h_this_tape h_this_tape_row c_this_tape_row v_next v_negative v_sixteen v_hasPoint v_hasPower v_from v_to v_before v_digits v_power v_found v_tape_length a_tape_row) H := hP.sub [0, 1, 2] rfl
    have hD : va_D A (WS_Numeral_passDigits h_this h_this_tape h_this_tape_row c_this_tape_row v_next v_negative v_sixteen v_hasPoint v_hasPower v_from v_to v_before v_digits v_power v_found v_tape_length a_tape_row) := hD.sub [0, 1, 2] (by decide) rfl
    refine lv_istore_n (lv' := [(2, .int r4), (0, .ref h_this), (1, .int y1)]) hx hb d_Numeral_passDigits_50 rfl hl (by decide) rfl (fun ls hl => ?_)
    refine lv_iload_n hx hb d_Numeral_passDigits_51 rfl (lv_at hl 0 rfl) ?_
    refine lv_aload_n hx hb d_Numeral_passDigits_52 rfl (lv_at hl 1 rfl) ?_
    refine va_get (D := (dC, dI)) (ci := 2) (v := .int v_sixteen) (C := R_Numeral) (T := F_Numeral) (N := 12) hx hb ht i_Numeral hown hK hP 0 rfl rfl 3 (by decide) (ht _ q_27) (fun _ h9 => h9) rfl d_Numeral_passDigits_53 ?_
    obtain ⟨r5, hf, h⟩ := bi1_x h
    refine clSi (D := (dC, dI)) (n := 2) (As := [.int r4, .int v_sixteen]) ⟨hx, hb, hml, hown, ht⟩ (c_Numeral_digitOf l dC dI X  H.size r4 v_sixteen r5 hf) (gS q_30 q_31 q_24 q_32) (by decide +kernel) ⟨rfl, rfl, Nat.le_of_ble_eq_true rfl, Nat.le_of_ble_eq_true rfl⟩ hK hP hD hS hA hX [] [0, 1, 2] [] rfl (wr := [(h_this, .inr (2, [.ref h_this_tape, .int v_next, .int v_negative, .int v_sixteen, .int v_hasPoint, .int v_hasPower, .int v_from, .int v_to, .int v_before, .int v_digits, .int v_power, .long v_found])), (h_this_tape, .inr (1, [.ref h_this_tape_row, .int v_tape_length])), (h_this_tape_row, .inl (c_this_tape_row, 1200, .inl a_tape_row))]) rfl (by decide) (by decide) (by decide) rfl rfl hl.1 rfl (lv_room (Nat.le_of_ble_eq_true rfl)) d_Numeral_passDigits_56 ⟨Nat.zero_le _, Nat.zero_le _⟩ (fun r9 u9 H locs h9 hP hD hS => ?_)
    cases h9
    have hP : va_P (dC, dI) classes (WS_Numeral_passDigits h_this h_this_tape h_this_tape_row c_this_tape_row v_next v_negative v_sixteen v_hasPoint v_hasPower v_from v_to v_before v_digits v_power v_found v_tape_length a_tape_row) H := hP.sub [0, 1, 2] rfl
    have hD : va_D A (WS_Numeral_passDigits h_this h_this_tape h_this_tape_row c_this_tape_row v_next v_negative v_sixteen v_hasPoint v_hasPower v_from v_to v_before v_digits v_power v_found v_tape_length a_tape_row) := hD.sub [0, 1, 2] (by decide) rfl
    refine lv_if_lt (tgt := 96) hx hb d_Numeral_passDigits_59 (by decide) (fun c6 => ?_) (fun c6 => ?_)
    · have h := if_t c6 h
      refine lv_iload_n hx hb d_Numeral_passDigits_96 rfl (lv_at hl 0 rfl) ?_
      refine lv_bipush (v := 46) hx hb d_Numeral_passDigits_97 (by decide) ?_
      refine lv_icmp_ne (tgt := 127) hx hb d_Numeral_passDigits_99 (by decide) (fun c7 => ?_) (fun c7 => ?_)
      · have h := if_f c7 h
        exact s_Numeral_passDigits_127 cx hK hA hX v_next v_sixteen v_hasPoint v_from v_to v_before v_digits v_tape_length a_tape_row H locs ls hP hD hS (lv_sub hl [1] rfl) h
      · have h := if_t c7 h
        refine lv_aload_n hx hb d_Numeral_passDigits_102 rfl (lv_at hl 1 rfl) ?_
        refine va_get (D := (dC, dI)) (ci := 2) (v := .int v_hasPoint) (C := R_Numeral) (T := F_Numeral) (N := 12) hx hb ht i_Numeral hown hK hP 0 rfl rfl 4 (by decide) (ht _ q_33) (fun _ h9 => h9) rfl d_Numeral_passDigits_103 ?_
        refine lv_if_ne (tgt := 127) hx hb d_Numeral_passDigits_106 (by decide) (fun c8 => ?_) (fun c8 => ?_)
        · have h := if_f c8 h
          exact s_Numeral_passDigits_127 cx hK hA hX v_next v_sixteen v_hasPoint v_from v_to v_before v_digits v_tape_length a_tape_row H locs ls hP hD hS (lv_sub hl [1] rfl) h
        · have h := if_t c8 h
          refine lv_aload_n hx hb d_Numeral_passDigits_109 rfl (lv_at hl 1 rfl) ?_
          refine lv_iconst (v := 1) hx hb d_Numeral_passDigits_110 (by decide) ?_
          refine va_put (D := (dC, dI)) (ci := 2) (v := .int (1 : Int32)) (ty := .boolean) (C := R_Numeral) (T := F_Numeral) (N := 12) hx hb ht i_Numeral t_Numeral t_Numeral_ok n_Numeral hown hK hP hD hS 0 rfl rfl 4 (by decide) (ht _ q_33) (fun _ h9 => h9) rfl (t_Numeral_ok 4 (by decide)) rfl rfl (Nat.le_of_ble_eq_true rfl) d_Numeral_passDigits_111 (fun H locs hP hD hS => ?_)
          have hP : va_P (dC, dI) classes (WS_Numeral_passDigits h_this h_this_tape h_this_tape_row c_this_tape_row v_next v_negative v_sixteen (1 : Int32) v_hasPower v_from v_to v_before v_digits v_power v_found v_tape_length a_tape_row) H := hP
          have hD : va_D A (WS_Numeral_passDigits h_this h_this_tape h_this_tape_row c_this_tape_row v_next v_negative v_sixteen (1 : Int32) v_hasPower v_from v_to v_before v_digits v_power v_found v_tape_length a_tape_row) := hD
          exact s_Numeral_passDigits_114 cx hK hA hX hk31 v_next v_sixteen (1 : Int32) v_from v_to v_before v_digits v_tape_length a_tape_row y1 H locs ls hP hD hS (lv_sub hl [1, 2] rfl) h
    · have h := if_f c6 h
      refine lv_aload_n hx hb d_Numeral_passDigits_62 rfl (lv_at hl 1 rfl) ?_
      refine lv_dup hx hb d_Numeral_passDigits_63 rfl ?_
      refine va_get (D := (dC, dI)) (ci := 2) (v := .int v_digits) (C := R_Numeral) (T := F_Numeral) (N := 12) hx hb ht i_Numeral hown hK hP 0 rfl rfl 9 (by decide) (ht _ q_34) (fun _ h9 => h9) rfl d_Numeral_passDigits_64 ?_
      refine lv_iconst (v := 1) hx hb d_Numeral_passDigits_67 (by decide) ?_
      refine lv_iadd hx hb d_Numeral_passDigits_68 ?_
      refine lv_topi (fun x9 e_x9 => ?_)
      have h := bd_g e_x9 h
      refine va_put (D := (dC, dI)) (ci := 2) (v := .int x9) (ty := .int) (C := R_Numeral) (T := F_Numeral) (N := 12) hx hb ht i_Numeral t_Numeral t_Numeral_ok n_Numeral hown hK hP hD hS 0 rfl rfl 9 (by decide) (ht _ q_34) (fun _ h9 => h9) rfl (t_Numeral_ok 9 (by decide)) rfl rfl (Nat.le_of_ble_eq_true rfl) d_Numeral_passDigits_69 (fun H locs hP hD hS => ?_)
      have hP : va_P (dC, dI) classes (WS_Numeral_passDigits h_this h_this_tape h_this_tape_row c_this_tape_row v_next v_negative v_sixteen v_hasPoint v_hasPower v_from v_to v_before x9 v_power v_found v_tape_length a_tape_row) H := hP
      have hD : va_D A (WS_Numeral_passDigits h_this h_this_tape h_this_tape_row c_this_tape_row v_next v_negative v_sixteen v_hasPoint v_hasPower v_from v_to v_before x9 v_power v_found v_tape_length a_tape_row) := hD
      refine lv_aload_n hx hb d_Numeral_passDigits_72 rfl (lv_at hl 1 rfl) ?_
      refine lv_dup hx hb d_Numeral_passDigits_73 rfl ?_
      refine va_get (D := (dC, dI)) (ci := 2) (v := .int v_before) (C := R_Numeral) (T := F_Numeral) (N := 12) hx hb ht i_Numeral hown hK hP 0 rfl rfl 8 (by decide) (ht _ q_29) (fun _ h9 => h9) rfl d_Numeral_passDigits_74 ?_
      refine lv_aload_n hx hb d_Numeral_passDigits_77 rfl (lv_at hl 1 rfl) ?_
      refine va_get (D := (dC, dI)) (ci := 2) (v := .int v_hasPoint) (C := R_Numeral) (T := F_Numeral) (N := 12) hx hb ht i_Numeral hown hK hP 0 rfl rfl 4 (by decide) (ht _ q_33) (fun _ h9 => h9) rfl d_Numeral_passDigits_78 ?_
      refine lv_if_eq (tgt := 88) hx hb d_Numeral_passDigits_81 (by decide) (fun c10 => ?_) (fun c10 => ?_)
      · have h := if_t c10 h
        refine lv_iconst (v := 1) hx hb d_Numeral_passDigits_88 (by decide) ?_
        exact s_Numeral_passDigits_89 cx hK hA hX hk31 v_next v_sixteen v_hasPoint v_from v_to v_before x9 v_tape_length a_tape_row y1 v_before (1 : Int32) H locs ls hP hD hS (lv_sub hl [1, 2] rfl) h
      · have h := if_f c10 h
        refine lv_iconst (v := 0) hx hb d_Numeral_passDigits_84 (by decide) ?_
        refine lv_goto (tgt := 89) hx hb d_Numeral_passDigits_85 (by decide) ?_
        exact s_Numeral_passDigits_89 cx hK hA hX hk31 v_next v_sixteen v_hasPoint v_from v_to v_before x9 v_tape_length a_tape_row y1 v_before (0 : Int32) H locs ls hP hD hS (lv_sub hl [1, 2] rfl) h
set_option maxHeartbeats 4000000 in
set_option maxRecDepth 100000 in
theorem s_Numeral_passDigits_31 {p : Program} {l : Launch} {e : Env} {s : State} {m : MethodId} {args : Array Value} {below : List Frame} {meth : Method} {c : Code} {dC : Nat → ClassId} {dI : Nat → Nat → Nat} {A : Nat → Prop} {X : SXT} {h_this : Nat} {h_this_tape : Nat} {h_this_tape_row : Nat} {c_this_tape_row : ClassId} {v_negative : Int32} {v_hasPower : Int32} {v_power : Int32} {v_found : Int64} {res : Int32 × Int32 × Int32 × Int32 × Int32 × Int32}  (cx : cxx p s m args meth c b_Numeral_passDigits 3 none R_Numeral) (hK : va_K (dC, dI) classes [(c_this_tape_row, .byte)] s) (hA : ∀ q, s.heap.size ≤ q → A q) (hX : SX X A s s.heap)  : ∀ n : Nat, ∀ (v_next : Int32) (v_sixteen : Int32) (v_hasPoint : Int32) (v_from : Int32) (v_to : Int32) (v_before : Int32) (v_digits : Int32) (v_tape_length : Int32) (a_tape_row : (Nat → Int32)) (y1 : Int32) (H : Heap) (locs : List Loc) (ls : Array Slot), va_P (dC, dI) classes (WS_Numeral_passDigits h_this h_this_tape h_this_tape_row c_this_tape_row v_next v_negative v_sixteen v_hasPoint v_hasPower v_from v_to v_before v_digits v_power v_found v_tape_length a_tape_row) H → va_D A (WS_Numeral_passDigits h_this h_this_tape h_this_tape_row c_this_tape_row v_next v_negative v_sixteen v_hasPoint v_hasPower v_from v_to v_before v_digits v_power v_found v_tape_length a_tape_row) → va_S A s.heap H locs → lv_has ls 3 [(0, .ref h_this), (1, .int y1)] → f_Numeral_passDigits_31 n v_next v_sixteen v_hasPoint v_from v_to v_before v_digits v_tape_length a_tape_row y1 = some res → W p l e ({ frames := 1, cells := 0, slots := 0, locals := 21 }) s m args below meth c H locs 0 0 (MQ below (va_Qv (fun (u : Int32 × Int32 × Int32 × Int32 × Int32 × Int32) => some u = some res) (gB (dC, dI) [(c_this_tape_row, .byte)] A (fun (u : Int32 × Int32 × Int32 × Int32 × Int32 × Int32) => (WS_Numeral_passDigits h_this h_this_tape h_this_tape_row c_this_tape_row u.1 v_negative v_sixteen u.2.1 v_hasPower u.2.2.1 u.2.2.2.1 u.2.2.2.2.1 u.2.2.2.2.2 v_power v_found v_tape_length a_tape_row))) A) args s 0 0 A) (F0 m 31 ls []) := by
  intro n
  induction n with
  | zero =>
    intro v_next v_sixteen v_hasPoint v_from v_to v_before v_digits v_tape_length a_tape_row y1 H locs ls hP hD hS hl h
    have h9 : (none : Option (Int32 × Int32 × Int32 × Int32 × Int32 × Int32)) = some res := h
    cases h9
  | succ n ih =>
    intro v_next v_sixteen v_hasPoint v_from v_to v_before v_digits v_tape_length a_tape_row y1 H locs ls hP hD hS hl h
    exact s_Numeral_passDigits_31b cx hK hA hX ih v_next v_sixteen v_hasPoint v_from v_to v_before v_digits v_tape_length a_tape_row y1 H locs ls hP hD hS hl h
set_option maxHeartbeats 4000000 in
set_option maxRecDepth 100000 in
theorem s_Numeral_passDigits_e {p : Program} {l : Launch} {e : Env} {s : State} {m : MethodId} {args : Array Value} {below : List Frame} {meth : Method} {c : Code} {dC : Nat → ClassId} {dI : Nat → Nat → Nat} {A : Nat → Prop} {X : SXT} {h_this : Nat} {h_this_tape : Nat} {h_this_tape_row : Nat} {c_this_tape_row : ClassId} {v_negative : Int32} {v_hasPower : Int32} {v_power : Int32} {v_found : Int64} {res : Int32 × Int32 × Int32 × Int32 × Int32 × Int32} (cx : cxx p s m args meth c b_Numeral_passDigits 3 none R_Numeral) (hK : va_K (dC, dI) classes [(c_this_tape_row, .byte)] s) (hA : ∀ q, s.heap.size ≤ q → A q) (hX : SX X A s s.heap) : ∀ (v_next : Int32) (v_sixteen : Int32) (v_hasPoint : Int32) (v_from : Int32) (v_to : Int32) (v_before : Int32) (v_digits : Int32) (v_tape_length : Int32) (a_tape_row : (Nat → Int32)) (H : Heap) (locs : List Loc) (ls : Array Slot), va_P (dC, dI) classes (WS_Numeral_passDigits h_this h_this_tape h_this_tape_row c_this_tape_row v_next v_negative v_sixteen v_hasPoint v_hasPower v_from v_to v_before v_digits v_power v_found v_tape_length a_tape_row) H → va_D A (WS_Numeral_passDigits h_this h_this_tape h_this_tape_row c_this_tape_row v_next v_negative v_sixteen v_hasPoint v_hasPower v_from v_to v_before v_digits v_power v_found v_tape_length a_tape_row) → va_S A s.heap H locs → lv_has ls 3 [(0, .ref h_this)] → f_Numeral_passDigits v_next v_sixteen v_hasPoint v_from v_to v_before v_digits v_tape_length a_tape_row = some res → W p l e ({ frames := 1, cells := 0, slots := 0, locals := 21 }) s m args below meth c H locs 0 0 (MQ below (va_Qv (fun (u : Int32 × Int32 × Int32 × Int32 × Int32 × Int32) => some u = some res) (gB (dC, dI) [(c_this_tape_row, .byte)] A (fun (u : Int32 × Int32 × Int32 × Int32 × Int32 × Int32) => (WS_Numeral_passDigits h_this h_this_tape h_this_tape_row c_this_tape_row u.1 v_negative v_sixteen u.2.1 v_hasPower u.2.2.1 u.2.2.2.1 u.2.2.2.2.1 u.2.2.2.2.2 v_power v_found v_tape_length a_tape_row))) A) args s 0 0 A) (F0 m 0 ls []) := by
  intro v_next v_sixteen v_hasPoint v_from v_to v_before v_digits v_tape_length a_tape_row H locs ls hP hD hS hl h
  obtain ⟨hx, hb, hr, hml, hown, ht, hlk⟩ := id cx
  refine lv_aload_n hx hb d_Numeral_passDigits_0 rfl (lv_at hl 0 rfl) ?_
  refine va_get (D := (dC, dI)) (ci := 2) (v := .ref h_this_tape) (C := R_Numeral) (T := F_Numeral) (N := 12) hx hb ht i_Numeral hown hK hP 0 rfl rfl 0 (by decide) (ht _ q_17) (fun _ h9 => h9) rfl d_Numeral_passDigits_1 ?_
  obtain ⟨r11, hf, h⟩ := bi1_x h
  refine clVi (D := (dC, dI)) (n := 0) (As := []) ⟨hx, hb, hml, hown, ht⟩ (c_Tape_length l dC dI X h_this_tape_row h_this_tape H.size v_tape_length r11 hf) (gV q_26 q_4 q_5 q_6 q_7) (by decide +kernel) ⟨rfl, rfl, Nat.le_of_ble_eq_true rfl, Nat.le_of_ble_eq_true rfl⟩ hK hP hD hS hA hX [1] [0, 2] [] rfl (wr := [(h_this, .inr (2, [.ref h_this_tape, .int v_next, .int v_negative, .int v_sixteen, .int v_hasPoint, .int v_hasPower, .int v_from, .int v_to, .int v_before, .int v_digits, .int v_power, .long v_found])), (h_this_tape_row, .inl (c_this_tape_row, 1200, .inl a_tape_row))]) rfl (by decide) (by decide) (by decide) rfl (va_recv hK hP (ci := 1) (q0 := 1) rfl rfl) rfl hl.1 rfl (lv_room (Nat.le_of_ble_eq_true rfl)) d_Numeral_passDigits_4 ⟨Nat.zero_le _, Nat.zero_le _⟩ (fun r9 u9 H locs h9 hP hD hS => ?_)
  cases h9
  have hP : va_P (dC, dI) classes (WS_Numeral_passDigits h_this h_this_tape h_this_tape_row c_this_tape_row v_next v_negative v_sixteen v_hasPoint v_hasPower v_from v_to v_before v_digits v_power v_found v_tape_length a_tape_row) H := hP.sub [0, 2, 1] rfl
  have hD : va_D A (WS_Numeral_passDigits h_this h_this_tape h_this_tape_row c_this_tape_row v_next v_negative v_sixteen v_hasPoint v_hasPower v_from v_to v_before v_digits v_power v_found v_tape_length a_tape_row) := hD.sub [0, 2, 1] (by decide) rfl
  refine lv_istore_n (lv' := [(1, .int r11), (0, .ref h_this)]) hx hb d_Numeral_passDigits_7 rfl hl (by decide) rfl (fun ls hl => ?_)
  refine lv_aload_n hx hb d_Numeral_passDigits_8 rfl (lv_at hl 1 rfl) ?_
  refine lv_aload_n hx hb d_Numeral_passDigits_9 rfl (lv_at hl 1 rfl) ?_
  refine va_get (D := (dC, dI)) (ci := 2) (v := .int v_next) (C := R_Numeral) (T := F_Numeral) (N := 12) hx hb ht i_Numeral hown hK hP 0 rfl rfl 1 (by decide) (ht _ q_16) (fun _ h9 => h9) rfl d_Numeral_passDigits_10 ?_
  refine va_put (D := (dC, dI)) (ci := 2) (v := .int v_next) (ty := .int) (C := R_Numeral) (T := F_Numeral) (N := 12) hx hb ht i_Numeral t_Numeral t_Numeral_ok n_Numeral hown hK hP hD hS 0 rfl rfl 6 (by decide) (ht _ q_35) (fun _ h9 => h9) rfl (t_Numeral_ok 6 (by decide)) rfl rfl (Nat.le_of_ble_eq_true rfl) d_Numeral_passDigits_13 (fun H locs hP hD hS => ?_)
  have hP : va_P (dC, dI) classes (WS_Numeral_passDigits h_this h_this_tape h_this_tape_row c_this_tape_row v_next v_negative v_sixteen v_hasPoint v_hasPower v_next v_to v_before v_digits v_power v_found v_tape_length a_tape_row) H := hP
  have hD : va_D A (WS_Numeral_passDigits h_this h_this_tape h_this_tape_row c_this_tape_row v_next v_negative v_sixteen v_hasPoint v_hasPower v_next v_to v_before v_digits v_power v_found v_tape_length a_tape_row) := hD
  refine lv_aload_n hx hb d_Numeral_passDigits_16 rfl (lv_at hl 1 rfl) ?_
  refine lv_iconst (v := 0) hx hb d_Numeral_passDigits_17 (by decide) ?_
  refine va_put (D := (dC, dI)) (ci := 2) (v := .int (0 : Int32)) (ty := .int) (C := R_Numeral) (T := F_Numeral) (N := 12) hx hb ht i_Numeral t_Numeral t_Numeral_ok n_Numeral hown hK hP hD hS 0 rfl rfl 8 (by decide) (ht _ q_29) (fun _ h9 => h9) rfl (t_Numeral_ok 8 (by decide)) rfl rfl (Nat.le_of_ble_eq_true rfl) d_Numeral_passDigits_18 (fun H locs hP hD hS => ?_)
  have hP : va_P (dC, dI) classes (WS_Numeral_passDigits h_this h_this_tape h_this_tape_row c_this_tape_row v_next v_negative v_sixteen v_hasPoint v_hasPower v_next v_to (0 : Int32) v_digits v_power v_found v_tape_length a_tape_row) H := hP
  have hD : va_D A (WS_Numeral_passDigits h_this h_this_tape h_this_tape_row c_this_tape_row v_next v_negative v_sixteen v_hasPoint v_hasPower v_next v_to (0 : Int32) v_digits v_power v_found v_tape_length a_tape_row) := hD
  refine lv_aload_n hx hb d_Numeral_passDigits_21 rfl (lv_at hl 1 rfl) ?_
  refine lv_iconst (v := 0) hx hb d_Numeral_passDigits_22 (by decide) ?_
  refine va_put (D := (dC, dI)) (ci := 2) (v := .int (0 : Int32)) (ty := .int) (C := R_Numeral) (T := F_Numeral) (N := 12) hx hb ht i_Numeral t_Numeral t_Numeral_ok n_Numeral hown hK hP hD hS 0 rfl rfl 9 (by decide) (ht _ q_34) (fun _ h9 => h9) rfl (t_Numeral_ok 9 (by decide)) rfl rfl (Nat.le_of_ble_eq_true rfl) d_Numeral_passDigits_23 (fun H locs hP hD hS => ?_)
  have hP : va_P (dC, dI) classes (WS_Numeral_passDigits h_this h_this_tape h_this_tape_row c_this_tape_row v_next v_negative v_sixteen v_hasPoint v_hasPower v_next v_to (0 : Int32) (0 : Int32) v_power v_found v_tape_length a_tape_row) H := hP
  have hD : va_D A (WS_Numeral_passDigits h_this h_this_tape h_this_tape_row c_this_tape_row v_next v_negative v_sixteen v_hasPoint v_hasPower v_next v_to (0 : Int32) (0 : Int32) v_power v_found v_tape_length a_tape_row) := hD
  refine lv_aload_n hx hb d_Numeral_passDigits_26 rfl (lv_at hl 1 rfl) ?_
  refine lv_iconst (v := 0) hx hb d_Numeral_passDigits_27 (by decide) ?_
  refine va_put (D := (dC, dI)) (ci := 2) (v := .int (0 : Int32)) (ty := .boolean) (C := R_Numeral) (T := F_Numeral) (N := 12) hx hb ht i_Numeral t_Numeral t_Numeral_ok n_Numeral hown hK hP hD hS 0 rfl rfl 4 (by decide) (ht _ q_33) (fun _ h9 => h9) rfl (t_Numeral_ok 4 (by decide)) rfl rfl (Nat.le_of_ble_eq_true rfl) d_Numeral_passDigits_28 (fun H locs hP hD hS => ?_)
  have hP : va_P (dC, dI) classes (WS_Numeral_passDigits h_this h_this_tape h_this_tape_row c_this_tape_row v_next v_negative v_sixteen (0 : Int32) v_hasPower v_next v_to (0 : Int32) (0 : Int32) v_power v_found v_tape_length a_tape_row) H := hP
  have hD : va_D A (WS_Numeral_passDigits h_this h_this_tape h_this_tape_row c_this_tape_row v_next v_negative v_sixteen (0 : Int32) v_hasPower v_next v_to (0 : Int32) (0 : Int32) v_power v_found v_tape_length a_tape_row) := hD
  exact s_Numeral_passDigits_31 cx hK hA hX fu v_next v_sixteen (0 : Int32) v_next v_to (0 : Int32) (0 : Int32) v_tape_length a_tape_row r11 H locs ls hP hD hS (lv_sub hl [1, 0] rfl) h
set_option maxHeartbeats 4000000 in
set_option maxRecDepth 100000 in
theorem c_Numeral_passDigits (l : Launch) (dC : Nat → ClassId) (dI : Nat → Nat → Nat) (X : SXT) (h_this : Nat) (h_this_tape : Nat) (h_this_tape_row : Nat) (c_this_tape_row : ClassId) (sz : Nat) (v_next : Int32) (v_negative : Int32) (v_sixteen : Int32) (v_hasPoint : Int32) (v_hasPower : Int32) (v_from : Int32) (v_to : Int32) (v_before : Int32) (v_digits : Int32) (v_power : Int32) (v_found : Int64) (v_tape_length : Int32) (a_tape_row : (Nat → Int32)) (res : Int32 × Int32 × Int32 × Int32 × Int32 × Int32) (hf : f_Numeral_passDigits v_next v_sixteen v_hasPoint v_from v_to v_before v_digits v_tape_length a_tape_row = some res) : Met l y_Numeral_passDigits (.code y_Numeral_passDigits b_Numeral_passDigits 3 none :: w0) ({ frames := 1, cells := 0, slots := 0, locals := 21 }) (va_Pc [.ref h_this] (gP (dC, dI) (WS_Numeral_passDigits h_this h_this_tape h_this_tape_row c_this_tape_row v_next v_negative v_sixteen v_hasPoint v_hasPower v_from v_to v_before v_digits v_power v_found v_tape_length a_tape_row) [(c_this_tape_row, .byte)] sz X)) (va_Qv (fun (u : Int32 × Int32 × Int32 × Int32 × Int32 × Int32) => some u = some res) (gB (dC, dI) [(c_this_tape_row, .byte)] (va_A (WS_Numeral_passDigits h_this h_this_tape h_this_tape_row c_this_tape_row v_next v_negative v_sixteen v_hasPoint v_hasPower v_from v_to v_before v_digits v_power v_found v_tape_length a_tape_row) sz) (fun (u : Int32 × Int32 × Int32 × Int32 × Int32 × Int32) => (WS_Numeral_passDigits h_this h_this_tape h_this_tape_row c_this_tape_row u.1 v_negative v_sixteen u.2.1 v_hasPower u.2.2.1 u.2.2.2.1 u.2.2.2.2.1 u.2.2.2.2.2 v_power v_found v_tape_length a_tape_row))) (va_A (WS_Numeral_passDigits h_this h_this_tape h_this_tape_row c_this_tape_row v_next v_negative v_sixteen v_hasPoint v_hasPower v_from v_to v_before v_digits v_power v_found v_tape_length a_tape_row) sz)) 0 0 (va_A (WS_Numeral_passDigits h_this h_this_tape h_this_tape_row c_this_tape_row v_next v_negative v_sixteen v_hasPoint v_hasPower v_from v_to v_before v_digits v_power v_found v_tape_length a_tape_row) sz) := by
  refine Met.ofW (cc := b_Numeral_passDigits) (maxL := 3) (ret := none) (by decide) rfl ?_
  intro p e s m args below meth c s₁ B hml hv
  obtain ⟨rfl, hsz, hP, hK, hD0, hX⟩ := hv
  subst hsz
  have cx : cxx p s m ([.ref h_this] : List Value).toArray meth c b_Numeral_passDigits 3 none R_Numeral := ⟨B.exec, B.bytes, B.returns, hml, findClass_of_methodNamed B.named, fun w9 hw => atoms_spec (ws := .code y_Numeral_passDigits b_Numeral_passDigits 3 none :: w0) B.pre w9 (List.mem_cons_of_mem _ hw), B.notSynchronized⟩
  have hD := hD0.self (sz := s.heap.size)
  generalize hAe : va_A (WS_Numeral_passDigits h_this h_this_tape h_this_tape_row c_this_tape_row v_next v_negative v_sixteen v_hasPoint v_hasPower v_from v_to v_before v_digits v_power v_found v_tape_length a_tape_row) s.heap.size = A at hD hX ⊢
  have hA : ∀ q : Nat, s.heap.size ≤ q → A q := fun q h => by rw [← hAe]; exact Or.inr h
  have hS : va_S A s.heap s.heap [] := va_S.rf
  have hl := lv_entry ([.ref h_this]) (n := 3) (Nat.le_of_ble_eq_true rfl)
  rw [lg_entry_eq]
  generalize (lg_sl ([.ref h_this]) ++ List.replicate (3 - (lg_sl ([.ref h_this])).length) Slot.unset).toArray = ls at hl ⊢
  have hl : lv_has ls 3 [(0, .ref h_this)] := hl
  exact s_Numeral_passDigits_e cx hK hA hX v_next v_sixteen v_hasPoint v_from v_to v_before v_digits v_tape_length a_tape_row s.heap [] ls hP hD hS hl hf
abbrev WS_Numeral_passPower (h_this : Nat) (h_this_tape : Nat) (h_this_tape_row : Nat) (c_this_tape_row : ClassId) (v_next : Int32) (v_negative : Int32) (v_sixteen : Int32) (v_hasPoint : Int32) (v_hasPower : Int32) (v_from : Int32) (v_to : Int32) (v_before : Int32) (v_digits : Int32) (v_power : Int32) (v_found : Int64) (v_tape_length : Int32) (a_tape_row : (Nat → Int32)) : va_W := [(h_this, .inr (2, [.ref h_this_tape, .int v_next, .int v_negative, .int v_sixteen, .int v_hasPoint, .int v_hasPower, .int v_from, .int v_to, .int v_before, .int v_digits, .int v_power, .long v_found])), (h_this_tape, .inr (1, [.ref h_this_tape_row, .int v_tape_length])), (h_this_tape_row, .inl (c_this_tape_row, 1200, .inl a_tape_row))]
def f_Numeral_passPower_192 (v_next : Int32) (v_sixteen : Int32) (v_hasPower : Int32) (v_power : Int32) (v_tape_length : Int32) (a_tape_row : (Nat → Int32)) (y3 : Int32) (z1 : Int32) : Option (Int32 × Int32 × Int32 × Int32) :=
  if v_next ≤ y3 then
    some ((0 : Int32), v_next, v_hasPower, z1)
  else
    some ((1 : Int32), v_next, v_hasPower, z1)
def f_Numeral_passPower_175 (v_next : Int32) (v_sixteen : Int32) (v_hasPower : Int32) (v_power : Int32) (v_tape_length : Int32) (a_tape_row : (Nat → Int32)) (y2 : Int32) (y3 : Int32) : Option (Int32 × Int32 × Int32 × Int32) :=
  if y2 = 0 then
    f_Numeral_passPower_192 v_next v_sixteen v_hasPower v_power v_tape_length a_tape_row y3 v_power
  else
    f_Numeral_passPower_192 v_next v_sixteen v_hasPower v_power v_tape_length a_tape_row y3 (-v_power)
def f_Numeral_passPower_103b (k103 : Int32 → Int32 → Int32 → Int32 → Int32 → (Nat → Int32) → Int32 → Int32 → Int32 → Option (Int32 × Int32 × Int32 × Int32)) (v_next : Int32) (v_sixteen : Int32) (v_hasPower : Int32) (v_power : Int32) (v_tape_length : Int32) (a_tape_row : (Nat → Int32)) (y2 : Int32) (y3 : Int32) (y4 : Int32) : Option (Int32 × Int32 × Int32 × Int32) :=
  if y4 ≤ v_next then
    f_Numeral_passPower_175 v_next v_sixteen v_hasPower v_power v_tape_length a_tape_row y2 y3
  else
    bi1 (f_Tape_at v_tape_length a_tape_row v_next) fun r4 =>
    bi1 (f_Numeral_digitOf r4 (0 : Int32)) fun r5 =>
    if r5 < 0 then
      f_Numeral_passPower_175 v_next v_sixteen v_hasPower v_power v_tape_length a_tape_row y2 y3
    else
      bi1 (f_Tape_at v_tape_length a_tape_row v_next) fun r7 =>
      bi1 (f_Numeral_digitOf r7 (0 : Int32)) fun r8 =>
      bd (imn (100000 : Int32) ((v_power * (10 : Int32)) + r8)) fun x9 =>
      bd (v_next + (1 : Int32)) fun x10 =>
      k103 x10 v_sixteen v_hasPower x9 v_tape_length a_tape_row y2 y3 y4
def f_Numeral_passPower_103 : Nat → Int32 → Int32 → Int32 → Int32 → Int32 → (Nat → Int32) → Int32 → Int32 → Int32 → Option (Int32 × Int32 × Int32 × Int32)
  | 0 => fun _ _ _ _ _ _ _ _ _ => none
  | n + 1 => fun v_next v_sixteen v_hasPower v_power v_tape_length a_tape_row y2 y3 y4 => f_Numeral_passPower_103b (f_Numeral_passPower_103 n) v_next v_sixteen v_hasPower v_power v_tape_length a_tape_row y2 y3 y4
def f_Numeral_passPower_62 (v_next : Int32) (v_sixteen : Int32) (v_hasPower : Int32) (v_power : Int32) (v_tape_length : Int32) (a_tape_row : (Nat → Int32)) (z1 : Int32) : Option (Int32 × Int32 × Int32 × Int32) :=
  ck (ckZ z1) <|
  if z1 = 0 then
    some ((1 : Int32), v_next, z1, v_power)
  else
    bd (v_next + (1 : Int32)) fun x13 =>
    bi2 (f_Numeral_passSign x13 v_tape_length a_tape_row) fun r14 v15 =>
    bi1 (f_Tape_length v_tape_length) fun r16 =>
    f_Numeral_passPower_103 fu v15 v_sixteen z1 v_power v_tape_length a_tape_row r14 v15 r16
def f_Numeral_passPower_57 (v_next : Int32) (v_sixteen : Int32) (v_hasPower : Int32) (v_power : Int32) (v_tape_length : Int32) (a_tape_row : (Nat → Int32)) : Option (Int32 × Int32 × Int32 × Int32) :=
  f_Numeral_passPower_62 v_next v_sixteen v_hasPower v_power v_tape_length a_tape_row (1 : Int32)
def f_Numeral_passPower_37 (v_next : Int32) (v_sixteen : Int32) (v_hasPower : Int32) (v_power : Int32) (v_tape_length : Int32) (a_tape_row : (Nat → Int32)) : Option (Int32 × Int32 × Int32 × Int32) :=
  f_Numeral_passPower_62 v_next v_sixteen v_hasPower v_power v_tape_length a_tape_row (1 : Int32)
def f_Numeral_passPower (v_next : Int32) (v_sixteen : Int32) (v_hasPower : Int32) (v_power : Int32) (v_tape_length : Int32) (a_tape_row : (Nat → Int32)) : Option (Int32 × Int32 × Int32 × Int32) :=
  bi1 (f_Tape_at v_tape_length a_tape_row v_next) fun r17 =>
  if v_sixteen = 0 then
    if r17 = (101 : Int32) then
      f_Numeral_passPower_57 v_next v_sixteen v_hasPower (0 : Int32) v_tape_length a_tape_row
    else
      if r17 = (69 : Int32) then
        f_Numeral_passPower_57 v_next v_sixteen v_hasPower (0 : Int32) v_tape_length a_tape_row
      else
        f_Numeral_passPower_62 v_next v_sixteen v_hasPower (0 : Int32) v_tape_length a_tape_row (0 : Int32)
  else
    if r17 = (112 : Int32) then
      f_Numeral_passPower_37 v_next v_sixteen v_hasPower (0 : Int32) v_tape_length a_tape_row
    else
      if r17 = (80 : Int32) then
        f_Numeral_passPower_37 v_next v_sixteen v_hasPower (0 : Int32) v_tape_length a_tape_row
      else
        f_Numeral_passPower_62 v_next v_sixteen v_hasPower (0 : Int32) v_tape_length a_tape_row (0 : Int32)
set_option maxHeartbeats 4000000 in
set_option maxRecDepth 100000 in
theorem s_Numeral_passPower_192 {p : Program} {l : Launch} {e : Env} {s : State} {m : MethodId} {args : Array Value} {below : List Frame} {meth : Method} {c : Code} {dC : Nat → ClassId} {dI : Nat → Nat → Nat} {A : Nat → Prop} {X : SXT} {h_this : Nat} {h_this_tape : Nat} {h_this_tape_row : Nat} {c_this_tape_row : ClassId} {v_negative : Int32} {v_hasPoint : Int32} {v_from : Int32} {v_to : Int32} {v_before : Int32} {v_digits : Int32} {v_found : Int64} {res : Int32 × Int32 × Int32 × Int32}  (cx : cxx p s m args meth c b_Numeral_passPower 5 (some .boolean) R_Numeral) (hK : va_K (dC, dI) classes [(c_this_tape_row, .byte)] s) (hA : ∀ q, s.heap.size ≤ q → A q) (hX : SX X A s s.heap)  : ∀ (v_next : Int32) (v_sixteen : Int32) (v_hasPower : Int32) (v_power : Int32) (v_tape_length : Int32) (a_tape_row : (Nat → Int32)) (y3 : Int32) (z1 : Int32) (H : Heap) (locs : List Loc) (ls : Array Slot), va_P (dC, dI) classes (WS_Numeral_passPower h_this h_this_tape h_this_tape_row c_this_tape_row v_next v_negative v_sixteen v_hasPoint v_hasPower v_from v_to v_before v_digits v_power v_found v_tape_length a_tape_row) H → va_D A (WS_Numeral_passPower h_this h_this_tape h_this_tape_row c_this_tape_row v_next v_negative v_sixteen v_hasPoint v_hasPower v_from v_to v_before v_digits v_power v_found v_tape_length a_tape_row) → va_S A s.heap H locs → lv_has ls 5 [(0, .ref h_this), (3, .int y3)] → f_Numeral_passPower_192 v_next v_sixteen v_hasPower v_power v_tape_length a_tape_row y3 z1 = some res → W p l e ({ frames := 2, cells := 0, slots := 0, locals := 42 }) s m args below meth c H locs 0 0 (MQ below (va_Qi (fun (r : Int32) (u : Int32 × Int32 × Int32) => some (r, u) = some res) (gB (dC, dI) [(c_this_tape_row, .byte)] A (fun (u : Int32 × Int32 × Int32) => (WS_Numeral_passPower h_this h_this_tape h_this_tape_row c_this_tape_row u.1 v_negative v_sixteen v_hasPoint u.2.1 v_from v_to v_before v_digits u.2.2 v_found v_tape_length a_tape_row))) A) args s 0 0 A) (F0 m 192 ls [.int z1, .ref h_this]) := by
  intro v_next v_sixteen v_hasPower v_power v_tape_length a_tape_row y3 z1 H locs ls hP hD hS hl h
  obtain ⟨hx, hb, hr, hml, hown, ht, hlk⟩ := id cx
  refine va_put (D := (dC, dI)) (ci := 2) (v := .int z1) (ty := .int) (C := R_Numeral) (T := F_Numeral) (N := 12) hx hb ht i_Numeral t_Numeral t_Numeral_ok n_Numeral hown hK hP hD hS 0 rfl rfl 10 (by decide) (ht _ q_36) (fun _ h9 => h9) rfl (t_Numeral_ok 10 (by decide)) rfl rfl (Nat.le_of_ble_eq_true rfl) d_Numeral_passPower_192 (fun H locs hP hD hS => ?_)
  have hP : va_P (dC, dI) classes (WS_Numeral_passPower h_this h_this_tape h_this_tape_row c_this_tape_row v_next v_negative v_sixteen v_hasPoint v_hasPower v_from v_to v_before v_digits z1 v_found v_tape_length a_tape_row) H := hP
  have hD : va_D A (WS_Numeral_passPower h_this h_this_tape h_this_tape_row c_this_tape_row v_next v_negative v_sixteen v_hasPoint v_hasPower v_from v_to v_before v_digits z1 v_found v_tape_length a_tape_row) := hD
  refine lv_aload_n hx hb d_Numeral_passPower_195 rfl (lv_at hl 0 rfl) ?_
  refine va_get (D := (dC, dI)) (ci := 2) (v := .int v_next) (C := R_Numeral) (T := F_Numeral) (N := 12) hx hb ht i_Numeral hown hK hP 0 rfl rfl 1 (by decide) (ht _ q_16) (fun _ h9 => h9) rfl d_Numeral_passPower_196 ?_
  refine lv_iload_n hx hb d_Numeral_passPower_199 rfl (lv_at hl 1 rfl) ?_
  refine lv_icmp_le (tgt := 207) hx hb d_Numeral_passPower_200 (by decide) (fun c1 => ?_) (fun c1 => ?_)
  · have h := if_t c1 h
    refine lv_iconst (v := 0) hx hb d_Numeral_passPower_207 (by decide) ?_
    exact W.zret (v := (0 : Int32)) hx hb hr rfl (fun t ht9 hW => ⟨⟨(0 : Int32), (v_next, v_hasPower, z1), rfl, h, by rw [ht9]; exact hP, va_K.moved hW.alike hK, hD⟩, hS.F ht9⟩) hS.2.2 d_Numeral_passPower_208 hlk
  · have h := if_f c1 h
    refine lv_iconst (v := 1) hx hb d_Numeral_passPower_203 (by decide) ?_
    refine lv_goto (tgt := 208) hx hb d_Numeral_passPower_204 (by decide) ?_
    exact W.zret (v := (1 : Int32)) hx hb hr rfl (fun t ht9 hW => ⟨⟨(1 : Int32), (v_next, v_hasPower, z1), rfl, h, by rw [ht9]; exact hP, va_K.moved hW.alike hK, hD⟩, hS.F ht9⟩) hS.2.2 d_Numeral_passPower_208 hlk
set_option maxHeartbeats 4000000 in
set_option maxRecDepth 100000 in
theorem s_Numeral_passPower_175 {p : Program} {l : Launch} {e : Env} {s : State} {m : MethodId} {args : Array Value} {below : List Frame} {meth : Method} {c : Code} {dC : Nat → ClassId} {dI : Nat → Nat → Nat} {A : Nat → Prop} {X : SXT} {h_this : Nat} {h_this_tape : Nat} {h_this_tape_row : Nat} {c_this_tape_row : ClassId} {v_negative : Int32} {v_hasPoint : Int32} {v_from : Int32} {v_to : Int32} {v_before : Int32} {v_digits : Int32} {v_found : Int64} {res : Int32 × Int32 × Int32 × Int32}  (cx : cxx p s m args meth c b_Numeral_passPower 5 (some .boolean) R_Numeral) (hK : va_K (dC, dI) classes [(c_this_tape_row, .byte)] s) (hA : ∀ q, s.heap.size ≤ q → A q) (hX : SX X A s s.heap)  : ∀ (v_next : Int32) (v_sixteen : Int32) (v_hasPower : Int32) (v_power : Int32) (v_tape_length : Int32) (a_tape_row : (Nat → Int32)) (y2 : Int32) (y3 : Int32) (H : Heap) (locs : List Loc) (ls : Array Slot), va_P (dC, dI) classes (WS_Numeral_passPower h_this h_this_tape h_this_tape_row c_this_tape_row v_next v_negative v_sixteen v_hasPoint v_hasPower v_from v_to v_before v_digits v_power v_found v_tape_length a_tape_row) H → va_D A (WS_Numeral_passPower h_this h_this_tape h_this_tape_row c_this_tape_row v_next v_negative v_sixteen v_hasPoint v_hasPower v_from v_to v_before v_digits v_power v_found v_tape_length a_tape_row) → va_S A s.heap H locs → lv_has ls 5 [(0, .ref h_this), (2, .int y2), (3, .int y3)] → f_Numeral_passPower_175 v_next v_sixteen v_hasPower v_power v_tape_length a_tape_row y2 y3 = some res → W p l e ({ frames := 2, cells := 0, slots := 0, locals := 42 }) s m args below meth c H locs 0 0 (MQ below (va_Qi (fun (r : Int32) (u : Int32 × Int32 × Int32) => some (r, u) = some res) (gB (dC, dI) [(c_this_tape_row, .byte)] A (fun (u : Int32 × Int32 × Int32) => (WS_Numeral_passPower h_this h_this_tape h_this_tape_row c_this_tape_row u.1 v_negative v_sixteen v_hasPoint u.2.1 v_from v_to v_before v_digits u.2.2 v_found v_tape_length a_tape_row))) A) args s 0 0 A) (F0 m 175 ls []) := by
  intro v_next v_sixteen v_hasPower v_power v_tape_length a_tape_row y2 y3 H locs ls hP hD hS hl h
  obtain ⟨hx, hb, hr, hml, hown, ht, hlk⟩ := id cx
  refine lv_aload_n hx hb d_Numeral_passPower_175 rfl (lv_at hl 0 rfl) ?_
  refine lv_iload_n hx hb d_Numeral_passPower_176 rfl (lv_at hl 1 rfl) ?_
  refine lv_if_eq (tgt := 188) hx hb d_Numeral_passPower_177 (by decide) (fun c2 => ?_) (fun c2 => ?_)
  · have h := if_t c2 h
    refine lv_aload_n hx hb d_Numeral_passPower_188 rfl (lv_at hl 0 rfl) ?_
    refine va_get (D := (dC, dI)) (ci := 2) (v := .int v_power) (C := R_Numeral) (T := F_Numeral) (N := 12) hx hb ht i_Numeral hown hK hP 0 rfl rfl 10 (by decide) (ht _ q_36) (fun _ h9 => h9) rfl d_Numeral_passPower_189 ?_
    exact s_Numeral_passPower_192 cx hK hA hX v_next v_sixteen v_hasPower v_power v_tape_length a_tape_row y3 v_power H locs ls hP hD hS (lv_sub hl [0, 2] rfl) h
  · have h := if_f c2 h
    refine lv_aload_n hx hb d_Numeral_passPower_180 rfl (lv_at hl 0 rfl) ?_
    refine va_get (D := (dC, dI)) (ci := 2) (v := .int v_power) (C := R_Numeral) (T := F_Numeral) (N := 12) hx hb ht i_Numeral hown hK hP 0 rfl rfl 10 (by decide) (ht _ q_36) (fun _ h9 => h9) rfl d_Numeral_passPower_181 ?_
    refine lv_ineg hx hb d_Numeral_passPower_184 ?_
    refine lv_goto (tgt := 192) hx hb d_Numeral_passPower_185 (by decide) ?_
    exact s_Numeral_passPower_192 cx hK hA hX v_next v_sixteen v_hasPower v_power v_tape_length a_tape_row y3 (-v_power) H locs ls hP hD hS (lv_sub hl [0, 2] rfl) h
set_option maxHeartbeats 4000000 in
set_option maxRecDepth 100000 in
theorem s_Numeral_passPower_103b {p : Program} {l : Launch} {e : Env} {s : State} {m : MethodId} {args : Array Value} {below : List Frame} {meth : Method} {c : Code} {dC : Nat → ClassId} {dI : Nat → Nat → Nat} {A : Nat → Prop} {X : SXT} {h_this : Nat} {h_this_tape : Nat} {h_this_tape_row : Nat} {c_this_tape_row : ClassId} {v_negative : Int32} {v_hasPoint : Int32} {v_from : Int32} {v_to : Int32} {v_before : Int32} {v_digits : Int32} {v_found : Int64} {res : Int32 × Int32 × Int32 × Int32} {k103 : Int32 → Int32 → Int32 → Int32 → Int32 → (Nat → Int32) → Int32 → Int32 → Int32 → Option (Int32 × Int32 × Int32 × Int32)} (cx : cxx p s m args meth c b_Numeral_passPower 5 (some .boolean) R_Numeral) (hK : va_K (dC, dI) classes [(c_this_tape_row, .byte)] s) (hA : ∀ q, s.heap.size ≤ q → A q) (hX : SX X A s s.heap) (hk103 : ∀ (v_next : Int32) (v_sixteen : Int32) (v_hasPower : Int32) (v_power : Int32) (v_tape_length : Int32) (a_tape_row : (Nat → Int32)) (y2 : Int32) (y3 : Int32) (y4 : Int32) (H : Heap) (locs : List Loc) (ls : Array Slot), va_P (dC, dI) classes (WS_Numeral_passPower h_this h_this_tape h_this_tape_row c_this_tape_row v_next v_negative v_sixteen v_hasPoint v_hasPower v_from v_to v_before v_digits v_power v_found v_tape_length a_tape_row) H → va_D A (WS_Numeral_passPower h_this h_this_tape h_this_tape_row c_this_tape_row v_next v_negative v_sixteen v_hasPoint v_hasPower v_from v_to v_before v_digits v_power v_found v_tape_length a_tape_row) → va_S A s.heap H locs → lv_has ls 5 [(0, .ref h_this), (2, .int y2), (3, .int y3), (4, .int y4)] → k103 v_next v_sixteen v_hasPower v_power v_tape_length a_tape_row y2 y3 y4 = some res → W p l e ({ frames := 2, cells := 0, slots := 0, locals := 42 }) s m args below meth c H locs 0 0 (MQ below (va_Qi (fun (r : Int32) (u : Int32 × Int32 × Int32) => some (r, u) = some res) (gB (dC, dI) [(c_this_tape_row, .byte)] A (fun (u : Int32 × Int32 × Int32) => (WS_Numeral_passPower h_this h_this_tape h_this_tape_row c_this_tape_row u.1 v_negative v_sixteen v_hasPoint u.2.1 v_from v_to v_before v_digits u.2.2 v_found v_tape_length a_tape_row))) A) args s 0 0 A) (F0 m 103 ls [])) : ∀ (v_next : Int32) (v_sixteen : Int32) (v_hasPower : Int32) (v_power : Int32) (v_tape_length : Int32) (a_tape_row : (Nat → Int32)) (y2 : Int32) (y3 : Int32) (y4 : Int32) (H : Heap) (locs : List Loc) (ls : Array Slot), va_P (dC, dI) classes (WS_Numeral_passPower h_this h_this_tape h_this_tape_row c_this_tape_row v_next v_negative v_sixteen v_hasPoint v_hasPower v_from v_to v_before v_digits v_power v_found v_tape_length a_tape_row) H → va_D A (WS_Numeral_passPower h_this h_this_tape h_this_tape_row c_this_tape_row v_next v_negative v_sixteen v_hasPoint v_hasPower v_from v_to v_before v_digits v_power v_found v_tape_length a_tape_row) → va_S A s.heap H locs → lv_has ls 5 [(0, .ref h_this), (2, .int y2), (3, .int y3), (4, .int y4)] → f_Numeral_passPower_103b k103 v_next v_sixteen v_hasPower v_power v_tape_length a_tape_row y2 y3 y4 = some res → W p l e ({ frames := 2, cells := 0, slots := 0, locals := 42 }) s m args below meth c H locs 0 0 (MQ below (va_Qi (fun (r : Int32) (u : Int32 × Int32 × Int32) => some (r, u) = some res) (gB (dC, dI) [(c_this_tape_row, .byte)] A (fun (u : Int32 × Int32 × Int32) => (WS_Numeral_passPower h_this h_this_tape h_this_tape_row c_this_tape_row u.1 v_negative v_sixteen v_hasPoint u.2.1 v_from v_to v_before v_digits u.2.2 v_found v_tape_length a_tape_row))) A) args s 0 0 A) (F0 m 103 ls []) := by
  intro v_next v_sixteen v_hasPower v_power v_tape_length a_tape_row y2 y3 y4 H locs ls hP hD hS hl h
  obtain ⟨hx, hb, hr, hml, hown, ht, hlk⟩ := id cx
  refine lv_aload_n hx hb d_Numeral_passPower_103 rfl (lv_at hl 0 rfl) ?_
  refine va_get (D := (dC, dI)) (ci := 2) (v := .int v_next) (C := R_Numeral) (T := F_Numeral) (N := 12) hx hb ht i_Numeral hown hK hP 0 rfl rfl 1 (by decide) (ht _ q_16) (fun _ h9 => h9) rfl d_Numeral_passPower_104 ?_
  refine lv_iload hx hb d_Numeral_passPower_107 (lv_at hl 3 rfl) ?_
  refine lv_icmp_ge (tgt := 175) hx hb d_Numeral_passPower_109 (by decide) (fun c3 => ?_) (fun c3 => ?_)
  · have h := if_t c3 h
    exact s_Numeral_passPower_175 cx hK hA hX v_next v_sixteen v_hasPower v_power v_tape_length a_tape_row y2 y3 H locs ls hP hD hS (lv_sub hl [0, 1, 2] rfl) h
  · have h := if_f c3 h
    refine lv_aload_n hx hb d_Numeral_passPower_112 rfl (lv_at hl 0 rfl) ?_
    refine va_get (D := (dC, dI)) (ci := 2) (v := .ref h_this_tape) (C := R_Numeral) (T := F_Numeral) (N := 12) hx hb ht i_Numeral hown hK hP 0 rfl rfl 0 (by decide) (ht _ q_17) (fun _ h9 => h9) rfl d_Numeral_passPower_113 ?_
    refine lv_aload_n hx hb d_Numeral_passPower_116 rfl (lv_at hl 0 rfl) ?_
    refine va_get (D := (dC, dI)) (ci := 2) (v := .int v_next) (C := R_Numeral) (T := F_Numeral) (N := 12) hx hb ht i_Numeral hown hK hP 0 rfl rfl 1 (by decide) (ht _ q_16) (fun _ h9 => h9) rfl d_Numeral_passPower_117 ?_
    obtain ⟨r4, hf, h⟩ := bi1_x h
    refine clVi (D := (dC, dI)) (n := 1) (As := [.int v_next]) ⟨hx, hb, hml, hown, ht⟩ (c_Tape_at l dC dI X h_this_tape h_this_tape_row c_this_tape_row H.size v_tape_length a_tape_row v_next r4 hf) (gV q_18 q_19 q_20 q_6 q_21) (by decide +kernel) ⟨rfl, rfl, Nat.le_of_ble_eq_true rfl, Nat.le_of_ble_eq_true rfl⟩ hK hP hD hS hA hX [1, 2] [0] [0] rfl (wr := [(h_this, .inr (2, [.ref h_this_tape, .int v_next, .int v_negative, .int v_sixteen, .int v_hasPoint, .int v_hasPower, .int v_from, .int v_to, .int v_before, .int v_digits, .int v_power, .long v_found]))]) rfl (by decide) (by decide) (by decide) rfl (va_recv hK hP (ci := 1) (q0 := 1) rfl rfl) rfl hl.1 rfl (lv_room (Nat.le_of_ble_eq_true rfl)) d_Numeral_passPower_120 ⟨Nat.zero_le _, Nat.zero_le _⟩ (fun r9 u9 H locs h9 hP hD hS => ?_)
    cases h9
    have hP : va_P (dC, dI) classes (WS_Numeral_passPower h_this h_this_tape h_this_tape_row c_this_tape_row v_next v_negative v_sixteen v_hasPoint v_hasPower v_from v_to v_before v_digits v_power v_found v_tape_length a_tape_row) H := hP.sub [0, 1, 2] rfl
    have hD : va_D A (WS_Numeral_passPower h_this h_this_tape h_this_tape_row c_this_tape_row v_next v_negative v_sixteen v_hasPoint v_hasPower v_from v_to v_before v_digits v_power v_found v_tape_length a_tape_row) := hD.sub [0, 1, 2] (by decide) rfl
    refine lv_iconst (v := 0) hx hb d_Numeral_passPower_123 (by decide) ?_
    obtain ⟨r5, hf, h⟩ := bi1_x h
    refine clSi (D := (dC, dI)) (n := 2) (As := [.int r4, .int (0 : Int32)]) ⟨hx, hb, hml, hown, ht⟩ (c_Numeral_digitOf l dC dI X  H.size r4 (0 : Int32) r5 hf) (gS q_30 q_31 q_24 q_32) (by decide +kernel) ⟨rfl, rfl, Nat.le_of_ble_eq_true rfl, Nat.le_of_ble_eq_true rfl⟩ hK hP hD hS hA hX [] [0, 1, 2] [] rfl (wr := [(h_this, .inr (2, [.ref h_this_tape, .int v_next, .int v_negative, .int v_sixteen, .int v_hasPoint, .int v_hasPower, .int v_from, .int v_to, .int v_before, .int v_digits, .int v_power, .long v_found])), (h_this_tape, .inr (1, [.ref h_this_tape_row, .int v_tape_length])), (h_this_tape_row, .inl (c_this_tape_row, 1200, .inl a_tape_row))]) rfl (by decide) (by decide) (by decide) rfl rfl hl.1 rfl (lv_room (Nat.le_of_ble_eq_true rfl)) d_Numeral_passPower_124 ⟨Nat.zero_le _, Nat.zero_le _⟩ (fun r9 u9 H locs h9 hP hD hS => ?_)
    cases h9
    have hP : va_P (dC, dI) classes (WS_Numeral_passPower h_this h_this_tape h_this_tape_row c_this_tape_row v_next v_negative v_sixteen v_hasPoint v_hasPower v_from v_to v_before v_digits v_power v_found v_tape_length a_tape_row) H := hP.sub [0, 1, 2] rfl
    have hD : va_D A (WS_Numeral_passPower h_this h_this_tape h_this_tape_row c_this_tape_row v_next v_negative v_sixteen v_hasPoint v_hasPower v_from v_to v_before v_digits v_power v_found v_tape_length a_tape_row) := hD.sub [0, 1, 2] (by decide) rfl
    refine lv_if_lt (tgt := 175) hx hb d_Numeral_passPower_127 (by decide) (fun c6 => ?_) (fun c6 => ?_)
    · have h := if_t c6 h
      exact s_Numeral_passPower_175 cx hK hA hX v_next v_sixteen v_hasPower v_power v_tape_length a_tape_row y2 y3 H locs ls hP hD hS (lv_sub hl [0, 1, 2] rfl) h
    · have h := if_f c6 h
      refine lv_aload_n hx hb d_Numeral_passPower_130 rfl (lv_at hl 0 rfl) ?_
      refine lv_ldc (v := 100000) hx hb hown (ht _ q_37) d_Numeral_passPower_131 ?_
      refine lv_aload_n hx hb d_Numeral_passPower_133 rfl (lv_at hl 0 rfl) ?_
      refine va_get (D := (dC, dI)) (ci := 2) (v := .int v_power) (C := R_Numeral) (T := F_Numeral) (N := 12) hx hb ht i_Numeral hown hK hP 0 rfl rfl 10 (by decide) (ht _ q_36) (fun _ h9 => h9) rfl d_Numeral_passPower_134 ?_
      refine lv_bipush (v := 10) hx hb d_Numeral_passPower_137 (by decide) ?_
      refine lv_imul hx hb d_Numeral_passPower_139 ?_
      refine lv_aload_n hx hb d_Numeral_passPower_140 rfl (lv_at hl 0 rfl) ?_
      refine va_get (D := (dC, dI)) (ci := 2) (v := .ref h_this_tape) (C := R_Numeral) (T := F_Numeral) (N := 12) hx hb ht i_Numeral hown hK hP 0 rfl rfl 0 (by decide) (ht _ q_17) (fun _ h9 => h9) rfl d_Numeral_passPower_141 ?_
      refine lv_aload_n hx hb d_Numeral_passPower_144 rfl (lv_at hl 0 rfl) ?_
      refine va_get (D := (dC, dI)) (ci := 2) (v := .int v_next) (C := R_Numeral) (T := F_Numeral) (N := 12) hx hb ht i_Numeral hown hK hP 0 rfl rfl 1 (by decide) (ht _ q_16) (fun _ h9 => h9) rfl d_Numeral_passPower_145 ?_
      obtain ⟨r7, hf, h⟩ := bi1_x h
      refine clVi (D := (dC, dI)) (n := 1) (As := [.int v_next]) ⟨hx, hb, hml, hown, ht⟩ (c_Tape_at l dC dI X h_this_tape h_this_tape_row c_this_tape_row H.size v_tape_length a_tape_row v_next r7 hf) (gV q_18 q_19 q_20 q_6 q_21) (by decide +kernel) ⟨rfl, rfl, Nat.le_of_ble_eq_true rfl, Nat.le_of_ble_eq_true rfl⟩ hK hP hD hS hA hX [1, 2] [0] [0] rfl (wr := [(h_this, .inr (2, [.ref h_this_tape, .int v_next, .int v_negative, .int v_sixteen, .int v_hasPoint, .int v_hasPower, .int v_from, .int v_to, .int v_before, .int v_digits, .int v_power, .long v_found]))]) rfl (by decide) (by decide) (by decide) rfl (va_recv hK hP (ci := 1) (q0 := 1) rfl rfl) rfl hl.1 rfl (lv_room (Nat.le_of_ble_eq_true rfl)) d_Numeral_passPower_148 ⟨Nat.zero_le _, Nat.zero_le _⟩ (fun r9 u9 H locs h9 hP hD hS => ?_)
      cases h9
      have hP : va_P (dC, dI) classes (WS_Numeral_passPower h_this h_this_tape h_this_tape_row c_this_tape_row v_next v_negative v_sixteen v_hasPoint v_hasPower v_from v_to v_before v_digits v_power v_found v_tape_length a_tape_row) H := hP.sub [0, 1, 2] rfl
      have hD : va_D A (WS_Numeral_passPower h_this h_this_tape h_this_tape_row c_this_tape_row v_next v_negative v_sixteen v_hasPoint v_hasPower v_from v_to v_before v_digits v_power v_found v_tape_length a_tape_row) := hD.sub [0, 1, 2] (by decide) rfl
      refine lv_iconst (v := 0) hx hb d_Numeral_passPower_151 (by decide) ?_
      obtain ⟨r8, hf, h⟩ := bi1_x h
      refine clSi (D := (dC, dI)) (n := 2) (As := [.int r7, .int (0 : Int32)]) ⟨hx, hb, hml, hown, ht⟩ (c_Numeral_digitOf l dC dI X  H.size r7 (0 : Int32) r8 hf) (gS q_30 q_31 q_24 q_32) (by decide +kernel) ⟨rfl, rfl, Nat.le_of_ble_eq_true rfl, Nat.le_of_ble_eq_true rfl⟩ hK hP hD hS hA hX [] [0, 1, 2] [] rfl (wr := [(h_this, .inr (2, [.ref h_this_tape, .int v_next, .int v_negative, .int v_sixteen, .int v_hasPoint, .int v_hasPower, .int v_from, .int v_to, .int v_before, .int v_digits, .int v_power, .long v_found])), (h_this_tape, .inr (1, [.ref h_this_tape_row, .int v_tape_length])), (h_this_tape_row, .inl (c_this_tape_row, 1200, .inl a_tape_row))]) rfl (by decide) (by decide) (by decide) rfl rfl hl.1 rfl (lv_room (Nat.le_of_ble_eq_true rfl)) d_Numeral_passPower_152 ⟨Nat.zero_le _, Nat.zero_le _⟩ (fun r9 u9 H locs h9 hP hD hS => ?_)
      cases h9
      have hP : va_P (dC, dI) classes (WS_Numeral_passPower h_this h_this_tape h_this_tape_row c_this_tape_row v_next v_negative v_sixteen v_hasPoint v_hasPower v_from v_to v_before v_digits v_power v_found v_tape_length a_tape_row) H := hP.sub [0, 1, 2] rfl
      have hD : va_D A (WS_Numeral_passPower h_this h_this_tape h_this_tape_row c_this_tape_row v_next v_negative v_sixteen v_hasPoint v_hasPower v_from v_to v_before v_digits v_power v_found v_tape_length a_tape_row) := hD.sub [0, 1, 2] (by decide) rfl
      refine lv_iadd hx hb d_Numeral_passPower_155 ?_
      refine va_mmin hx hb (hml.trans hl.1.symm) hown (ht _ q_38) (ht _ q_39) (ht _ q_40) (ht _ q_41) (Nat.le_of_ble_eq_true rfl) (Nat.le_of_ble_eq_true rfl) (Nat.zero_le _) (Nat.zero_le _) d_Numeral_passPower_156 ?_
      refine W.eq (g2 := F0 m 159 ls (.int (imn (100000 : Int32) ((v_power * (10 : Int32)) + r8)) :: .ref h_this :: [])) rfl ?_
      refine lv_topi (fun x9 e_x9 => ?_)
      have h := bd_g e_x9 h
      refine va_put (D := (dC, dI)) (ci := 2) (v := .int x9) (ty := .int) (C := R_Numeral) (T := F_Numeral) (N := 12) hx hb ht i_Numeral t_Numeral t_Numeral_ok n_Numeral hown hK hP hD hS 0 rfl rfl 10 (by decide) (ht _ q_36) (fun _ h9 => h9) rfl (t_Numeral_ok 10 (by decide)) rfl rfl (Nat.le_of_ble_eq_true rfl) d_Numeral_passPower_159 (fun H locs hP hD hS => ?_)
      have hP : va_P (dC, dI) classes (WS_Numeral_passPower h_this h_this_tape h_this_tape_row c_this_tape_row v_next v_negative v_sixteen v_hasPoint v_hasPower v_from v_to v_before v_digits x9 v_found v_tape_length a_tape_row) H := hP
      have hD : va_D A (WS_Numeral_passPower h_this h_this_tape h_this_tape_row c_this_tape_row v_next v_negative v_sixteen v_hasPoint v_hasPower v_from v_to v_before v_digits x9 v_found v_tape_length a_tape_row) := hD
      refine lv_aload_n hx hb d_Numeral_passPower_162 rfl (lv_at hl 0 rfl) ?_
      refine lv_dup hx hb d_Numeral_passPower_163 rfl ?_
      refine va_get (D := (dC, dI)) (ci := 2) (v := .int v_next) (C := R_Numeral) (T := F_Numeral) (N := 12) hx hb ht i_Numeral hown hK hP 0 rfl rfl 1 (by decide) (ht _ q_16) (fun _ h9 => h9) rfl d_Numeral_passPower_164 ?_
      refine lv_iconst (v := 1) hx hb d_Numeral_passPower_167 (by decide) ?_
      refine lv_iadd hx hb d_Numeral_passPower_168 ?_
      refine lv_topi (fun x10 e_x10 => ?_)
      have h := bd_g e_x10 h
      refine va_put (D := (dC, dI)) (ci := 2) (v := .int x10) (ty := .int) (C := R_Numeral) (T := F_Numeral) (N := 12) hx hb ht i_Numeral t_Numeral t_Numeral_ok n_Numeral hown hK hP hD hS 0 rfl rfl 1 (by decide) (ht _ q_16) (fun _ h9 => h9) rfl (t_Numeral_ok 1 (by decide)) rfl rfl (Nat.le_of_ble_eq_true rfl) d_Numeral_passPower_169 (fun H locs hP hD hS => ?_)
      have hP : va_P (dC, dI) classes (WS_Numeral_passPower h_this h_this_tape h_this_tape_row c_this_tape_row x10 v_negative v_sixteen v_hasPoint v_hasPower v_from v_to v_before v_digits x9 v_found v_tape_length a_tape_row) H := hP
      have hD : va_D A (WS_Numeral_passPower h_this h_this_tape h_this_tape_row c_this_tape_row x10 v_negative v_sixteen v_hasPoint v_hasPower v_from v_to v_before v_digits x9 v_found v_tape_length a_tape_row) := hD
      refine lv_goto (tgt := 103) hx hb d_Numeral_passPower_172 (by decide) ?_
      exact hk103 x10 v_sixteen v_hasPower x9 v_tape_length a_tape_row y2 y3 y4 H locs ls hP hD hS (lv_sub hl [0, 1, 2, 3] rfl) h
set_option maxHeartbeats 4000000 in
set_option maxRecDepth 100000 in
theorem s_Numeral_passPower_103 {p : Program} {l : Launch} {e : Env} {s : State} {m : MethodId} {args : Array Value} {below : List Frame} {meth : Method} {c : Code} {dC : Nat → ClassId} {dI : Nat → Nat → Nat} {A : Nat → Prop} {X : SXT} {h_this : Nat} {h_this_tape : Nat} {h_this_tape_row : Nat} {c_this_tape_row : ClassId} {v_negative : Int32} {v_hasPoint : Int32} {v_from : Int32} {v_to : Int32} {v_before : Int32} {v_digits : Int32} {v_found : Int64} {res : Int32 × Int32 × Int32 × Int32}  (cx : cxx p s m args meth c b_Numeral_passPower 5 (some .boolean) R_Numeral) (hK : va_K (dC, dI) classes [(c_this_tape_row, .byte)] s) (hA : ∀ q, s.heap.size ≤ q → A q) (hX : SX X A s s.heap)  : ∀ n : Nat, ∀ (v_next : Int32) (v_sixteen : Int32) (v_hasPower : Int32) (v_power : Int32) (v_tape_length : Int32) (a_tape_row : (Nat → Int32)) (y2 : Int32) (y3 : Int32) (y4 : Int32) (H : Heap) (locs : List Loc) (ls : Array Slot), va_P (dC, dI) classes (WS_Numeral_passPower h_this h_this_tape h_this_tape_row c_this_tape_row v_next v_negative v_sixteen v_hasPoint v_hasPower v_from v_to v_before v_digits v_power v_found v_tape_length a_tape_row) H → va_D A (WS_Numeral_passPower h_this h_this_tape h_this_tape_row c_this_tape_row v_next v_negative v_sixteen v_hasPoint v_hasPower v_from v_to v_before v_digits v_power v_found v_tape_length a_tape_row) → va_S A s.heap H locs → lv_has ls 5 [(0, .ref h_this), (2, .int y2), (3, .int y3), (4, .int y4)] → f_Numeral_passPower_103 n v_next v_sixteen v_hasPower v_power v_tape_length a_tape_row y2 y3 y4 = some res → W p l e ({ frames := 2, cells := 0, slots := 0, locals := 42 }) s m args below meth c H locs 0 0 (MQ below (va_Qi (fun (r : Int32) (u : Int32 × Int32 × Int32) => some (r, u) = some res) (gB (dC, dI) [(c_this_tape_row, .byte)] A (fun (u : Int32 × Int32 × Int32) => (WS_Numeral_passPower h_this h_this_tape h_this_tape_row c_this_tape_row u.1 v_negative v_sixteen v_hasPoint u.2.1 v_from v_to v_before v_digits u.2.2 v_found v_tape_length a_tape_row))) A) args s 0 0 A) (F0 m 103 ls []) := by
  intro n
  induction n with
  | zero =>
    intro v_next v_sixteen v_hasPower v_power v_tape_length a_tape_row y2 y3 y4 H locs ls hP hD hS hl h
    have h9 : (none : Option (Int32 × Int32 × Int32 × Int32)) = some res := h
    cases h9
  | succ n ih =>
    intro v_next v_sixteen v_hasPower v_power v_tape_length a_tape_row y2 y3 y4 H locs ls hP hD hS hl h
    exact s_Numeral_passPower_103b cx hK hA hX ih v_next v_sixteen v_hasPower v_power v_tape_length a_tape_row y2 y3 y4 H locs ls hP hD hS hl h
set_option maxHeartbeats 4000000 in
set_option maxRecDepth 100000 in
theorem s_Numeral_passPower_62 {p : Program} {l : Launch} {e : Env} {s : State} {m : MethodId} {args : Array Value} {below : List Frame} {meth : Method} {c : Code} {dC : Nat → ClassId} {dI : Nat → Nat → Nat} {A : Nat → Prop} {X : SXT} {h_this : Nat} {h_this_tape : Nat} {h_this_tape_row : Nat} {c_this_tape_row : ClassId} {v_negative : Int32} {v_hasPoint : Int32} {v_from : Int32} {v_to : Int32} {v_before : Int32} {v_digits : Int32} {v_found : Int64} {res : Int32 × Int32 × Int32 × Int32}  (cx : cxx p s m args meth c b_Numeral_passPower 5 (some .boolean) R_Numeral) (hK : va_K (dC, dI) classes [(c_this_tape_row, .byte)] s) (hA : ∀ q, s.heap.size ≤ q → A q) (hX : SX X A s s.heap)  : ∀ (v_next : Int32) (v_sixteen : Int32) (v_hasPower : Int32) (v_power : Int32) (v_tape_length : Int32) (a_tape_row : (Nat → Int32)) (z1 : Int32) (H : Heap) (locs : List Loc) (ls : Array Slot), va_P (dC, dI) classes (WS_Numeral_passPower h_this h_this_tape h_this_tape_row c_this_tape_row v_next v_negative v_sixteen v_hasPoint v_hasPower v_from v_to v_before v_digits v_power v_found v_tape_length a_tape_row) H → va_D A (WS_Numeral_passPower h_this h_this_tape h_this_tape_row c_this_tape_row v_next v_negative v_sixteen v_hasPoint v_hasPower v_from v_to v_before v_digits v_power v_found v_tape_length a_tape_row) → va_S A s.heap H locs → lv_has ls 5 [(0, .ref h_this)] → f_Numeral_passPower_62 v_next v_sixteen v_hasPower v_power v_tape_length a_tape_row z1 = some res → W p l e ({ frames := 2, cells := 0, slots := 0, locals := 42 }) s m args below meth c H locs 0 0 (MQ below (va_Qi (fun (r : Int32) (u : Int32 × Int32 × Int32) => some (r, u) = some res) (gB (dC, dI) [(c_this_tape_row, .byte)] A (fun (u : Int32 × Int32 × Int32) => (WS_Numeral_passPower h_this h_this_tape h_this_tape_row c_this_tape_row u.1 v_negative v_sixteen v_hasPoint u.2.1 v_from v_to v_before v_digits u.2.2 v_found v_tape_length a_tape_row))) A) args s 0 0 A) (F0 m 62 ls [.int z1, .ref h_this]) := by
  intro v_next v_sixteen v_hasPower v_power v_tape_length a_tape_row z1 H locs ls hP hD hS hl h
  obtain ⟨hx, hb, hr, hml, hown, ht, hlk⟩ := id cx
  obtain ⟨c11, h⟩ := ck_x h
  refine va_put (D := (dC, dI)) (ci := 2) (v := .int z1) (ty := .boolean) (C := R_Numeral) (T := F_Numeral) (N := 12) hx hb ht i_Numeral t_Numeral t_Numeral_ok n_Numeral hown hK hP hD hS 0 rfl rfl 5 (by decide) (ht _ q_42) (fun _ h9 => h9) rfl (t_Numeral_ok 5 (by decide)) (ckZ_n c11) (ckZ_f c11) (Nat.le_of_ble_eq_true rfl) d_Numeral_passPower_62 (fun H locs hP hD hS => ?_)
  have hP : va_P (dC, dI) classes (WS_Numeral_passPower h_this h_this_tape h_this_tape_row c_this_tape_row v_next v_negative v_sixteen v_hasPoint z1 v_from v_to v_before v_digits v_power v_found v_tape_length a_tape_row) H := hP
  have hD : va_D A (WS_Numeral_passPower h_this h_this_tape h_this_tape_row c_this_tape_row v_next v_negative v_sixteen v_hasPoint z1 v_from v_to v_before v_digits v_power v_found v_tape_length a_tape_row) := hD
  refine lv_aload_n hx hb d_Numeral_passPower_65 rfl (lv_at hl 0 rfl) ?_
  refine va_get (D := (dC, dI)) (ci := 2) (v := .int z1) (C := R_Numeral) (T := F_Numeral) (N := 12) hx hb ht i_Numeral hown hK hP 0 rfl rfl 5 (by decide) (ht _ q_42) (fun _ h9 => h9) rfl d_Numeral_passPower_66 ?_
  refine lv_if_ne (tgt := 74) hx hb d_Numeral_passPower_69 (by decide) (fun c12 => ?_) (fun c12 => ?_)
  · have h := if_f c12 h
    refine lv_aload_n hx hb d_Numeral_passPower_74 rfl (lv_at hl 0 rfl) ?_
    refine lv_dup hx hb d_Numeral_passPower_75 rfl ?_
    refine va_get (D := (dC, dI)) (ci := 2) (v := .int v_next) (C := R_Numeral) (T := F_Numeral) (N := 12) hx hb ht i_Numeral hown hK hP 0 rfl rfl 1 (by decide) (ht _ q_16) (fun _ h9 => h9) rfl d_Numeral_passPower_76 ?_
    refine lv_iconst (v := 1) hx hb d_Numeral_passPower_79 (by decide) ?_
    refine lv_iadd hx hb d_Numeral_passPower_80 ?_
    refine lv_topi (fun x13 e_x13 => ?_)
    have h := bd_g e_x13 h
    refine va_put (D := (dC, dI)) (ci := 2) (v := .int x13) (ty := .int) (C := R_Numeral) (T := F_Numeral) (N := 12) hx hb ht i_Numeral t_Numeral t_Numeral_ok n_Numeral hown hK hP hD hS 0 rfl rfl 1 (by decide) (ht _ q_16) (fun _ h9 => h9) rfl (t_Numeral_ok 1 (by decide)) rfl rfl (Nat.le_of_ble_eq_true rfl) d_Numeral_passPower_81 (fun H locs hP hD hS => ?_)
    have hP : va_P (dC, dI) classes (WS_Numeral_passPower h_this h_this_tape h_this_tape_row c_this_tape_row x13 v_negative v_sixteen v_hasPoint z1 v_from v_to v_before v_digits v_power v_found v_tape_length a_tape_row) H := hP
    have hD : va_D A (WS_Numeral_passPower h_this h_this_tape h_this_tape_row c_this_tape_row x13 v_negative v_sixteen v_hasPoint z1 v_from v_to v_before v_digits v_power v_found v_tape_length a_tape_row) := hD
    refine lv_aload_n hx hb d_Numeral_passPower_84 rfl (lv_at hl 0 rfl) ?_
    obtain ⟨r14, v15, hf, h⟩ := bi2_x h
    refine clVi (D := (dC, dI)) (n := 0) (As := []) ⟨hx, hb, hml, hown, ht⟩ (c_Numeral_passSign l dC dI X h_this h_this_tape h_this_tape_row c_this_tape_row H.size x13 v_negative v_sixteen v_hasPoint z1 v_from v_to v_before v_digits v_power v_found v_tape_length a_tape_row (r14, v15) hf) (gV q_43 q_44 q_45 q_24 q_46) (by decide +kernel) ⟨rfl, rfl, Nat.le_of_ble_eq_true rfl, Nat.le_of_ble_eq_true rfl⟩ hK hP hD hS hA hX [0, 1, 2] [] [0] rfl (wr := []) rfl (by decide) (by decide) (by decide) rfl (va_recv hK hP (ci := 2) (q0 := 0) rfl rfl) rfl hl.1 rfl (lv_room (Nat.le_of_ble_eq_true rfl)) d_Numeral_passPower_85 ⟨Nat.zero_le _, Nat.zero_le _⟩ (fun r9 u9 H locs h9 hP hD hS => ?_)
    cases h9
    have hP : va_P (dC, dI) classes (WS_Numeral_passPower h_this h_this_tape h_this_tape_row c_this_tape_row v15 v_negative v_sixteen v_hasPoint z1 v_from v_to v_before v_digits v_power v_found v_tape_length a_tape_row) H := hP.sub [0, 1, 2] rfl
    have hD : va_D A (WS_Numeral_passPower h_this h_this_tape h_this_tape_row c_this_tape_row v15 v_negative v_sixteen v_hasPoint z1 v_from v_to v_before v_digits v_power v_found v_tape_length a_tape_row) := hD.sub [0, 1, 2] (by decide) rfl
    refine lv_istore_n (lv' := [(2, .int r14), (0, .ref h_this)]) hx hb d_Numeral_passPower_88 rfl hl (by decide) rfl (fun ls hl => ?_)
    refine lv_aload_n hx hb d_Numeral_passPower_89 rfl (lv_at hl 1 rfl) ?_
    refine va_get (D := (dC, dI)) (ci := 2) (v := .int v15) (C := R_Numeral) (T := F_Numeral) (N := 12) hx hb ht i_Numeral hown hK hP 0 rfl rfl 1 (by decide) (ht _ q_16) (fun _ h9 => h9) rfl d_Numeral_passPower_90 ?_
    refine lv_istore_n (lv' := [(3, .int v15), (2, .int r14), (0, .ref h_this)]) hx hb d_Numeral_passPower_93 rfl hl (by decide) rfl (fun ls hl => ?_)
    refine lv_aload_n hx hb d_Numeral_passPower_94 rfl (lv_at hl 2 rfl) ?_
    refine va_get (D := (dC, dI)) (ci := 2) (v := .ref h_this_tape) (C := R_Numeral) (T := F_Numeral) (N := 12) hx hb ht i_Numeral hown hK hP 0 rfl rfl 0 (by decide) (ht _ q_17) (fun _ h9 => h9) rfl d_Numeral_passPower_95 ?_
    obtain ⟨r16, hf, h⟩ := bi1_x h
    refine clVi (D := (dC, dI)) (n := 0) (As := []) ⟨hx, hb, hml, hown, ht⟩ (c_Tape_length l dC dI X h_this_tape_row h_this_tape H.size v_tape_length r16 hf) (gV q_26 q_4 q_5 q_6 q_7) (by decide +kernel) ⟨rfl, rfl, Nat.le_of_ble_eq_true rfl, Nat.le_of_ble_eq_true rfl⟩ hK hP hD hS hA hX [1] [0, 2] [] rfl (wr := [(h_this, .inr (2, [.ref h_this_tape, .int v15, .int v_negative, .int v_sixteen, .int v_hasPoint, .int z1, .int v_from, .int v_to, .int v_before, .int v_digits, .int v_power, .long v_found])), (h_this_tape_row, .inl (c_this_tape_row, 1200, .inl a_tape_row))]) rfl (by decide) (by decide) (by decide) rfl (va_recv hK hP (ci := 1) (q0 := 1) rfl rfl) rfl hl.1 rfl (lv_room (Nat.le_of_ble_eq_true rfl)) d_Numeral_passPower_98 ⟨Nat.zero_le _, Nat.zero_le _⟩ (fun r9 u9 H locs h9 hP hD hS => ?_)
    cases h9
    have hP : va_P (dC, dI) classes (WS_Numeral_passPower h_this h_this_tape h_this_tape_row c_this_tape_row v15 v_negative v_sixteen v_hasPoint z1 v_from v_to v_before v_digits v_power v_found v_tape_length a_tape_row) H := hP.sub [0, 2, 1] rfl
    have hD : va_D A (WS_Numeral_passPower h_this h_this_tape h_this_tape_row c_this_tape_row v15 v_negative v_sixteen v_hasPoint z1 v_from v_to v_before v_digits v_power v_found v_tape_length a_tape_row) := hD.sub [0, 2, 1] (by decide) rfl
    refine lv_istore (lv' := [(4, .int r16), (3, .int v15), (2, .int r14), (0, .ref h_this)]) hx hb d_Numeral_passPower_101 hl (by decide) rfl (fun ls hl => ?_)
    exact s_Numeral_passPower_103 cx hK hA hX fu v15 v_sixteen z1 v_power v_tape_length a_tape_row r14 v15 r16 H locs ls hP hD hS (lv_sub hl [3, 2, 1, 0] rfl) h
  · have h := if_t c12 h
    refine lv_iconst (v := 1) hx hb d_Numeral_passPower_72 (by decide) ?_
    exact W.zret (v := (1 : Int32)) hx hb hr rfl (fun t ht9 hW => ⟨⟨(1 : Int32), (v_next, z1, v_power), rfl, h, by rw [ht9]; exact hP, va_K.moved hW.alike hK, hD⟩, hS.F ht9⟩) hS.2.2 d_Numeral_passPower_73 hlk
set_option maxHeartbeats 4000000 in
set_option maxRecDepth 100000 in
theorem s_Numeral_passPower_57 {p : Program} {l : Launch} {e : Env} {s : State} {m : MethodId} {args : Array Value} {below : List Frame} {meth : Method} {c : Code} {dC : Nat → ClassId} {dI : Nat → Nat → Nat} {A : Nat → Prop} {X : SXT} {h_this : Nat} {h_this_tape : Nat} {h_this_tape_row : Nat} {c_this_tape_row : ClassId} {v_negative : Int32} {v_hasPoint : Int32} {v_from : Int32} {v_to : Int32} {v_before : Int32} {v_digits : Int32} {v_found : Int64} {res : Int32 × Int32 × Int32 × Int32}  (cx : cxx p s m args meth c b_Numeral_passPower 5 (some .boolean) R_Numeral) (hK : va_K (dC, dI) classes [(c_this_tape_row, .byte)] s) (hA : ∀ q, s.heap.size ≤ q → A q) (hX : SX X A s s.heap)  : ∀ (v_next : Int32) (v_sixteen : Int32) (v_hasPower : Int32) (v_power : Int32) (v_tape_length : Int32) (a_tape_row : (Nat → Int32)) (H : Heap) (locs : List Loc) (ls : Array Slot), va_P (dC, dI) classes (WS_Numeral_passPower h_this h_this_tape h_this_tape_row c_this_tape_row v_next v_negative v_sixteen v_hasPoint v_hasPower v_from v_to v_before v_digits v_power v_found v_tape_length a_tape_row) H → va_D A (WS_Numeral_passPower h_this h_this_tape h_this_tape_row c_this_tape_row v_next v_negative v_sixteen v_hasPoint v_hasPower v_from v_to v_before v_digits v_power v_found v_tape_length a_tape_row) → va_S A s.heap H locs → lv_has ls 5 [(0, .ref h_this)] → f_Numeral_passPower_57 v_next v_sixteen v_hasPower v_power v_tape_length a_tape_row = some res → W p l e ({ frames := 2, cells := 0, slots := 0, locals := 42 }) s m args below meth c H locs 0 0 (MQ below (va_Qi (fun (r : Int32) (u : Int32 × Int32 × Int32) => some (r, u) = some res) (gB (dC, dI) [(c_this_tape_row, .byte)] A (fun (u : Int32 × Int32 × Int32) => (WS_Numeral_passPower h_this h_this_tape h_this_tape_row c_this_tape_row u.1 v_negative v_sixteen v_hasPoint u.2.1 v_from v_to v_before v_digits u.2.2 v_found v_tape_length a_tape_row))) A) args s 0 0 A) (F0 m 57 ls [.ref h_this]) := by
  intro v_next v_sixteen v_hasPower v_power v_tape_length a_tape_row H locs ls hP hD hS hl h
  obtain ⟨hx, hb, hr, hml, hown, ht, hlk⟩ := id cx
  refine lv_iconst (v := 1) hx hb d_Numeral_passPower_57 (by decide) ?_
  refine lv_goto (tgt := 62) hx hb d_Numeral_passPower_58 (by decide) ?_
  exact s_Numeral_passPower_62 cx hK hA hX v_next v_sixteen v_hasPower v_power v_tape_length a_tape_row (1 : Int32) H locs ls hP hD hS (lv_sub hl [0] rfl) h
set_option maxHeartbeats 4000000 in
set_option maxRecDepth 100000 in
theorem s_Numeral_passPower_37 {p : Program} {l : Launch} {e : Env} {s : State} {m : MethodId} {args : Array Value} {below : List Frame} {meth : Method} {c : Code} {dC : Nat → ClassId} {dI : Nat → Nat → Nat} {A : Nat → Prop} {X : SXT} {h_this : Nat} {h_this_tape : Nat} {h_this_tape_row : Nat} {c_this_tape_row : ClassId} {v_negative : Int32} {v_hasPoint : Int32} {v_from : Int32} {v_to : Int32} {v_before : Int32} {v_digits : Int32} {v_found : Int64} {res : Int32 × Int32 × Int32 × Int32}  (cx : cxx p s m args meth c b_Numeral_passPower 5 (some .boolean) R_Numeral) (hK : va_K (dC, dI) classes [(c_this_tape_row, .byte)] s) (hA : ∀ q, s.heap.size ≤ q → A q) (hX : SX X A s s.heap)  : ∀ (v_next : Int32) (v_sixteen : Int32) (v_hasPower : Int32) (v_power : Int32) (v_tape_length : Int32) (a_tape_row : (Nat → Int32)) (H : Heap) (locs : List Loc) (ls : Array Slot), va_P (dC, dI) classes (WS_Numeral_passPower h_this h_this_tape h_this_tape_row c_this_tape_row v_next v_negative v_sixteen v_hasPoint v_hasPower v_from v_to v_before v_digits v_power v_found v_tape_length a_tape_row) H → va_D A (WS_Numeral_passPower h_this h_this_tape h_this_tape_row c_this_tape_row v_next v_negative v_sixteen v_hasPoint v_hasPower v_from v_to v_before v_digits v_power v_found v_tape_length a_tape_row) → va_S A s.heap H locs → lv_has ls 5 [(0, .ref h_this)] → f_Numeral_passPower_37 v_next v_sixteen v_hasPower v_power v_tape_length a_tape_row = some res → W p l e ({ frames := 2, cells := 0, slots := 0, locals := 42 }) s m args below meth c H locs 0 0 (MQ below (va_Qi (fun (r : Int32) (u : Int32 × Int32 × Int32) => some (r, u) = some res) (gB (dC, dI) [(c_this_tape_row, .byte)] A (fun (u : Int32 × Int32 × Int32) => (WS_Numeral_passPower h_this h_this_tape h_this_tape_row c_this_tape_row u.1 v_negative v_sixteen v_hasPoint u.2.1 v_from v_to v_before v_digits u.2.2 v_found v_tape_length a_tape_row))) A) args s 0 0 A) (F0 m 37 ls [.ref h_this]) := by
  intro v_next v_sixteen v_hasPower v_power v_tape_length a_tape_row H locs ls hP hD hS hl h
  obtain ⟨hx, hb, hr, hml, hown, ht, hlk⟩ := id cx
  refine lv_iconst (v := 1) hx hb d_Numeral_passPower_37 (by decide) ?_
  refine lv_goto (tgt := 62) hx hb d_Numeral_passPower_38 (by decide) ?_
  exact s_Numeral_passPower_62 cx hK hA hX v_next v_sixteen v_hasPower v_power v_tape_length a_tape_row (1 : Int32) H locs ls hP hD hS (lv_sub hl [0] rfl) h
set_option maxHeartbeats 4000000 in
set_option maxRecDepth 100000 in
theorem s_Numeral_passPower_e {p : Program} {l : Launch} {e : Env} {s : State} {m : MethodId} {args : Array Value} {below : List Frame} {meth : Method} {c : Code} {dC : Nat → ClassId} {dI : Nat → Nat → Nat} {A : Nat → Prop} {X : SXT} {h_this : Nat} {h_this_tape : Nat} {h_this_tape_row : Nat} {c_this_tape_row : ClassId} {v_negative : Int32} {v_hasPoint : Int32} {v_from : Int32} {v_to : Int32} {v_before : Int32} {v_digits : Int32} {v_found : Int64} {res : Int32 × Int32 × Int32 × Int32} (cx : cxx p s m args meth c b_Numeral_passPower 5 (some .boolean) R_Numeral) (hK : va_K (dC, dI) classes [(c_this_tape_row, .byte)] s) (hA : ∀ q, s.heap.size ≤ q → A q) (hX : SX X A s s.heap) : ∀ (v_next : Int32) (v_sixteen : Int32) (v_hasPower : Int32) (v_power : Int32) (v_tape_length : Int32) (a_tape_row : (Nat → Int32)) (H : Heap) (locs : List Loc) (ls : Array Slot), va_P (dC, dI) classes (WS_Numeral_passPower h_this h_this_tape h_this_tape_row c_this_tape_row v_next v_negative v_sixteen v_hasPoint v_hasPower v_from v_to v_before v_digits v_power v_found v_tape_length a_tape_row) H → va_D A (WS_Numeral_passPower h_this h_this_tape h_this_tape_row c_this_tape_row v_next v_negative v_sixteen v_hasPoint v_hasPower v_from v_to v_before v_digits v_power v_found v_tape_length a_tape_row) → va_S A s.heap H locs → lv_has ls 5 [(0, .ref h_this)] → f_Numeral_passPower v_next v_sixteen v_hasPower v_power v_tape_length a_tape_row = some res → W p l e ({ frames := 2, cells := 0, slots := 0, locals := 42 }) s m args below meth c H locs 0 0 (MQ below (va_Qi (fun (r : Int32) (u : Int32 × Int32 × Int32) => some (r, u) = some res) (gB (dC, dI) [(c_this_tape_row, .byte)] A (fun (u : Int32 × Int32 × Int32) => (WS_Numeral_passPower h_this h_this_tape h_this_tape_row c_this_tape_row u.1 v_negative v_sixteen v_hasPoint u.2.1 v_from v_to v_before v_digits u.2.2 v_found v_tape_length a_tape_row))) A) args s 0 0 A) (F0 m 0 ls []) := by
  intro v_next v_sixteen v_hasPower v_power v_tape_length a_tape_row H locs ls hP hD hS hl h
  obtain ⟨hx, hb, hr, hml, hown, ht, hlk⟩ := id cx
  refine lv_aload_n hx hb d_Numeral_passPower_0 rfl (lv_at hl 0 rfl) ?_
  refine va_get (D := (dC, dI)) (ci := 2) (v := .ref h_this_tape) (C := R_Numeral) (T := F_Numeral) (N := 12) hx hb ht i_Numeral hown hK hP 0 rfl rfl 0 (by decide) (ht _ q_17) (fun _ h9 => h9) rfl d_Numeral_passPower_1 ?_
  refine lv_aload_n hx hb d_Numeral_passPower_4 rfl (lv_at hl 0 rfl) ?_
  refine va_get (D := (dC, dI)) (ci := 2) (v := .int v_next) (C := R_Numeral) (T := F_Numeral) (N := 12) hx hb ht i_Numeral hown hK hP 0 rfl rfl 1 (by decide) (ht _ q_16) (fun _ h9 => h9) rfl d_Numeral_passPower_5 ?_
  obtain ⟨r17, hf, h⟩ := bi1_x h
  refine clVi (D := (dC, dI)) (n := 1) (As := [.int v_next]) ⟨hx, hb, hml, hown, ht⟩ (c_Tape_at l dC dI X h_this_tape h_this_tape_row c_this_tape_row H.size v_tape_length a_tape_row v_next r17 hf) (gV q_18 q_19 q_20 q_6 q_21) (by decide +kernel) ⟨rfl, rfl, Nat.le_of_ble_eq_true rfl, Nat.le_of_ble_eq_true rfl⟩ hK hP hD hS hA hX [1, 2] [0] [0] rfl (wr := [(h_this, .inr (2, [.ref h_this_tape, .int v_next, .int v_negative, .int v_sixteen, .int v_hasPoint, .int v_hasPower, .int v_from, .int v_to, .int v_before, .int v_digits, .int v_power, .long v_found]))]) rfl (by decide) (by decide) (by decide) rfl (va_recv hK hP (ci := 1) (q0 := 1) rfl rfl) rfl hl.1 rfl (lv_room (Nat.le_of_ble_eq_true rfl)) d_Numeral_passPower_8 ⟨Nat.zero_le _, Nat.zero_le _⟩ (fun r9 u9 H locs h9 hP hD hS => ?_)
  cases h9
  have hP : va_P (dC, dI) classes (WS_Numeral_passPower h_this h_this_tape h_this_tape_row c_this_tape_row v_next v_negative v_sixteen v_hasPoint v_hasPower v_from v_to v_before v_digits v_power v_found v_tape_length a_tape_row) H := hP.sub [0, 1, 2] rfl
  have hD : va_D A (WS_Numeral_passPower h_this h_this_tape h_this_tape_row c_this_tape_row v_next v_negative v_sixteen v_hasPoint v_hasPower v_from v_to v_before v_digits v_power v_found v_tape_length a_tape_row) := hD.sub [0, 1, 2] (by decide) rfl
  refine lv_istore_n (lv' := [(1, .int r17), (0, .ref h_this)]) hx hb d_Numeral_passPower_11 rfl hl (by decide) rfl (fun ls hl => ?_)
  refine lv_aload_n hx hb d_Numeral_passPower_12 rfl (lv_at hl 1 rfl) ?_
  refine lv_iconst (v := 0) hx hb d_Numeral_passPower_13 (by decide) ?_
  refine va_put (D := (dC, dI)) (ci := 2) (v := .int (0 : Int32)) (ty := .int) (C := R_Numeral) (T := F_Numeral) (N := 12) hx hb ht i_Numeral t_Numeral t_Numeral_ok n_Numeral hown hK hP hD hS 0 rfl rfl 10 (by decide) (ht _ q_36) (fun _ h9 => h9) rfl (t_Numeral_ok 10 (by decide)) rfl rfl (Nat.le_of_ble_eq_true rfl) d_Numeral_passPower_14 (fun H locs hP hD hS => ?_)
  have hP : va_P (dC, dI) classes (WS_Numeral_passPower h_this h_this_tape h_this_tape_row c_this_tape_row v_next v_negative v_sixteen v_hasPoint v_hasPower v_from v_to v_before v_digits (0 : Int32) v_found v_tape_length a_tape_row) H := hP
  have hD : va_D A (WS_Numeral_passPower h_this h_this_tape h_this_tape_row c_this_tape_row v_next v_negative v_sixteen v_hasPoint v_hasPower v_from v_to v_before v_digits (0 : Int32) v_found v_tape_length a_tape_row) := hD
  refine lv_aload_n hx hb d_Numeral_passPower_17 rfl (lv_at hl 1 rfl) ?_
  refine lv_aload_n hx hb d_Numeral_passPower_18 rfl (lv_at hl 1 rfl) ?_
  refine va_get (D := (dC, dI)) (ci := 2) (v := .int v_sixteen) (C := R_Numeral) (T := F_Numeral) (N := 12) hx hb ht i_Numeral hown hK hP 0 rfl rfl 3 (by decide) (ht _ q_27) (fun _ h9 => h9) rfl d_Numeral_passPower_19 ?_
  refine lv_if_eq (tgt := 45) hx hb d_Numeral_passPower_22 (by decide) (fun c18 => ?_) (fun c18 => ?_)
  · have h := if_t c18 h
    refine lv_iload_n hx hb d_Numeral_passPower_45 rfl (lv_at hl 0 rfl) ?_
    refine lv_bipush (v := 101) hx hb d_Numeral_passPower_46 (by decide) ?_
    refine lv_icmp_eq (tgt := 57) hx hb d_Numeral_passPower_48 (by decide) (fun c19 => ?_) (fun c19 => ?_)
    · have h := if_t c19 h
      exact s_Numeral_passPower_57 cx hK hA hX v_next v_sixteen v_hasPower (0 : Int32) v_tape_length a_tape_row H locs ls hP hD hS (lv_sub hl [1] rfl) h
    · have h := if_f c19 h
      refine lv_iload_n hx hb d_Numeral_passPower_51 rfl (lv_at hl 0 rfl) ?_
      refine lv_bipush (v := 69) hx hb d_Numeral_passPower_52 (by decide) ?_
      refine lv_icmp_ne (tgt := 61) hx hb d_Numeral_passPower_54 (by decide) (fun c20 => ?_) (fun c20 => ?_)
      · have h := if_f c20 h
        refine lv_iconst (v := 0) hx hb d_Numeral_passPower_61 (by decide) ?_
        exact s_Numeral_passPower_62 cx hK hA hX v_next v_sixteen v_hasPower (0 : Int32) v_tape_length a_tape_row (0 : Int32) H locs ls hP hD hS (lv_sub hl [1] rfl) h
      · have h := if_t c20 h
        exact s_Numeral_passPower_57 cx hK hA hX v_next v_sixteen v_hasPower (0 : Int32) v_tape_length a_tape_row H locs ls hP hD hS (lv_sub hl [1] rfl) h
  · have h := if_f c18 h
    refine lv_iload_n hx hb d_Numeral_passPower_25 rfl (lv_at hl 0 rfl) ?_
    refine lv_bipush (v := 112) hx hb d_Numeral_passPower_26 (by decide) ?_
    refine lv_icmp_eq (tgt := 37) hx hb d_Numeral_passPower_28 (by decide) (fun c21 => ?_) (fun c21 => ?_)
    · have h := if_t c21 h
      exact s_Numeral_passPower_37 cx hK hA hX v_next v_sixteen v_hasPower (0 : Int32) v_tape_length a_tape_row H locs ls hP hD hS (lv_sub hl [1] rfl) h
    · have h := if_f c21 h
      refine lv_iload_n hx hb d_Numeral_passPower_31 rfl (lv_at hl 0 rfl) ?_
      refine lv_bipush (v := 80) hx hb d_Numeral_passPower_32 (by decide) ?_
      refine lv_icmp_ne (tgt := 41) hx hb d_Numeral_passPower_34 (by decide) (fun c22 => ?_) (fun c22 => ?_)
      · have h := if_f c22 h
        refine lv_iconst (v := 0) hx hb d_Numeral_passPower_41 (by decide) ?_
        refine lv_goto (tgt := 62) hx hb d_Numeral_passPower_42 (by decide) ?_
        exact s_Numeral_passPower_62 cx hK hA hX v_next v_sixteen v_hasPower (0 : Int32) v_tape_length a_tape_row (0 : Int32) H locs ls hP hD hS (lv_sub hl [1] rfl) h
      · have h := if_t c22 h
        exact s_Numeral_passPower_37 cx hK hA hX v_next v_sixteen v_hasPower (0 : Int32) v_tape_length a_tape_row H locs ls hP hD hS (lv_sub hl [1] rfl) h
set_option maxHeartbeats 4000000 in
set_option maxRecDepth 100000 in
theorem c_Numeral_passPower (l : Launch) (dC : Nat → ClassId) (dI : Nat → Nat → Nat) (X : SXT) (h_this : Nat) (h_this_tape : Nat) (h_this_tape_row : Nat) (c_this_tape_row : ClassId) (sz : Nat) (v_next : Int32) (v_negative : Int32) (v_sixteen : Int32) (v_hasPoint : Int32) (v_hasPower : Int32) (v_from : Int32) (v_to : Int32) (v_before : Int32) (v_digits : Int32) (v_power : Int32) (v_found : Int64) (v_tape_length : Int32) (a_tape_row : (Nat → Int32)) (res : Int32 × Int32 × Int32 × Int32) (hf : f_Numeral_passPower v_next v_sixteen v_hasPower v_power v_tape_length a_tape_row = some res) : Met l y_Numeral_passPower (.code y_Numeral_passPower b_Numeral_passPower 5 (some .boolean) :: w0) ({ frames := 2, cells := 0, slots := 0, locals := 42 }) (va_Pc [.ref h_this] (gP (dC, dI) (WS_Numeral_passPower h_this h_this_tape h_this_tape_row c_this_tape_row v_next v_negative v_sixteen v_hasPoint v_hasPower v_from v_to v_before v_digits v_power v_found v_tape_length a_tape_row) [(c_this_tape_row, .byte)] sz X)) (va_Qi (fun (r : Int32) (u : Int32 × Int32 × Int32) => some (r, u) = some res) (gB (dC, dI) [(c_this_tape_row, .byte)] (va_A (WS_Numeral_passPower h_this h_this_tape h_this_tape_row c_this_tape_row v_next v_negative v_sixteen v_hasPoint v_hasPower v_from v_to v_before v_digits v_power v_found v_tape_length a_tape_row) sz) (fun (u : Int32 × Int32 × Int32) => (WS_Numeral_passPower h_this h_this_tape h_this_tape_row c_this_tape_row u.1 v_negative v_sixteen v_hasPoint u.2.1 v_from v_to v_before v_digits u.2.2 v_found v_tape_length a_tape_row))) (va_A (WS_Numeral_passPower h_this h_this_tape h_this_tape_row c_this_tape_row v_next v_negative v_sixteen v_hasPoint v_hasPower v_from v_to v_before v_digits v_power v_found v_tape_length a_tape_row) sz)) 0 0 (va_A (WS_Numeral_passPower h_this h_this_tape h_this_tape_row c_this_tape_row v_next v_negative v_sixteen v_hasPoint v_hasPower v_from v_to v_before v_digits v_power v_found v_tape_length a_tape_row) sz) := by
  refine Met.ofW (cc := b_Numeral_passPower) (maxL := 5) (ret := (some .boolean)) (by decide) rfl ?_
  intro p e s m args below meth c s₁ B hml hv
  obtain ⟨rfl, hsz, hP, hK, hD0, hX⟩ := hv
  subst hsz
  have cx : cxx p s m ([.ref h_this] : List Value).toArray meth c b_Numeral_passPower 5 (some .boolean) R_Numeral := ⟨B.exec, B.bytes, B.returns, hml, findClass_of_methodNamed B.named, fun w9 hw => atoms_spec (ws := .code y_Numeral_passPower b_Numeral_passPower 5 (some .boolean) :: w0) B.pre w9 (List.mem_cons_of_mem _ hw), B.notSynchronized⟩
  have hD := hD0.self (sz := s.heap.size)
  generalize hAe : va_A (WS_Numeral_passPower h_this h_this_tape h_this_tape_row c_this_tape_row v_next v_negative v_sixteen v_hasPoint v_hasPower v_from v_to v_before v_digits v_power v_found v_tape_length a_tape_row) s.heap.size = A at hD hX ⊢
  have hA : ∀ q : Nat, s.heap.size ≤ q → A q := fun q h => by rw [← hAe]; exact Or.inr h
  have hS : va_S A s.heap s.heap [] := va_S.rf
  have hl := lv_entry ([.ref h_this]) (n := 5) (Nat.le_of_ble_eq_true rfl)
  rw [lg_entry_eq]
  generalize (lg_sl ([.ref h_this]) ++ List.replicate (5 - (lg_sl ([.ref h_this])).length) Slot.unset).toArray = ls at hl ⊢
  have hl : lv_has ls 5 [(0, .ref h_this)] := hl
  exact s_Numeral_passPower_e cx hK hA hX v_next v_sixteen v_hasPower v_power v_tape_length a_tape_row s.heap [] ls hP hD hS hl hf

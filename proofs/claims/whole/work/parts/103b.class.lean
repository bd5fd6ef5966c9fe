abbrev WS_Decimal_hasBelow (h_this : Nat) (h_this_row : Nat) (c_this_row : ClassId) (v_first : Int32) (v_last : Int32) (a_row : (Nat → Int32)) : va_W := [(h_this, .inr (3, [.ref h_this_row, .int v_first, .int v_last])), (h_this_row, .inl (c_this_row, 208, .inl a_row))]
def f_Decimal_hasBelow_43 (v_last : Int32) (a_row : (Nat → Int32)) : Option (Int32) :=
  some (1 : Int32)
def f_Decimal_hasBelow_29 (v_last : Int32) (a_row : (Nat → Int32)) (y2 : Int32) (y3 : Int32) : Option (Int32) :=
  if y2 ≤ 0 then
    some (0 : Int32)
  else
    bi1 (f_Decimal_limb a_row y3) fun r2 =>
    ck (¬ y2 = 0) <|
    if (irm r2 y2) = 0 then
      some (0 : Int32)
    else
      f_Decimal_hasBelow_43 v_last a_row
def f_Decimal_hasBelow (v_last : Int32) (a_row : (Nat → Int32)) (p1 : Int32) : Option (Int32) :=
  bi1 (f_Decimal_unitOf p1) fun r5 =>
  bi1 (f_Decimal_limbOf p1) fun r6 =>
  if v_last ≤ r6 then
    f_Decimal_hasBelow_29 v_last a_row r5 r6
  else
    bi1 (f_Decimal_limb a_row v_last) fun r8 =>
    if r8 = 0 then
      f_Decimal_hasBelow_29 v_last a_row r5 r6
    else
      f_Decimal_hasBelow_43 v_last a_row
set_option maxHeartbeats 4000000 in
set_option maxRecDepth 100000 in
theorem s_Decimal_hasBelow_43 {p : Program} {l : Launch} {e : Env} {s : State} {m : MethodId} {args : Array Value} {below : List Frame} {meth : Method} {c : Code} {dC : Nat → ClassId} {dI : Nat → Nat → Nat} {A : Nat → Prop} {X : SXT} {h_this : Nat} {h_this_row : Nat} {c_this_row : ClassId} {v_first : Int32} {res : Int32}  (cx : cxx p s m args meth c b_Decimal_hasBelow 4 (some .boolean) R_Decimal) (hK : va_K (dC, dI) classes [(c_this_row, .int)] s) (hA : ∀ q, s.heap.size ≤ q → A q) (hX : SX X A s s.heap)  : ∀ (v_last : Int32) (a_row : (Nat → Int32)) (H : Heap) (locs : List Loc) (ls : Array Slot), va_P (dC, dI) classes (WS_Decimal_hasBelow h_this h_this_row c_this_row v_first v_last a_row) H → va_D A (WS_Decimal_hasBelow h_this h_this_row c_this_row v_first v_last a_row) → va_S A s.heap H locs → lv_has ls 4 [(0, .ref h_this)] → f_Decimal_hasBelow_43 v_last a_row = some res → W p l e ({ frames := 1, cells := 0, slots := 0, locals := 21 }) s m args below meth c H locs 0 0 (MQ below (va_Qi (fun (r : Int32) (_ : Unit) => some r = some res) (gB (dC, dI) [(c_this_row, .int)] A (fun (u : Unit) => (WS_Decimal_hasBelow h_this h_this_row c_this_row v_first v_last a_row))) A) args s 0 0 A) (F0 m 43 ls []) := by
  intro v_last a_row H locs ls hP hD hS hl h
  obtain ⟨hx, hb, hr, hml, hown, ht, hlk⟩ := id cx
  refine lv_iconst (v := 1) hx hb d_Decimal_hasBelow_43 (by decide) ?_
  refine lv_goto (tgt := 48) hx hb d_Decimal_hasBelow_44 (by decide) ?_
  exact W.zret (v := (1 : Int32)) hx hb hr rfl (fun t ht9 hW => ⟨⟨(1 : Int32), (), rfl, h, by rw [ht9]; exact hP, va_K.moved hW.alike hK, hD⟩, hS.F ht9⟩) hS.2.2 d_Decimal_hasBelow_48 hlk
set_option maxHeartbeats 4000000 in
set_option maxRecDepth 100000 in
theorem s_Decimal_hasBelow_29 {p : Program} {l : Launch} {e : Env} {s : State} {m : MethodId} {args : Array Value} {below : List Frame} {meth : Method} {c : Code} {dC : Nat → ClassId} {dI : Nat → Nat → Nat} {A : Nat → Prop} {X : SXT} {h_this : Nat} {h_this_row : Nat} {c_this_row : ClassId} {v_first : Int32} {res : Int32}  (cx : cxx p s m args meth c b_Decimal_hasBelow 4 (some .boolean) R_Decimal) (hK : va_K (dC, dI) classes [(c_this_row, .int)] s) (hA : ∀ q, s.heap.size ≤ q → A q) (hX : SX X A s s.heap)  : ∀ (v_last : Int32) (a_row : (Nat → Int32)) (y2 : Int32) (y3 : Int32) (H : Heap) (locs : List Loc) (ls : Array Slot), va_P (dC, dI) classes (WS_Decimal_hasBelow h_this h_this_row c_this_row v_first v_last a_row) H → va_D A (WS_Decimal_hasBelow h_this h_this_row c_this_row v_first v_last a_row) → va_S A s.heap H locs → lv_has ls 4 [(0, .ref h_this), (2, .int y2), (3, .int y3)] → f_Decimal_hasBelow_29 v_last a_row y2 y3 = some res → W p l e ({ frames := 1, cells := 0, slots := 0, locals := 21 }) s m args below meth c H locs 0 0 (MQ below (va_Qi (fun (r : Int32) (_ : Unit) => some r = some res) (gB (dC, dI) [(c_this_row, .int)] A (fun (u : Unit) => (WS_Decimal_hasBelow h_this h_this_row c_this_row v_first v_last a_row))) A) args s 0 0 A) (F0 m 29 ls []) := by
  intro v_last a_row y2 y3 H locs ls hP hD hS hl h
  obtain ⟨hx, hb, hr, hml, hown, ht, hlk⟩ := id cx
  refine lv_iload_n hx hb d_Decimal_hasBelow_29 rfl (lv_at hl 1 rfl) ?_
  refine lv_if_le (tgt := 47) hx hb d_Decimal_hasBelow_30 (by decide) (fun c1 => ?_) (fun c1 => ?_)
  · have h := if_t c1 h
    refine lv_iconst (v := 0) hx hb d_Decimal_hasBelow_47 (by decide) ?_
    exact W.zret (v := (0 : Int32)) hx hb hr rfl (fun t ht9 hW => ⟨⟨(0 : Int32), (), rfl, h, by rw [ht9]; exact hP, va_K.moved hW.alike hK, hD⟩, hS.F ht9⟩) hS.2.2 d_Decimal_hasBelow_48 hlk
  · have h := if_f c1 h
    refine lv_aload_n hx hb d_Decimal_hasBelow_33 rfl (lv_at hl 0 rfl) ?_
    refine lv_iload_n hx hb d_Decimal_hasBelow_34 rfl (lv_at hl 2 rfl) ?_
    obtain ⟨r2, hf, h⟩ := bi1_x h
    refine clVi (D := (dC, dI)) (n := 1) (As := [.int y3]) ⟨hx, hb, hml, hown, ht⟩ (c_Decimal_limb l dC dI X h_this h_this_row c_this_row H.size v_first v_last a_row y3 r2 hf) (gV q_116 q_117 q_118 q_113 q_119) (by decide +kernel) ⟨rfl, rfl, Nat.le_of_ble_eq_true rfl, Nat.le_of_ble_eq_true rfl⟩ hK hP hD hS hA hX [0, 1] [] [0] rfl (wr := []) rfl (by decide) (by decide) (by decide) rfl (va_recv hK hP (ci := 3) (q0 := 0) rfl rfl) rfl hl.1 rfl (lv_room (Nat.le_of_ble_eq_true rfl)) d_Decimal_hasBelow_35 ⟨Nat.zero_le _, Nat.zero_le _⟩ (fun r9 u9 H locs h9 hP hD hS => ?_)
    cases h9
    have hP : va_P (dC, dI) classes (WS_Decimal_hasBelow h_this h_this_row c_this_row v_first v_last a_row) H := hP.sub [0, 1] rfl
    have hD : va_D A (WS_Decimal_hasBelow h_this h_this_row c_this_row v_first v_last a_row) := hD.sub [0, 1] (by decide) rfl
    refine lv_iload_n hx hb d_Decimal_hasBelow_38 rfl (lv_at hl 1 rfl) ?_
    obtain ⟨c3, h⟩ := ck_x h
    refine lv_irem hx hb d_Decimal_hasBelow_39 c3 ?_
    refine W.eq (g2 := F0 m 40 ls (.int (irm r2 y2) :: [])) rfl ?_
    refine lv_if_eq (tgt := 47) hx hb d_Decimal_hasBelow_40 (by decide) (fun c4 => ?_) (fun c4 => ?_)
    · have h := if_t c4 h
      refine lv_iconst (v := 0) hx hb d_Decimal_hasBelow_47 (by decide) ?_
      exact W.zret (v := (0 : Int32)) hx hb hr rfl (fun t ht9 hW => ⟨⟨(0 : Int32), (), rfl, h, by rw [ht9]; exact hP, va_K.moved hW.alike hK, hD⟩, hS.F ht9⟩) hS.2.2 d_Decimal_hasBelow_48 hlk
    · have h := if_f c4 h
      exact s_Decimal_hasBelow_43 cx hK hA hX v_last a_row H locs ls hP hD hS (lv_sub hl [0] rfl) h
set_option maxHeartbeats 4000000 in
set_option maxRecDepth 100000 in
theorem s_Decimal_hasBelow_e {p : Program} {l : Launch} {e : Env} {s : State} {m : MethodId} {args : Array Value} {below : List Frame} {meth : Method} {c : Code} {dC : Nat → ClassId} {dI : Nat → Nat → Nat} {A : Nat → Prop} {X : SXT} {h_this : Nat} {h_this_row : Nat} {c_this_row : ClassId} {v_first : Int32} {res : Int32} (cx : cxx p s m args meth c b_Decimal_hasBelow 4 (some .boolean) R_Decimal) (hK : va_K (dC, dI) classes [(c_this_row, .int)] s) (hA : ∀ q, s.heap.size ≤ q → A q) (hX : SX X A s s.heap) : ∀ (v_last : Int32) (a_row : (Nat → Int32)) (p1 : Int32) (H : Heap) (locs : List Loc) (ls : Array Slot), va_P (dC, dI) classes (WS_Decimal_hasBelow h_this h_this_row c_this_row v_first v_last a_row) H → va_D A (WS_Decimal_hasBelow h_this h_this_row c_this_row v_first v_last a_row) → va_S A s.heap H locs → lv_has ls 4 [(0, .ref h_this), (1, .int p1)] → f_Decimal_hasBelow v_last a_row p1 = some res → W p l e ({ frames := 1, cells := 0, slots := 0, locals := 21 }) s m args below meth c H locs 0 0 (MQ below (va_Qi (fun (r : Int32) (_ : Unit) => some r = some res) (gB (dC, dI) [(c_this_row, .int)] A (fun (u : Unit) => (WS_Decimal_hasBelow h_this h_this_row c_this_row v_first v_last a_row))) A) args s 0 0 A) (F0 m 0 ls []) := by
  intro v_last a_row p1 H locs ls hP hD hS hl h
  obtain ⟨hx, hb, hr, hml, hown, ht, hlk⟩ := id cx
  refine lv_iload_n hx hb d_Decimal_hasBelow_0 rfl (lv_at hl 1 rfl) ?_
  obtain ⟨r5, hf, h⟩ := bi1_x h
  refine clSi (D := (dC, dI)) (n := 1) (As := [.int p1]) ⟨hx, hb, hml, hown, ht⟩ (c_Decimal_unitOf l dC dI X  H.size p1 r5 hf) (gS q_128 q_129 q_113 q_130) (by decide +kernel) ⟨rfl, rfl, Nat.le_of_ble_eq_true rfl, Nat.le_of_ble_eq_true rfl⟩ hK hP hD hS hA hX [] [0, 1] [] rfl (wr := [(h_this, .inr (3, [.ref h_this_row, .int v_first, .int v_last])), (h_this_row, .inl (c_this_row, 208, .inl a_row))]) rfl (by decide) (by decide) (by decide) rfl rfl hl.1 rfl (lv_room (Nat.le_of_ble_eq_true rfl)) d_Decimal_hasBelow_1 ⟨Nat.zero_le _, Nat.zero_le _⟩ (fun r9 u9 H locs h9 hP hD hS => ?_)
  cases h9
  have hP : va_P (dC, dI) classes (WS_Decimal_hasBelow h_this h_this_row c_this_row v_first v_last a_row) H := hP.sub [0, 1] rfl
  have hD : va_D A (WS_Decimal_hasBelow h_this h_this_row c_this_row v_first v_last a_row) := hD.sub [0, 1] (by decide) rfl
  refine lv_istore_n (lv' := [(2, .int r5), (0, .ref h_this), (1, .int p1)]) hx hb d_Decimal_hasBelow_4 rfl hl (by decide) rfl (fun ls hl => ?_)
  refine lv_iload_n hx hb d_Decimal_hasBelow_5 rfl (lv_at hl 2 rfl) ?_
  obtain ⟨r6, hf, h⟩ := bi1_x h
  refine clSi (D := (dC, dI)) (n := 1) (As := [.int p1]) ⟨hx, hb, hml, hown, ht⟩ (c_Decimal_limbOf l dC dI X  H.size p1 r6 hf) (gS q_125 q_126 q_113 q_127) (by decide +kernel) ⟨rfl, rfl, Nat.le_of_ble_eq_true rfl, Nat.le_of_ble_eq_true rfl⟩ hK hP hD hS hA hX [] [0, 1] [] rfl (wr := [(h_this, .inr (3, [.ref h_this_row, .int v_first, .int v_last])), (h_this_row, .inl (c_this_row, 208, .inl a_row))]) rfl (by decide) (by decide) (by decide) rfl rfl hl.1 rfl (lv_room (Nat.le_of_ble_eq_true rfl)) d_Decimal_hasBelow_6 ⟨Nat.zero_le _, Nat.zero_le _⟩ (fun r9 u9 H locs h9 hP hD hS => ?_)
  cases h9
  have hP : va_P (dC, dI) classes (WS_Decimal_hasBelow h_this h_this_row c_this_row v_first v_last a_row) H := hP.sub [0, 1] rfl
  have hD : va_D A (WS_Decimal_hasBelow h_this h_this_row c_this_row v_first v_last a_row) := hD.sub [0, 1] (by decide) rfl
  refine lv_istore_n (lv' := [(3, .int r6), (2, .int r5), (0, .ref h_this), (1, .int p1)]) hx hb d_Decimal_hasBelow_9 rfl hl (by decide) rfl (fun ls hl => ?_)
  refine lv_aload_n hx hb d_Decimal_hasBelow_10 rfl (lv_at hl 2 rfl) ?_
  refine va_get (D := (dC, dI)) (ci := 3) (v := .int v_last) (C := R_Decimal) (T := F_Decimal) (N := 3) hx hb ht i_Decimal hown hK hP 0 rfl rfl 2 (by decide) (ht _ q_107) (fun _ h9 => h9) rfl d_Decimal_hasBelow_11 ?_
  refine lv_iload_n hx hb d_Decimal_hasBelow_14 rfl (lv_at hl 0 rfl) ?_
  refine lv_icmp_le (tgt := 29) hx hb d_Decimal_hasBelow_15 (by decide) (fun c7 => ?_) (fun c7 => ?_)
  · have h := if_t c7 h
    exact s_Decimal_hasBelow_29 cx hK hA hX v_last a_row r5 r6 H locs ls hP hD hS (lv_sub hl [2, 1, 0] rfl) h
  · have h := if_f c7 h
    refine lv_aload_n hx hb d_Decimal_hasBelow_18 rfl (lv_at hl 2 rfl) ?_
    refine lv_aload_n hx hb d_Decimal_hasBelow_19 rfl (lv_at hl 2 rfl) ?_
    refine va_get (D := (dC, dI)) (ci := 3) (v := .int v_last) (C := R_Decimal) (T := F_Decimal) (N := 3) hx hb ht i_Decimal hown hK hP 0 rfl rfl 2 (by decide) (ht _ q_107) (fun _ h9 => h9) rfl d_Decimal_hasBelow_20 ?_
    obtain ⟨r8, hf, h⟩ := bi1_x h
    refine clVi (D := (dC, dI)) (n := 1) (As := [.int v_last]) ⟨hx, hb, hml, hown, ht⟩ (c_Decimal_limb l dC dI X h_this h_this_row c_this_row H.size v_first v_last a_row v_last r8 hf) (gV q_116 q_117 q_118 q_113 q_119) (by decide +kernel) ⟨rfl, rfl, Nat.le_of_ble_eq_true rfl, Nat.le_of_ble_eq_true rfl⟩ hK hP hD hS hA hX [0, 1] [] [0] rfl (wr := []) rfl (by decide) (by decide) (by decide) rfl (va_recv hK hP (ci := 3) (q0 := 0) rfl rfl) rfl hl.1 rfl (lv_room (Nat.le_of_ble_eq_true rfl)) d_Decimal_hasBelow_23 ⟨Nat.zero_le _, Nat.zero_le _⟩ (fun r9 u9 H locs h9 hP hD hS => ?_)
    cases h9
    have hP : va_P (dC, dI) classes (WS_Decimal_hasBelow h_this h_this_row c_this_row v_first v_last a_row) H := hP.sub [0, 1] rfl
    have hD : va_D A (WS_Decimal_hasBelow h_this h_this_row c_this_row v_first v_last a_row) := hD.sub [0, 1] (by decide) rfl
    refine lv_if_ne (tgt := 43) hx hb d_Decimal_hasBelow_26 (by decide) (fun c9 => ?_) (fun c9 => ?_)
    · have h := if_f c9 h
      exact s_Decimal_hasBelow_43 cx hK hA hX v_last a_row H locs ls hP hD hS (lv_sub hl [2] rfl) h
    · have h := if_t c9 h
      exact s_Decimal_hasBelow_29 cx hK hA hX v_last a_row r5 r6 H locs ls hP hD hS (lv_sub hl [2, 1, 0] rfl) h
set_option maxHeartbeats 4000000 in
set_option maxRecDepth 100000 in
theorem c_Decimal_hasBelow (l : Launch) (dC : Nat → ClassId) (dI : Nat → Nat → Nat) (X : SXT) (h_this : Nat) (h_this_row : Nat) (c_this_row : ClassId) (sz : Nat) (v_first : Int32) (v_last : Int32) (a_row : (Nat → Int32)) (p1 : Int32) (res : Int32) (hf : f_Decimal_hasBelow v_last a_row p1 = some res) : Met l y_Decimal_hasBelow (.code y_Decimal_hasBelow b_Decimal_hasBelow 4 (some .boolean) :: w0) ({ frames := 1, cells := 0, slots := 0, locals := 21 }) (va_Pc [.ref h_this, .int p1] (gP (dC, dI) (WS_Decimal_hasBelow h_this h_this_row c_this_row v_first v_last a_row) [(c_this_row, .int)] sz X)) (va_Qi (fun (r : Int32) (_ : Unit) => some r = some res) (gB (dC, dI) [(c_this_row, .int)] (va_A (WS_Decimal_hasBelow h_this h_this_row c_this_row v_first v_last a_row) sz) (fun (u : Unit) => (WS_Decimal_hasBelow h_this h_this_row c_this_row v_first v_last a_row))) (va_A (WS_Decimal_hasBelow h_this h_this_row c_this_row v_first v_last a_row) sz)) 0 0 (va_A (WS_Decimal_hasBelow h_this h_this_row c_this_row v_first v_last a_row) sz) := by
  refine Met.ofW (cc := b_Decimal_hasBelow) (maxL := 4) (ret := (some .boolean)) (by decide) rfl ?_
  intro p e s m args below meth c s₁ B hml hv
  obtain ⟨rfl, hsz, hP, hK, hD0, hX⟩ := hv
  subst hsz
  have cx : cxx p s m ([.ref h_this, .int p1] : List Value).toArray meth c b_Decimal_hasBelow 4 (some .boolean) R_Decimal := ⟨B.exec, B.bytes, B.returns, hml, findClass_of_methodNamed B.named, fun w9 hw => atoms_spec (ws := .code y_Decimal_hasBelow b_Decimal_hasBelow 4 (some .boolean) :: w0) B.pre w9 (List.mem_cons_of_mem _ hw), B.notSynchronized⟩
  have hD := hD0.self (sz := s.heap.size)
  generalize hAe : va_A (WS_Decimal_hasBelow h_this h_this_row c_this_row v_first v_last a_row) s.heap.size = A at hD hX ⊢
  have hA : ∀ q : Nat, s.heap.size ≤ q → A q := fun q h => by rw [← hAe]; exact Or.inr h
  have hS : va_S A s.heap s.heap [] := va_S.rf
  have hl := lv_entry ([.ref h_this, .int p1]) (n := 4) (Nat.le_of_ble_eq_true rfl)
  rw [lg_entry_eq]
  generalize (lg_sl ([.ref h_this, .int p1]) ++ List.replicate (4 - (lg_sl ([.ref h_this, .int p1])).length) Slot.unset).toArray = ls at hl ⊢
  have hl : lv_has ls 4 [(0, .ref h_this), (1, .int p1)] := hl
  exact s_Decimal_hasBelow_e cx hK hA hX v_last a_row p1 s.heap [] ls hP hD hS hl hf
abbrev WS_Decimal_cutBelow (h_this : Nat) (h_this_row : Nat) (c_this_row : ClassId) (v_first : Int32) (v_last : Int32) (a_row : (Nat → Int32)) : va_W := [(h_this, .inr (3, [.ref h_this_row, .int v_first, .int v_last])), (h_this_row, .inl (c_this_row, 208, .inl a_row))]
def f_Decimal_cutBelow_82 (v_first : Int32) (v_last : Int32) (a_row : (Nat → Int32)) : Option (Int32 × Int32 × (Nat → Int32)) :=
  bi2 (f_Decimal_trim v_first v_last a_row) fun v1 v2 =>
  some (v1, v2, a_row)
def f_Decimal_cutBelow_44 (v_first : Int32) (v_last : Int32) (a_row : (Nat → Int32)) (y2 : Int32) (y3 : Int32) : Option (Int32 × Int32 × (Nat → Int32)) :=
  if y2 ≤ 0 then
    f_Decimal_cutBelow_82 v_first v_last a_row
  else
    if y3 < v_first then
      f_Decimal_cutBelow_82 v_first v_last a_row
    else
      if v_last < y3 then
        f_Decimal_cutBelow_82 v_first v_last a_row
      else
        bi1 (f_Decimal_limb a_row y3) fun r6 =>
        bi1 (f_Decimal_limb a_row y3) fun r7 =>
        ck (¬ y2 = 0) <|
        bi3 (f_Decimal_setLimb v_first v_last a_row y3 (r6 - (irm r7 y2))) fun v9 v10 a11 =>
        f_Decimal_cutBelow_82 v9 v10 a11
def f_Decimal_cutBelow_22b (k22 : Int32 → Int32 → (Nat → Int32) → Int32 → Int32 → Int32 → Option (Int32 × Int32 × (Nat → Int32))) (v_first : Int32) (v_last : Int32) (a_row : (Nat → Int32)) (y2 : Int32) (y3 : Int32) (y4 : Int32) : Option (Int32 × Int32 × (Nat → Int32)) :=
  if v_last < y4 then
    f_Decimal_cutBelow_44 v_first v_last a_row y2 y3
  else
    bi3 (f_Decimal_setLimb v_first v_last a_row y4 (0 : Int32)) fun v13 v14 a15 =>
    bd (y4 + (1 : Int32)) fun x16 =>
    k22 v13 v14 a15 y2 y3 x16
def f_Decimal_cutBelow_22 : Nat → Int32 → Int32 → (Nat → Int32) → Int32 → Int32 → Int32 → Option (Int32 × Int32 × (Nat → Int32))
  | 0 => fun _ _ _ _ _ _ => none
  | n + 1 => fun v_first v_last a_row y2 y3 y4 => f_Decimal_cutBelow_22b (f_Decimal_cutBelow_22 n) v_first v_last a_row y2 y3 y4
def f_Decimal_cutBelow (v_first : Int32) (v_last : Int32) (a_row : (Nat → Int32)) (p1 : Int32) : Option (Int32 × Int32 × (Nat → Int32)) :=
  bi1 (f_Decimal_unitOf p1) fun r17 =>
  bi1 (f_Decimal_limbOf p1) fun r18 =>
  bd (imx (r18 + (1 : Int32)) v_first) fun x19 =>
  f_Decimal_cutBelow_22 fu v_first v_last a_row r17 r18 x19
set_option maxHeartbeats 4000000 in
set_option maxRecDepth 100000 in
theorem s_Decimal_cutBelow_82 {p : Program} {l : Launch} {e : Env} {s : State} {m : MethodId} {args : Array Value} {below : List Frame} {meth : Method} {c : Code} {dC : Nat → ClassId} {dI : Nat → Nat → Nat} {A : Nat → Prop} {X : SXT} {h_this : Nat} {h_this_row : Nat} {c_this_row : ClassId} {res : Int32 × Int32 × (Nat → Int32)}  (cx : cxx p s m args meth c b_Decimal_cutBelow 5 none R_Decimal) (hK : va_K (dC, dI) classes [(c_this_row, .int)] s) (hA : ∀ q, s.heap.size ≤ q → A q) (hX : SX X A s s.heap)  : ∀ (v_first : Int32) (v_last : Int32) (a_row : (Nat → Int32)) (H : Heap) (locs : List Loc) (ls : Array Slot), va_P (dC, dI) classes (WS_Decimal_cutBelow h_this h_this_row c_this_row v_first v_last a_row) H → va_D A (WS_Decimal_cutBelow h_this h_this_row c_this_row v_first v_last a_row) → va_S A s.heap H locs → lv_has ls 5 [(0, .ref h_this)] → f_Decimal_cutBelow_82 v_first v_last a_row = some res → W p l e ({ frames := 2, cells := 0, slots := 0, locals := 41 }) s m args below meth c H locs 0 0 (MQ below (va_Qv (fun (u : Int32 × Int32 × (Nat → Int32)) => some u = some res) (gB (dC, dI) [(c_this_row, .int)] A (fun (u : Int32 × Int32 × (Nat → Int32)) => (WS_Decimal_cutBelow h_this h_this_row c_this_row u.1 u.2.1 u.2.2))) A) args s 0 0 A) (F0 m 82 ls []) := by
  intro v_first v_last a_row H locs ls hP hD hS hl h
  obtain ⟨hx, hb, hr, hml, hown, ht, hlk⟩ := id cx
  refine lv_aload_n hx hb d_Decimal_cutBelow_82 rfl (lv_at hl 0 rfl) ?_
  obtain ⟨v1, v2, hf, h⟩ := bi2_x h
  refine clVv (D := (dC, dI)) (n := 0) (As := []) ⟨hx, hb, hml, hown, ht⟩ (c_Decimal_trim l dC dI X h_this h_this_row c_this_row H.size v_first v_last a_row (v1, v2) hf) (gV q_120 q_121 q_122 q_113 q_123) (by decide +kernel) ⟨rfl, rfl, Nat.le_of_ble_eq_true rfl, Nat.le_of_ble_eq_true rfl⟩ hK hP hD hS hA hX [0, 1] [] [0] rfl (wr := []) rfl (by decide) (by decide) (by decide) rfl (va_recv hK hP (ci := 3) (q0 := 0) rfl rfl) rfl hl.1 rfl (lv_room (Nat.le_of_ble_eq_true rfl)) d_Decimal_cutBelow_83 ⟨Nat.zero_le _, Nat.zero_le _⟩ (fun u9 H locs h9 hP hD hS => ?_)
  cases h9
  have hP : va_P (dC, dI) classes (WS_Decimal_cutBelow h_this h_this_row c_this_row v1 v2 a_row) H := hP.sub [0, 1] rfl
  have hD : va_D A (WS_Decimal_cutBelow h_this h_this_row c_this_row v1 v2 a_row) := hD.sub [0, 1] (by decide) rfl
  exact W.vret hx hb hr (fun t ht9 hW => ⟨⟨(v1, v2, a_row), rfl, h, by rw [ht9]; exact hP, va_K.moved hW.alike hK, hD⟩, hS.F ht9⟩) hS.2.2 d_Decimal_cutBelow_86 hlk
set_option maxHeartbeats 4000000 in
set_option maxRecDepth 100000 in
theorem s_Decimal_cutBelow_44 {p : Program} {l : Launch} {e : Env} {s : State} {m : MethodId} {args : Array Value} {below : List Frame} {meth : Method} {c : Code} {dC : Nat → ClassId} {dI : Nat → Nat → Nat} {A : Nat → Prop} {X : SXT} {h_this : Nat} {h_this_row : Nat} {c_this_row : ClassId} {res : Int32 × Int32 × (Nat → Int32)}  (cx : cxx p s m args meth c b_Decimal_cutBelow 5 none R_Decimal) (hK : va_K (dC, dI) classes [(c_this_row, .int)] s) (hA : ∀ q, s.heap.size ≤ q → A q) (hX : SX X A s s.heap)  : ∀ (v_first : Int32) (v_last : Int32) (a_row : (Nat → Int32)) (y2 : Int32) (y3 : Int32) (H : Heap) (locs : List Loc) (ls : Array Slot), va_P (dC, dI) classes (WS_Decimal_cutBelow h_this h_this_row c_this_row v_first v_last a_row) H → va_D A (WS_Decimal_cutBelow h_this h_this_row c_this_row v_first v_last a_row) → va_S A s.heap H locs → lv_has ls 5 [(0, .ref h_this), (2, .int y2), (3, .int y3)] → f_Decimal_cutBelow_44 v_first v_last a_row y2 y3 = some res → W p l e ({ frames := 2, cells := 0, slots := 0, locals := 41 }) s m args below meth c H locs 0 0 (MQ below (va_Qv (fun (u : Int32 × Int32 × (Nat → Int32)) => some u = some res) (gB (dC, dI) [(c_this_row, .int)] A (fun (u : Int32 × Int32 × (Nat → Int32)) => (WS_Decimal_cutBelow h_this h_this_row c_this_row u.1 u.2.1 u.2.2))) A) args s 0 0 A) (F0 m 44 ls []) := by
  intro v_first v_last a_row y2 y3 H locs ls hP hD hS hl h
  obtain ⟨hx, hb, hr, hml, hown, ht, hlk⟩ := id cx
  refine lv_iload_n hx hb d_Decimal_cutBelow_44 rfl (lv_at hl 1 rfl) ?_
  refine lv_if_le (tgt := 82) hx hb d_Decimal_cutBelow_45 (by decide) (fun c3 => ?_) (fun c3 => ?_)
  · have h := if_t c3 h
    exact s_Decimal_cutBelow_82 cx hK hA hX v_first v_last a_row H locs ls hP hD hS (lv_sub hl [0] rfl) h
  · have h := if_f c3 h
    refine lv_iload_n hx hb d_Decimal_cutBelow_48 rfl (lv_at hl 2 rfl) ?_
    refine lv_aload_n hx hb d_Decimal_cutBelow_49 rfl (lv_at hl 0 rfl) ?_
    refine va_get (D := (dC, dI)) (ci := 3) (v := .int v_first) (C := R_Decimal) (T := F_Decimal) (N := 3) hx hb ht i_Decimal hown hK hP 0 rfl rfl 1 (by decide) (ht _ q_109) (fun _ h9 => h9) rfl d_Decimal_cutBelow_50 ?_
    refine lv_icmp_lt (tgt := 82) hx hb d_Decimal_cutBelow_53 (by decide) (fun c4 => ?_) (fun c4 => ?_)
    · have h := if_t c4 h
      exact s_Decimal_cutBelow_82 cx hK hA hX v_first v_last a_row H locs ls hP hD hS (lv_sub hl [0] rfl) h
    · have h := if_f c4 h
      refine lv_iload_n hx hb d_Decimal_cutBelow_56 rfl (lv_at hl 2 rfl) ?_
      refine lv_aload_n hx hb d_Decimal_cutBelow_57 rfl (lv_at hl 0 rfl) ?_
      refine va_get (D := (dC, dI)) (ci := 3) (v := .int v_last) (C := R_Decimal) (T := F_Decimal) (N := 3) hx hb ht i_Decimal hown hK hP 0 rfl rfl 2 (by decide) (ht _ q_107) (fun _ h9 => h9) rfl d_Decimal_cutBelow_58 ?_
      refine lv_icmp_gt (tgt := 82) hx hb d_Decimal_cutBelow_61 (by decide) (fun c5 => ?_) (fun c5 => ?_)
      · have h := if_t c5 h
        exact s_Decimal_cutBelow_82 cx hK hA hX v_first v_last a_row H locs ls hP hD hS (lv_sub hl [0] rfl) h
      · have h := if_f c5 h
        refine lv_aload_n hx hb d_Decimal_cutBelow_64 rfl (lv_at hl 0 rfl) ?_
        refine lv_iload_n hx hb d_Decimal_cutBelow_65 rfl (lv_at hl 2 rfl) ?_
        refine lv_aload_n hx hb d_Decimal_cutBelow_66 rfl (lv_at hl 0 rfl) ?_
        refine lv_iload_n hx hb d_Decimal_cutBelow_67 rfl (lv_at hl 2 rfl) ?_
        obtain ⟨r6, hf, h⟩ := bi1_x h
        refine clVi (D := (dC, dI)) (n := 1) (As := [.int y3]) ⟨hx, hb, hml, hown, ht⟩ (c_Decimal_limb l dC dI X h_this h_this_row c_this_row H.size v_first v_last a_row y3 r6 hf) (gV q_116 q_117 q_118 q_113 q_119) (by decide +kernel) ⟨rfl, rfl, Nat.le_of_ble_eq_true rfl, Nat.le_of_ble_eq_true rfl⟩ hK hP hD hS hA hX [0, 1] [] [0] rfl (wr := []) rfl (by decide) (by decide) (by decide) rfl (va_recv hK hP (ci := 3) (q0 := 0) rfl rfl) rfl hl.1 rfl (lv_room (Nat.le_of_ble_eq_true rfl)) d_Decimal_cutBelow_68 ⟨Nat.zero_le _, Nat.zero_le _⟩ (fun r9 u9 H locs h9 hP hD hS => ?_)
        cases h9
        have hP : va_P (dC, dI) classes (WS_Decimal_cutBelow h_this h_this_row c_this_row v_first v_last a_row) H := hP.sub [0, 1] rfl
        have hD : va_D A (WS_Decimal_cutBelow h_this h_this_row c_this_row v_first v_last a_row) := hD.sub [0, 1] (by decide) rfl
        refine lv_aload_n hx hb d_Decimal_cutBelow_71 rfl (lv_at hl 0 rfl) ?_
        refine lv_iload_n hx hb d_Decimal_cutBelow_72 rfl (lv_at hl 2 rfl) ?_
        obtain ⟨r7, hf, h⟩ := bi1_x h
        refine clVi (D := (dC, dI)) (n := 1) (As := [.int y3]) ⟨hx, hb, hml, hown, ht⟩ (c_Decimal_limb l dC dI X h_this h_this_row c_this_row H.size v_first v_last a_row y3 r7 hf) (gV q_116 q_117 q_118 q_113 q_119) (by decide +kernel) ⟨rfl, rfl, Nat.le_of_ble_eq_true rfl, Nat.le_of_ble_eq_true rfl⟩ hK hP hD hS hA hX [0, 1] [] [0] rfl (wr := []) rfl (by decide) (by decide) (by decide) rfl (va_recv hK hP (ci := 3) (q0 := 0) rfl rfl) rfl hl.1 rfl (lv_room (Nat.le_of_ble_eq_true rfl)) d_Decimal_cutBelow_73 ⟨Nat.zero_le _, Nat.zero_le _⟩ (fun r9 u9 H locs h9 hP hD hS => ?_)
        cases h9
        have hP : va_P (dC, dI) classes (WS_Decimal_cutBelow h_this h_this_row c_this_row v_first v_last a_row) H := hP.sub [0, 1] rfl
        have hD : va_D A (WS_Decimal_cutBelow h_this h_this_row c_this_row v_first v_last a_row) := hD.sub [0, 1] (by decide) rfl
        refine lv_iload_n hx hb d_Decimal_cutBelow_76 rfl (lv_at hl 1 rfl) ?_
        obtain ⟨c8, h⟩ := ck_x h
        refine lv_irem hx hb d_Decimal_cutBelow_77 c8 ?_
        refine W.eq (g2 := F0 m 78 ls (.int (irm r7 y2) :: .int r6 :: .int y3 :: .ref h_this :: [])) rfl ?_
        refine lv_isub hx hb d_Decimal_cutBelow_78 ?_
        obtain ⟨v9, v10, a11, hf, h⟩ := bi3_x h
        refine clVv (D := (dC, dI)) (n := 2) (As := [.int y3, .int (r6 - (irm r7 y2))]) ⟨hx, hb, hml, hown, ht⟩ (c_Decimal_setLimb l dC dI X h_this h_this_row c_this_row H.size v_first v_last a_row y3 (r6 - (irm r7 y2)) (v9, v10, a11) hf) (gV q_110 q_111 q_112 q_113 q_114) (by decide +kernel) ⟨rfl, rfl, Nat.le_of_ble_eq_true rfl, Nat.le_of_ble_eq_true rfl⟩ hK hP hD hS hA hX [0, 1] [] [0] rfl (wr := []) rfl (by decide) (by decide) (by decide) rfl (va_recv hK hP (ci := 3) (q0 := 0) rfl rfl) rfl hl.1 rfl (lv_room (Nat.le_of_ble_eq_true rfl)) d_Decimal_cutBelow_79 ⟨Nat.zero_le _, Nat.zero_le _⟩ (fun u9 H locs h9 hP hD hS => ?_)
        cases h9
        have hP : va_P (dC, dI) classes (WS_Decimal_cutBelow h_this h_this_row c_this_row v9 v10 a11) H := hP.sub [0, 1] rfl
        have hD : va_D A (WS_Decimal_cutBelow h_this h_this_row c_this_row v9 v10 a11) := hD.sub [0, 1] (by decide) rfl
        exact s_Decimal_cutBelow_82 cx hK hA hX v9 v10 a11 H locs ls hP hD hS (lv_sub hl [0] rfl) h
set_option maxHeartbeats 4000000 in
set_option maxRecDepth 100000 in
theorem s_Decimal_cutBelow_22b {p : Program} {l : Launch} {e : Env} {s : State} {m : MethodId} {args : Array Value} {below : List Frame} {meth : Method} {c : Code} {dC : Nat → ClassId} {dI : Nat → Nat → Nat} {A : Nat → Prop} {X : SXT} {h_this : Nat} {h_this_row : Nat} {c_this_row : ClassId} {res : Int32 × Int32 × (Nat → Int32)} {k22 : Int32 → Int32 → (Nat → Int32) → Int32 → Int32 → Int32 → Option (Int32 × Int32 × (Nat → Int32))} (cx : cxx p s m args meth c b_Decimal_cutBelow 5 none R_Decimal) (hK : va_K (dC, dI) classes [(c_this_row, .int)] s) (hA : ∀ q, s.heap.size ≤ q → A q) (hX : SX X A s s.heap) (hk22 : ∀ (v_first : Int32) (v_last : Int32) (a_row : (Nat → Int32)) (y2 : Int32) (y3 : Int32) (y4 : Int32) (H : Heap) (locs : List Loc) (ls : Array Slot), va_P (dC, dI) classes (WS_Decimal_cutBelow h_this h_this_row c_this_row v_first v_last a_row) H → va_D A (WS_Decimal_cutBelow h_this h_this_row c_this_row v_first v_last a_row) → va_S A s.heap H locs → lv_has ls 5 [(0, .ref h_this), (2, .int y2), (3, .int y3), (4, .int y4)] → k22 v_first v_last a_row y2 y3 y4 = some res → W p l e ({ frames := 2, cells := 0, slots := 0, locals := 41 }) s m args below meth c H locs 0 0 (MQ below (va_Qv (fun (u : Int32 × Int32 × (Nat → Int32)) => some u = some res) (gB (dC, dI) [(c_this_row, .int)] A (fun (u : Int32 × Int32 × (Nat → Int32)) => (WS_Decimal_cutBelow h_this h_this_row c_this_row u.1 u.2.1 u.2.2))) A) args s 0 0 A) (F0 m 22 ls [])) : ∀ (v_first : Int32) (v_last : Int32) (a_row : (Nat → Int32)) (y2 : Int32) (y3 : Int32) (y4 : Int32) (H : Heap) (locs : List Loc) (ls : Array Slot), va_P (dC, dI) classes (WS_Decimal_cutBelow h_this h_this_row c_this_row v_first v_last a_row) H → va_D A (WS_Decimal_cutBelow h_this h_this_row c_this_row v_first v_last a_row) → va_S A s.heap H locs → lv_has ls 5 [(0, .ref h_this), (2, .int y2), (3, .int y3), (4, .int y4)] → f_Decimal_cutBelow_22b k22 v_first v_last a_row y2 y3 y4 = some res → W p l e ({ frames := 2, cells := 0, slots := 0, locals := 41 }) s m args below meth c H locs 0 0 (MQ below (va_Qv (fun (u : Int32 × Int32 × (Nat → Int32)) => some u = some res) (gB (dC, dI) [(c_this_row, .int)] A (fun (u : Int32 × Int32 × (Nat → Int32)) => (WS_Decimal_cutBelow h_this h_this_row c_this_row u.1 u.2.1 u.2.2))) A) args s 0 0 A) (F0 m 22 ls []) := by
  intro v_first v_last a_row y2 y3 y4 H locs ls hP hD hS hl h
  obtain ⟨hx, hb, hr, hml, hown, ht, hlk⟩ := id cx
  refine lv_iload hx hb d_Decimal_cutBelow_22 (lv_at hl 3 rfl) ?_
  refine lv_aload_n hx hb d_Decimal_cutBelow_24 rfl (lv_at hl 0 rfl) ?_
  refine va_get (D := (dC, dI)) (ci := 3) (v := .int v_last) (C := R_Decimal) (T := F_Decimal) (N := 3) hx hb ht i_Decimal hown hK hP 0 rfl rfl 2 (by decide) (ht _ q_107) (fun _ h9 => h9) rfl d_Decimal_cutBelow_25 ?_
  refine lv_icmp_gt (tgt := 44) hx hb d_Decimal_cutBelow_28 (by decide) (fun c12 => ?_) (fun c12 => ?_)
  · have h := if_t c12 h
    exact s_Decimal_cutBelow_44 cx hK hA hX v_first v_last a_row y2 y3 H locs ls hP hD hS (lv_sub hl [0, 1, 2] rfl) h
  · have h := if_f c12 h
    refine lv_aload_n hx hb d_Decimal_cutBelow_31 rfl (lv_at hl 0 rfl) ?_
    refine lv_iload hx hb d_Decimal_cutBelow_32 (lv_at hl 3 rfl) ?_
    refine lv_iconst (v := 0) hx hb d_Decimal_cutBelow_34 (by decide) ?_
    obtain ⟨v13, v14, a15, hf, h⟩ := bi3_x h
    refine clVv (D := (dC, dI)) (n := 2) (As := [.int y4, .int (0 : Int32)]) ⟨hx, hb, hml, hown, ht⟩ (c_Decimal_setLimb l dC dI X h_this h_this_row c_this_row H.size v_first v_last a_row y4 (0 : Int32) (v13, v14, a15) hf) (gV q_110 q_111 q_112 q_113 q_114) (by decide +kernel) ⟨rfl, rfl, Nat.le_of_ble_eq_true rfl, Nat.le_of_ble_eq_true rfl⟩ hK hP hD hS hA hX [0, 1] [] [0] rfl (wr := []) rfl (by decide) (by decide) (by decide) rfl (va_recv hK hP (ci := 3) (q0 := 0) rfl rfl) rfl hl.1 rfl (lv_room (Nat.le_of_ble_eq_true rfl)) d_Decimal_cutBelow_35 ⟨Nat.zero_le _, Nat.zero_le _⟩ (fun u9 H locs h9 hP hD hS => ?_)
    cases h9
    have hP : va_P (dC, dI) classes (WS_Decimal_cutBelow h_this h_this_row c_this_row v13 v14 a15) H := hP.sub [0, 1] rfl
    have hD : va_D A (WS_Decimal_cutBelow h_this h_this_row c_this_row v13 v14 a15) := hD.sub [0, 1] (by decide) rfl
    obtain ⟨x16, e_x16⟩ : ∃ y : Int32, y = y4 + (1 : Int32) := ⟨_, rfl⟩
    refine lv_iinc (v := x16) (lv' := [(4, .int x16), (0, .ref h_this), (2, .int y2), (3, .int y3)]) hx hb d_Decimal_cutBelow_38 hl (k := 3) rfl (by rw [e_x16]; rfl) (by decide) rfl (fun ls hl => ?_)
    have h := bd_g e_x16 h
    refine lv_goto (tgt := 22) hx hb d_Decimal_cutBelow_41 (by decide) ?_
    exact hk22 v13 v14 a15 y2 y3 x16 H locs ls hP hD hS (lv_sub hl [1, 2, 3, 0] rfl) h
set_option maxHeartbeats 4000000 in
set_option maxRecDepth 100000 in
theorem s_Decimal_cutBelow_22 {p : Program} {l : Launch} {e : Env} {s : State} {m : MethodId} {args : Array Value} {below : List Frame} {meth : Method} {c : Code} {dC : Nat → ClassId} {dI : Nat → Nat → Nat} {A : Nat → Prop} {X : SXT} {h_this : Nat} {h_this_row : Nat} {c_this_row : ClassId} {res : Int32 × Int32 × (Nat → Int32)}  (cx : cxx p s m args meth c b_Decimal_cutBelow 5 none R_Decimal) (hK : va_K (dC, dI) classes [(c_this_row, .int)] s) (hA : ∀ q, s.heap.size ≤ q → A q) (hX : SX X A s s.heap)  : ∀ n : Nat, ∀ (v_first : Int32) (v_last : Int32) (a_row : (Nat → Int32)) (y2 : Int32) (y3 : Int32) (y4 : Int32) (H : Heap) (locs : List Loc) (ls : Array Slot), va_P (dC, dI) classes (WS_Decimal_cutBelow h_this h_this_row c_this_row v_first v_last a_row) H → va_D A (WS_Decimal_cutBelow h_this h_this_row c_this_row v_first v_last a_row) → va_S A s.heap H locs → lv_has ls 5 [(0, .ref h_this), (2, .int y2), (3, .int y3), (4, .int y4)] → f_Decimal_cutBelow_22 n v_first v_last a_row y2 y3 y4 = some res → W p l e ({ frames := 2, cells := 0, slots := 0, locals := 41 }) s m args below meth c H locs 0 0 (MQ below (va_Qv (fun (u : Int32 × Int32 × (Nat → Int32)) => some u = some res) (gB (dC, dI) [(c_this_row, .int)] A (fun (u : Int32 × Int32 × (Nat → Int32)) => (WS_Decimal_cutBelow h_this h_this_row c_this_row u.1 u.2.1 u.2.2))) A) args s 0 0 A) (F0 m 22 ls []) := by
  intro n
  induction n with
  | zero =>
    intro v_first v_last a_row y2 y3 y4 H locs ls hP hD hS hl h
    have h9 : (none : Option (Int32 × Int32 × (Nat → Int32))) = some res := h
    cases h9
  | succ n ih =>
    intro v_first v_last a_row y2 y3 y4 H locs ls hP hD hS hl h
    exact s_Decimal_cutBelow_22b cx hK hA hX ih v_first v_last a_row y2 y3 y4 H locs ls hP hD hS hl h
set_option maxHeartbeats 4000000 in
set_option maxRecDepth 100000 in
theorem s_Decimal_cutBelow_e {p : Program} {l : Launch} {e : Env} {s : State} {m : MethodId} {args : Array Value} {below : List Frame} {meth : Method} {c : Code} {dC : Nat → ClassId} {dI : Nat → Nat → Nat} {A : Nat → Prop} {X : SXT} {h_this : Nat} {h_this_row : Nat} {c_this_row : ClassId} {res : Int32 × Int32 × (Nat → Int32)} (cx : cxx p s m args meth c b_Decimal_cutBelow 5 none R_Decimal) (hK : va_K (dC, dI) classes [(c_this_row, .int)] s) (hA : ∀ q, s.heap.size ≤ q → A q) (hX : SX X A s s.heap) : ∀ (v_first : Int32) (v_last : Int32) (a_row : (Nat → Int32)) (p1 : Int32) (H : Heap) (locs : List Loc) (ls : Array Slot), va_P (dC, dI) classes (WS_Decimal_cutBelow h_this h_this_row c_this_row v_first v_last a_row) H → va_D A (WS_Decimal_cutBelow h_this h_this_row c_this_row v_first v_last a_row) → va_S A s.heap H locs → lv_has ls 5 [(0, .ref h_this), (1, .int p1)] → f_Decimal_cutBelow v_first v_last a_row p1 = some res → W p l e ({ frames := 2, cells := 0, slots := 0, locals := 41 }) s m args below meth c H locs 0 0 (MQ below (va_Qv (fun (u : Int32 × Int32 × (Nat → Int32)) => some u = some res) (gB (dC, dI) [(c_this_row, .int)] A (fun (u : Int32 × Int32 × (Nat → Int32)) => (WS_Decimal_cutBelow h_this h_this_row c_this_row u.1 u.2.1 u.2.2))) A) args s 0 0 A) (F0 m 0 ls []) := by
  intro v_first v_last a_row p1 H locs ls hP hD hS hl h
  obtain ⟨hx, hb, hr, hml, hown, ht, hlk⟩ := id cx
  refine lv_iload_n hx hb d_Decimal_cutBelow_0 rfl (lv_at hl 1 rfl) ?_
  obtain ⟨r17, hf, h⟩ := bi1_x h
  refine clSi (D := (dC, dI)) (n := 1) (As := [.int p1]) ⟨hx, hb, hml, hown, ht⟩ (c_Decimal_unitOf l dC dI X  H.size p1 r17 hf) (gS q_128 q_129 q_113 q_130) (by decide +kernel) ⟨rfl, rfl, Nat.le_of_ble_eq_true rfl, Nat.le_of_ble_eq_true rfl⟩ hK hP hD hS hA hX [] [0, 1] [] rfl (wr := [(h_this, .inr (3, [.ref h_this_row, .int v_first, .int v_last])), (h_this_row, .inl (c_this_row, 208, .inl a_row))]) rfl (by decide) (by decide) (by decide) rfl rfl hl.1 rfl (lv_room (Nat.le_of_ble_eq_true rfl)) d_Decimal_cutBelow_1 ⟨Nat.zero_le _, Nat.zero_le _⟩ (fun r9 u9 H locs h9 hP hD hS => ?_)
  cases h9
  have hP : va_P (dC, dI) classes (WS_Decimal_cutBelow h_this h_this_row c_this_row v_first v_last a_row) H := hP.sub [0, 1] rfl
  have hD : va_D A (WS_Decimal_cutBelow h_this h_this_row c_this_row v_first v_last a_row) := hD.sub [0, 1] (by decide) rfl
  refine lv_istore_n (lv' := [(2, .int r17), (0, .ref h_this), (1, .int p1)]) hx hb d_Decimal_cutBelow_4 rfl hl (by decide) rfl (fun ls hl => ?_)
  refine lv_iload_n hx hb d_Decimal_cutBelow_5 rfl (lv_at hl 2 rfl) ?_
  obtain ⟨r18, hf, h⟩ := bi1_x h
  refine clSi (D := (dC, dI)) (n := 1) (As := [.int p1]) ⟨hx, hb, hml, hown, ht⟩ (c_Decimal_limbOf l dC dI X  H.size p1 r18 hf) (gS q_125 q_126 q_113 q_127) (by decide +kernel) ⟨rfl, rfl, Nat.le_of_ble_eq_true rfl, Nat.le_of_ble_eq_true rfl⟩ hK hP hD hS hA hX [] [0, 1] [] rfl (wr := [(h_this, .inr (3, [.ref h_this_row, .int v_first, .int v_last])), (h_this_row, .inl (c_this_row, 208, .inl a_row))]) rfl (by decide) (by decide) (by decide) rfl rfl hl.1 rfl (lv_room (Nat.le_of_ble_eq_true rfl)) d_Decimal_cutBelow_6 ⟨Nat.zero_le _, Nat.zero_le _⟩ (fun r9 u9 H locs h9 hP hD hS => ?_)
  cases h9
  have hP : va_P (dC, dI) classes (WS_Decimal_cutBelow h_this h_this_row c_this_row v_first v_last a_row) H := hP.sub [0, 1] rfl
  have hD : va_D A (WS_Decimal_cutBelow h_this h_this_row c_this_row v_first v_last a_row) := hD.sub [0, 1] (by decide) rfl
  refine lv_istore_n (lv' := [(3, .int r18), (2, .int r17), (0, .ref h_this), (1, .int p1)]) hx hb d_Decimal_cutBelow_9 rfl hl (by decide) rfl (fun ls hl => ?_)
  refine lv_iload_n hx hb d_Decimal_cutBelow_10 rfl (lv_at hl 0 rfl) ?_
  refine lv_iconst (v := 1) hx hb d_Decimal_cutBelow_11 (by decide) ?_
  refine lv_iadd hx hb d_Decimal_cutBelow_12 ?_
  refine lv_aload_n hx hb d_Decimal_cutBelow_13 rfl (lv_at hl 2 rfl) ?_
  refine va_get (D := (dC, dI)) (ci := 3) (v := .int v_first) (C := R_Decimal) (T := F_Decimal) (N := 3) hx hb ht i_Decimal hown hK hP 0 rfl rfl 1 (by decide) (ht _ q_109) (fun _ h9 => h9) rfl d_Decimal_cutBelow_14 ?_
  refine va_mmax hx hb (hml.trans hl.1.symm) hown (ht _ q_139) (ht _ q_101) (ht _ q_40) (ht _ q_102) (Nat.le_of_ble_eq_true rfl) (Nat.le_of_ble_eq_true rfl) (Nat.zero_le _) (Nat.zero_le _) d_Decimal_cutBelow_17 ?_
  refine W.eq (g2 := F0 m 20 ls (.int (imx (r18 + (1 : Int32)) v_first) :: [])) rfl ?_
  refine lv_topi (fun x19 e_x19 => ?_)
  have h := bd_g e_x19 h
  refine lv_istore (lv' := [(4, .int x19), (3, .int r18), (2, .int r17), (0, .ref h_this), (1, .int p1)]) hx hb d_Decimal_cutBelow_20 hl (by decide) rfl (fun ls hl => ?_)
  exact s_Decimal_cutBelow_22 cx hK hA hX fu v_first v_last a_row r17 r18 x19 H locs ls hP hD hS (lv_sub hl [3, 2, 1, 0] rfl) h
set_option maxHeartbeats 4000000 in
set_option maxRecDepth 100000 in
theorem c_Decimal_cutBelow (l : Launch) (dC : Nat → ClassId) (dI : Nat → Nat → Nat) (X : SXT) (h_this : Nat) (h_this_row : Nat) (c_this_row : ClassId) (sz : Nat) (v_first : Int32) (v_last : Int32) (a_row : (Nat → Int32)) (p1 : Int32) (res : Int32 × Int32 × (Nat → Int32)) (hf : f_Decimal_cutBelow v_first v_last a_row p1 = some res) : Met l y_Decimal_cutBelow (.code y_Decimal_cutBelow b_Decimal_cutBelow 5 none :: w0) ({ frames := 2, cells := 0, slots := 0, locals := 41 }) (va_Pc [.ref h_this, .int p1] (gP (dC, dI) (WS_Decimal_cutBelow h_this h_this_row c_this_row v_first v_last a_row) [(c_this_row, .int)] sz X)) (va_Qv (fun (u : Int32 × Int32 × (Nat → Int32)) => some u = some res) (gB (dC, dI) [(c_this_row, .int)] (va_A (WS_Decimal_cutBelow h_this h_this_row c_this_row v_first v_last a_row) sz) (fun (u : Int32 × Int32 × (Nat → Int32)) => (WS_Decimal_cutBelow h_this h_this_row c_this_row u.1 u.2.1 u.2.2))) (va_A (WS_Decimal_cutBelow h_this h_this_row c_this_row v_first v_last a_row) sz)) 0 0 (va_A (WS_Decimal_cutBelow h_this h_this_row c_this_row v_first v_last a_row) sz) := by
  refine Met.ofW (cc := b_Decimal_cutBelow) (maxL := 5) (ret := none) (by decide) rfl ?_
  intro p e s m args below meth c s₁ B hml hv
  obtain ⟨rfl, hsz, hP, hK, hD0, hX⟩ := hv
  subst hsz
  have cx : cxx p s m ([.ref h_this, .int p1] : List Value).toArray meth c b_Decimal_cutBelow 5 none R_Decimal := ⟨B.exec, B.bytes, B.returns, hml, findClass_of_methodNamed B.named, fun w9 hw => atoms_spec (ws := .code y_Decimal_cutBelow b_Decimal_cutBelow 5 none :: w0) B.pre w9 (List.mem_cons_of_mem _ hw), B.notSynchronized⟩
  have hD := hD0.self (sz := s.heap.size)
  generalize hAe : va_A (WS_Decimal_cutBelow h_this h_this_row c_this_row v_first v_last a_row) s.heap.size = A at hD hX ⊢
  have hA : ∀ q : Nat, s.heap.size ≤ q → A q := fun q h => by rw [← hAe]; exact Or.inr h
  have hS : va_S A s.heap s.heap [] := va_S.rf
  have hl := lv_entry ([.ref h_this, .int p1]) (n := 5) (Nat.le_of_ble_eq_true rfl)
  rw [lg_entry_eq]
  generalize (lg_sl ([.ref h_this, .int p1]) ++ List.replicate (5 - (lg_sl ([.ref h_this, .int p1])).length) Slot.unset).toArray = ls at hl ⊢
  have hl : lv_has ls 5 [(0, .ref h_this), (1, .int p1)] := hl
  exact s_Decimal_cutBelow_e cx hK hA hX v_first v_last a_row p1 s.heap [] ls hP hD hS hl hf
abbrev WS_Decimal_units (h_this : Nat) (h_this_row : Nat) (c_this_row : ClassId) (v_first : Int32) (v_last : Int32) (a_row : (Nat → Int32)) : va_W := [(h_this, .inr (3, [.ref h_this_row, .int v_first, .int v_last])), (h_this_row, .inl (c_this_row, 208, .inl a_row))]
def f_Decimal_units (a_row : (Nat → Int32)) : Option (Int64) :=
  bi1 (f_Decimal_limb a_row (34 : Int32)) fun r1 =>
  bi1 (f_Decimal_limb a_row (35 : Int32)) fun r2 =>
  some (((r1.toInt64) * (1000000000 : Int64)) + (r2.toInt64))
set_option maxHeartbeats 4000000 in
set_option maxRecDepth 100000 in
theorem s_Decimal_units_e {p : Program} {l : Launch} {e : Env} {s : State} {m : MethodId} {args : Array Value} {below : List Frame} {meth : Method} {c : Code} {dC : Nat → ClassId} {dI : Nat → Nat → Nat} {A : Nat → Prop} {X : SXT} {h_this : Nat} {h_this_row : Nat} {c_this_row : ClassId} {v_first : Int32} {v_last : Int32} {res : Int64} (cx : cxx p s m args meth c b_Decimal_units 1 (some .long) R_Decimal) (hK : va_K (dC, dI) classes [(c_this_row, .int)] s) (hA : ∀ q, s.heap.size ≤ q → A q) (hX : SX X A s s.heap) : ∀ (a_row : (Nat → Int32)) (H : Heap) (locs : List Loc) (ls : Array Slot), va_P (dC, dI) classes (WS_Decimal_units h_this h_this_row c_this_row v_first v_last a_row) H → va_D A (WS_Decimal_units h_this h_this_row c_this_row v_first v_last a_row) → va_S A s.heap H locs → lv_has ls 1 [(0, .ref h_this)] → f_Decimal_units a_row = some res → W p l e ({ frames := 1, cells := 0, slots := 0, locals := 21 }) s m args below meth c H locs 0 0 (MQ below (va_Ql (fun (r : Int64) (_ : Unit) => some r = some res) (gB (dC, dI) [(c_this_row, .int)] A (fun (u : Unit) => (WS_Decimal_units h_this h_this_row c_this_row v_first v_last a_row))) A) args s 0 0 A) (F0 m 0 ls []) := by
  intro a_row H locs ls hP hD hS hl h
  obtain ⟨hx, hb, hr, hml, hown, ht, hlk⟩ := id cx
  refine lv_aload_n hx hb d_Decimal_units_0 rfl (lv_at hl 0 rfl) ?_
  refine lv_bipush (v := 34) hx hb d_Decimal_units_1 (by decide) ?_
  obtain ⟨r1, hf, h⟩ := bi1_x h
  refine clVi (D := (dC, dI)) (n := 1) (As := [.int (34 : Int32)]) ⟨hx, hb, hml, hown, ht⟩ (c_Decimal_limb l dC dI X h_this h_this_row c_this_row H.size v_first v_last a_row (34 : Int32) r1 hf) (gV q_116 q_117 q_118 q_113 q_119) (by decide +kernel) ⟨rfl, rfl, Nat.le_of_ble_eq_true rfl, Nat.le_of_ble_eq_true rfl⟩ hK hP hD hS hA hX [0, 1] [] [0] rfl (wr := []) rfl (by decide) (by decide) (by decide) rfl (va_recv hK hP (ci := 3) (q0 := 0) rfl rfl) rfl hl.1 rfl (lv_room (Nat.le_of_ble_eq_true rfl)) d_Decimal_units_3 ⟨Nat.zero_le _, Nat.zero_le _⟩ (fun r9 u9 H locs h9 hP hD hS => ?_)
  cases h9
  have hP : va_P (dC, dI) classes (WS_Decimal_units h_this h_this_row c_this_row v_first v_last a_row) H := hP.sub [0, 1] rfl
  have hD : va_D A (WS_Decimal_units h_this h_this_row c_this_row v_first v_last a_row) := hD.sub [0, 1] (by decide) rfl
  refine lv_i2l (v := r1.toInt64) hx hb d_Decimal_units_6 rfl ?_
  refine lv_ldc2 (v := 1000000000) hx hb hown (ht _ q_140) d_Decimal_units_7 ?_
  refine lv_lmul hx hb d_Decimal_units_10 ?_
  refine lv_aload_n hx hb d_Decimal_units_11 rfl (lv_at hl 0 rfl) ?_
  refine lv_bipush (v := 35) hx hb d_Decimal_units_12 (by decide) ?_
  obtain ⟨r2, hf, h⟩ := bi1_x h
  refine clVi (D := (dC, dI)) (n := 1) (As := [.int (35 : Int32)]) ⟨hx, hb, hml, hown, ht⟩ (c_Decimal_limb l dC dI X h_this h_this_row c_this_row H.size v_first v_last a_row (35 : Int32) r2 hf) (gV q_116 q_117 q_118 q_113 q_119) (by decide +kernel) ⟨rfl, rfl, Nat.le_of_ble_eq_true rfl, Nat.le_of_ble_eq_true rfl⟩ hK hP hD hS hA hX [0, 1] [] [0] rfl (wr := []) rfl (by decide) (by decide) (by decide) rfl (va_recv hK hP (ci := 3) (q0 := 0) rfl rfl) rfl hl.1 rfl (lv_room (Nat.le_of_ble_eq_true rfl)) d_Decimal_units_14 ⟨Nat.zero_le _, Nat.zero_le _⟩ (fun r9 u9 H locs h9 hP hD hS => ?_)
  cases h9
  have hP : va_P (dC, dI) classes (WS_Decimal_units h_this h_this_row c_this_row v_first v_last a_row) H := hP.sub [0, 1] rfl
  have hD : va_D A (WS_Decimal_units h_this h_this_row c_this_row v_first v_last a_row) := hD.sub [0, 1] (by decide) rfl
  refine lv_i2l (v := r2.toInt64) hx hb d_Decimal_units_17 rfl ?_
  refine lv_ladd hx hb d_Decimal_units_18 ?_
  exact W.lret (v := (((r1.toInt64) * (1000000000 : Int64)) + (r2.toInt64))) hx hb hr (fun t ht9 hW => ⟨⟨(((r1.toInt64) * (1000000000 : Int64)) + (r2.toInt64)), (), rfl, h, by rw [ht9]; exact hP, va_K.moved hW.alike hK, hD⟩, hS.F ht9⟩) hS.2.2 d_Decimal_units_19 hlk
set_option maxHeartbeats 4000000 in
set_option maxRecDepth 100000 in
theorem c_Decimal_units (l : Launch) (dC : Nat → ClassId) (dI : Nat → Nat → Nat) (X : SXT) (h_this : Nat) (h_this_row : Nat) (c_this_row : ClassId) (sz : Nat) (v_first : Int32) (v_last : Int32) (a_row : (Nat → Int32)) (res : Int64) (hf : f_Decimal_units a_row = some res) : Met l y_Decimal_units (.code y_Decimal_units b_Decimal_units 1 (some .long) :: w0) ({ frames := 1, cells := 0, slots := 0, locals := 21 }) (va_Pc [.ref h_this] (gP (dC, dI) (WS_Decimal_units h_this h_this_row c_this_row v_first v_last a_row) [(c_this_row, .int)] sz X)) (va_Ql (fun (r : Int64) (_ : Unit) => some r = some res) (gB (dC, dI) [(c_this_row, .int)] (va_A (WS_Decimal_units h_this h_this_row c_this_row v_first v_last a_row) sz) (fun (u : Unit) => (WS_Decimal_units h_this h_this_row c_this_row v_first v_last a_row))) (va_A (WS_Decimal_units h_this h_this_row c_this_row v_first v_last a_row) sz)) 0 0 (va_A (WS_Decimal_units h_this h_this_row c_this_row v_first v_last a_row) sz) := by
  refine Met.ofW (cc := b_Decimal_units) (maxL := 1) (ret := (some .long)) (by decide) rfl ?_
  intro p e s m args below meth c s₁ B hml hv
  obtain ⟨rfl, hsz, hP, hK, hD0, hX⟩ := hv
  subst hsz
  have cx : cxx p s m ([.ref h_this] : List Value).toArray meth c b_Decimal_units 1 (some .long) R_Decimal := ⟨B.exec, B.bytes, B.returns, hml, findClass_of_methodNamed B.named, fun w9 hw => atoms_spec (ws := .code y_Decimal_units b_Decimal_units 1 (some .long) :: w0) B.pre w9 (List.mem_cons_of_mem _ hw), B.notSynchronized⟩
  have hD := hD0.self (sz := s.heap.size)
  generalize hAe : va_A (WS_Decimal_units h_this h_this_row c_this_row v_first v_last a_row) s.heap.size = A at hD hX ⊢
  have hA : ∀ q : Nat, s.heap.size ≤ q → A q := fun q h => by rw [← hAe]; exact Or.inr h
  have hS : va_S A s.heap s.heap [] := va_S.rf
  have hl := lv_entry ([.ref h_this]) (n := 1) (Nat.le_of_ble_eq_true rfl)
  rw [lg_entry_eq]
  generalize (lg_sl ([.ref h_this]) ++ List.replicate (1 - (lg_sl ([.ref h_this])).length) Slot.unset).toArray = ls at hl ⊢
  have hl : lv_has ls 1 [(0, .ref h_this)] := hl
  exact s_Decimal_units_e cx hK hA hX a_row s.heap [] ls hP hD hS hl hf
abbrev WS_Decimal_multiply (h_this : Nat) (h_this_row : Nat) (c_this_row : ClassId) (v_first : Int32) (v_last : Int32) (a_row : (Nat → Int32)) : va_W := [(h_this, .inr (3, [.ref h_this_row, .int v_first, .int v_last])), (h_this_row, .inl (c_this_row, 208, .inl a_row))]
def f_Decimal_multiply_93 (v_first : Int32) (v_last : Int32) (a_row : (Nat → Int32)) : Option (Int32 × Int32 × (Nat → Int32)) :=
  bi2 (f_Decimal_trim v_first v_last a_row) fun v1 v2 =>
  some (v1, v2, a_row)
def f_Decimal_multiply_75 (v_first : Int32) (v_last : Int32) (a_row : (Nat → Int32)) (y2 : Int64) : Option (Int32 × Int32 × (Nat → Int32)) :=
  if y2 ≤ (0 : Int64) then
    f_Decimal_multiply_93 v_first v_last a_row
  else
    bi3 (f_Decimal_setLimb v_first v_last a_row (v_first - (1 : Int32)) (y2.toInt32)) fun v4 v5 a6 =>
    f_Decimal_multiply_93 v4 v5 a6
def f_Decimal_multiply_8b (k8 : Int32 → Int32 → (Nat → Int32) → Int32 → Int64 → Int32 → Option (Int32 × Int32 × (Nat → Int32))) (v_first : Int32) (v_last : Int32) (a_row : (Nat → Int32)) (y1 : Int32) (y2 : Int64) (y4 : Int32) : Option (Int32 × Int32 × (Nat → Int32)) :=
  if y4 < v_first then
    f_Decimal_multiply_75 v_first v_last a_row y2
  else
    if y4 < 0 then
      f_Decimal_multiply_75 v_first v_last a_row y2
    else
      if (208 : Int32) ≤ y4 then
        f_Decimal_multiply_75 v_first v_last a_row y2
      else
        ck (gin y4 208) <|
        bd ((lsl ((a_row y4.toNatClampNeg).toInt64) y1) + y2) fun x11 =>
        bd (x11 / (1000000000 : Int64)) fun x12 =>
        ck (gin y4 208) <|
        bd (upd a_row y4.toNatClampNeg ((x11 - (x12 * (1000000000 : Int64))).toInt32)) fun a14 =>
        bd (y4 + (-1 : Int32)) fun x15 =>
        k8 v_first v_last a14 y1 x12 x15
def f_Decimal_multiply_8 : Nat → Int32 → Int32 → (Nat → Int32) → Int32 → Int64 → Int32 → Option (Int32 × Int32 × (Nat → Int32))
  | 0 => fun _ _ _ _ _ _ => none
  | n + 1 => fun v_first v_last a_row y1 y2 y4 => f_Decimal_multiply_8b (f_Decimal_multiply_8 n) v_first v_last a_row y1 y2 y4
def f_Decimal_multiply (v_first : Int32) (v_last : Int32) (a_row : (Nat → Int32)) (p1 : Int32) : Option (Int32 × Int32 × (Nat → Int32)) :=
  f_Decimal_multiply_8 fu v_first v_last a_row p1 (0 : Int64) v_last
set_option maxHeartbeats 4000000 in
set_option maxRecDepth 100000 in
theorem s_Decimal_multiply_93 {p : Program} {l : Launch} {e : Env} {s : State} {m : MethodId} {args : Array Value} {below : List Frame} {meth : Method} {c : Code} {dC : Nat → ClassId} {dI : Nat → Nat → Nat} {A : Nat → Prop} {X : SXT} {h_this : Nat} {h_this_row : Nat} {c_this_row : ClassId} {res : Int32 × Int32 × (Nat → Int32)}  (cx : cxx p s m args meth c b_Decimal_multiply 7 none R_Decimal) (hK : va_K (dC, dI) classes [(c_this_row, .int)] s) (hA : ∀ q, s.heap.size ≤ q → A q) (hX : SX X A s s.heap)  : ∀ (v_first : Int32) (v_last : Int32) (a_row : (Nat → Int32)) (H : Heap) (locs : List Loc) (ls : Array Slot), va_P (dC, dI) classes (WS_Decimal_multiply h_this h_this_row c_this_row v_first v_last a_row) H → va_D A (WS_Decimal_multiply h_this h_this_row c_this_row v_first v_last a_row) → va_S A s.heap H locs → lv_has ls 7 [(0, .ref h_this)] → f_Decimal_multiply_93 v_first v_last a_row = some res → W p l e ({ frames := 2, cells := 0, slots := 0, locals := 41 }) s m args below meth c H locs 0 0 (MQ below (va_Qv (fun (u : Int32 × Int32 × (Nat → Int32)) => some u = some res) (gB (dC, dI) [(c_this_row, .int)] A (fun (u : Int32 × Int32 × (Nat → Int32)) => (WS_Decimal_multiply h_this h_this_row c_this_row u.1 u.2.1 u.2.2))) A) args s 0 0 A) (F0 m 93 ls []) := by
  intro v_first v_last a_row H locs ls hP hD hS hl h
  obtain ⟨hx, hb, hr, hml, hown, ht, hlk⟩ := id cx
  refine lv_aload_n hx hb d_Decimal_multiply_93 rfl (lv_at hl 0 rfl) ?_
  obtain ⟨v1, v2, hf, h⟩ := bi2_x h
  refine clVv (D := (dC, dI)) (n := 0) (As := []) ⟨hx, hb, hml, hown, ht⟩ (c_Decimal_trim l dC dI X h_this h_this_row c_this_row H.size v_first v_last a_row (v1, v2) hf) (gV q_120 q_121 q_122 q_113 q_123) (by decide +kernel) ⟨rfl, rfl, Nat.le_of_ble_eq_true rfl, Nat.le_of_ble_eq_true rfl⟩ hK hP hD hS hA hX [0, 1] [] [0] rfl (wr := []) rfl (by decide) (by decide) (by decide) rfl (va_recv hK hP (ci := 3) (q0 := 0) rfl rfl) rfl hl.1 rfl (lv_room (Nat.le_of_ble_eq_true rfl)) d_Decimal_multiply_94 ⟨Nat.zero_le _, Nat.zero_le _⟩ (fun u9 H locs h9 hP hD hS => ?_)
  cases h9
  have hP : va_P (dC, dI) classes (WS_Decimal_multiply h_this h_this_row c_this_row v1 v2 a_row) H := hP.sub [0, 1] rfl
  have hD : va_D A (WS_Decimal_multiply h_this h_this_row c_this_row v1 v2 a_row) := hD.sub [0, 1] (by decide) rfl
  exact W.vret hx hb hr (fun t ht9 hW => ⟨⟨(v1, v2, a_row), rfl, h, by rw [ht9]; exact hP, va_K.moved hW.alike hK, hD⟩, hS.F ht9⟩) hS.2.2 d_Decimal_multiply_97 hlk
set_option maxHeartbeats 4000000 in
set_option maxRecDepth 100000 in
theorem s_Decimal_multiply_75 {p : Program} {l : Launch} {e : Env} {s : State} {m : MethodId} {args : Array Value} {below : List Frame} {meth : Method} {c : Code} {dC : Nat → ClassId} {dI : Nat → Nat → Nat} {A : Nat → Prop} {X : SXT} {h_this : Nat} {h_this_row : Nat} {c_this_row : ClassId} {res : Int32 × Int32 × (Nat → Int32)}  (cx : cxx p s m args meth c b_Decimal_multiply 7 none R_Decimal) (hK : va_K (dC, dI) classes [(c_this_row, .int)] s) (hA : ∀ q, s.heap.size ≤ q → A q) (hX : SX X A s s.heap)  : ∀ (v_first : Int32) (v_last : Int32) (a_row : (Nat → Int32)) (y2 : Int64) (H : Heap) (locs : List Loc) (ls : Array Slot), va_P (dC, dI) classes (WS_Decimal_multiply h_this h_this_row c_this_row v_first v_last a_row) H → va_D A (WS_Decimal_multiply h_this h_this_row c_this_row v_first v_last a_row) → va_S A s.heap H locs → lv_has ls 7 [(0, .ref h_this), (2, .long y2)] → f_Decimal_multiply_75 v_first v_last a_row y2 = some res → W p l e ({ frames := 2, cells := 0, slots := 0, locals := 41 }) s m args below meth c H locs 0 0 (MQ below (va_Qv (fun (u : Int32 × Int32 × (Nat → Int32)) => some u = some res) (gB (dC, dI) [(c_this_row, .int)] A (fun (u : Int32 × Int32 × (Nat → Int32)) => (WS_Decimal_multiply h_this h_this_row c_this_row u.1 u.2.1 u.2.2))) A) args s 0 0 A) (F0 m 75 ls []) := by
  intro v_first v_last a_row y2 H locs ls hP hD hS hl h
  obtain ⟨hx, hb, hr, hml, hown, ht, hlk⟩ := id cx
  refine lv_lload_n hx hb d_Decimal_multiply_75 rfl (lv_at hl 1 rfl) ?_
  refine lv_lconst (v := 0) hx hb d_Decimal_multiply_76 (by decide) ?_
  refine W.lcmp hx hb d_Decimal_multiply_77 ?_
  refine lv_if_le (tgt := 93) hx hb d_Decimal_multiply_78 (by decide) (fun c3 => ?_) (fun c3 => ?_)
  · have c3 := (lg_cmp_le _ _).mp c3
    have h := if_t c3 h
    exact s_Decimal_multiply_93 cx hK hA hX v_first v_last a_row H locs ls hP hD hS (lv_sub hl [0] rfl) h
  · have c3 := fun h9 => c3 ((lg_cmp_le _ _).mpr h9)
    have h := if_f c3 h
    refine lv_aload_n hx hb d_Decimal_multiply_81 rfl (lv_at hl 0 rfl) ?_
    refine lv_aload_n hx hb d_Decimal_multiply_82 rfl (lv_at hl 0 rfl) ?_
    refine va_get (D := (dC, dI)) (ci := 3) (v := .int v_first) (C := R_Decimal) (T := F_Decimal) (N := 3) hx hb ht i_Decimal hown hK hP 0 rfl rfl 1 (by decide) (ht _ q_109) (fun _ h9 => h9) rfl d_Decimal_multiply_83 ?_
    refine lv_iconst (v := 1) hx hb d_Decimal_multiply_86 (by decide) ?_
    refine lv_isub hx hb d_Decimal_multiply_87 ?_
    refine lv_lload_n hx hb d_Decimal_multiply_88 rfl (lv_at hl 1 rfl) ?_
    refine lv_l2i (v := y2.toInt32) hx hb d_Decimal_multiply_89 rfl ?_
    obtain ⟨v4, v5, a6, hf, h⟩ := bi3_x h
    refine clVv (D := (dC, dI)) (n := 2) (As := [.int (v_first - (1 : Int32)), .int (y2.toInt32)]) ⟨hx, hb, hml, hown, ht⟩ (c_Decimal_setLimb l dC dI X h_this h_this_row c_this_row H.size v_first v_last a_row (v_first - (1 : Int32)) (y2.toInt32) (v4, v5, a6) hf) (gV q_110 q_111 q_112 q_113 q_114) (by decide +kernel) ⟨rfl, rfl, Nat.le_of_ble_eq_true rfl, Nat.le_of_ble_eq_true rfl⟩ hK hP hD hS hA hX [0, 1] [] [0] rfl (wr := []) rfl (by decide) (by decide) (by decide) rfl (va_recv hK hP (ci := 3) (q0 := 0) rfl rfl) rfl hl.1 rfl (lv_room (Nat.le_of_ble_eq_true rfl)) d_Decimal_multiply_90 ⟨Nat.zero_le _, Nat.zero_le _⟩ (fun u9 H locs h9 hP hD hS => ?_)
    cases h9
    have hP : va_P (dC, dI) classes (WS_Decimal_multiply h_this h_this_row c_this_row v4 v5 a6) H := hP.sub [0, 1] rfl
    have hD : va_D A (WS_Decimal_multiply h_this h_this_row c_this_row v4 v5 a6) := hD.sub [0, 1] (by decide) rfl
    exact s_Decimal_multiply_93 cx hK hA hX v4 v5 a6 H locs ls hP hD hS (lv_sub hl [0] rfl) h
set_option maxHeartbeats 4000000 in
set_option maxRecDepth 100000 in
theorem s_Decimal_multiply_8b {p : Program} {l : Launch} {e : Env} {s : State} {m : MethodId} {args : Array Value} {below : List Frame} {meth : Method} {c : Code} {dC : Nat → ClassId} {dI : Nat → Nat → Nat} {A : Nat → Prop} {X : SXT} {h_this : Nat} {h_this_row : Nat} {c_this_row : ClassId} {res : Int32 × Int32 × (Nat → Int32)} {k8 : Int32 → Int32 → (Nat → Int32) → Int32 → Int64 → Int32 → Option (Int32 × Int32 × (Nat → Int32))} (cx : cxx p s m args meth c b_Decimal_multiply 7 none R_Decimal) (hK : va_K (dC, dI) classes [(c_this_row, .int)] s) (hA : ∀ q, s.heap.size ≤ q → A q) (hX : SX X A s s.heap) (hk8 : ∀ (v_first : Int32) (v_last : Int32) (a_row : (Nat → Int32)) (y1 : Int32) (y2 : Int64) (y4 : Int32) (H : Heap) (locs : List Loc) (ls : Array Slot), va_P (dC, dI) classes (WS_Decimal_multiply h_this h_this_row c_this_row v_first v_last a_row) H → va_D A (WS_Decimal_multiply h_this h_this_row c_this_row v_first v_last a_row) → va_S A s.heap H locs → lv_has ls 7 [(0, .ref h_this), (1, .int y1), (2, .long y2), (4, .int y4)] → k8 v_first v_last a_row y1 y2 y4 = some res → W p l e ({ frames := 2, cells := 0, slots := 0, locals := 41 }) s m args below meth c H locs 0 0 (MQ below (va_Qv (fun (u : Int32 × Int32 × (Nat → Int32)) => some u = some res) (gB (dC, dI) [(c_this_row, .int)] A (fun (u : Int32 × Int32 × (Nat → Int32)) => (WS_Decimal_multiply h_this h_this_row c_this_row u.1 u.2.1 u.2.2))) A) args s 0 0 A) (F0 m 8 ls [])) : ∀ (v_first : Int32) (v_last : Int32) (a_row : (Nat → Int32)) (y1 : Int32) (y2 : Int64) (y4 : Int32) (H : Heap) (locs : List Loc) (ls : Array Slot), va_P (dC, dI) classes (WS_Decimal_multiply h_this h_this_row c_this_row v_first v_last a_row) H → va_D A (WS_Decimal_multiply h_this h_this_row c_this_row v_first v_last a_row) → va_S A s.heap H locs → lv_has ls 7 [(0, .ref h_this), (1, .int y1), (2, .long y2), (4, .int y4)] → f_Decimal_multiply_8b k8 v_first v_last a_row y1 y2 y4 = some res → W p l e ({ frames := 2, cells := 0, slots := 0, locals := 41 }) s m args below meth c H locs 0 0 (MQ below (va_Qv (fun (u : Int32 × Int32 × (Nat → Int32)) => some u = some res) (gB (dC, dI) [(c_this_row, .int)] A (fun (u : Int32 × Int32 × (Nat → Int32)) => (WS_Decimal_multiply h_this h_this_row c_this_row u.1 u.2.1 u.2.2))) A) args s 0 0 A) (F0 m 8 ls []) := by
  intro v_first v_last a_row y1 y2 y4 H locs ls hP hD hS hl h
  obtain ⟨hx, hb, hr, hml, hown, ht, hlk⟩ := id cx
  refine lv_iload hx hb d_Decimal_multiply_8 (lv_at hl 3 rfl) ?_
  refine lv_aload_n hx hb d_Decimal_multiply_10 rfl (lv_at hl 0 rfl) ?_
  refine va_get (D := (dC, dI)) (ci := 3) (v := .int v_first) (C := R_Decimal) (T := F_Decimal) (N := 3) hx hb ht i_Decimal hown hK hP 0 rfl rfl 1 (by decide) (ht _ q_109) (fun _ h9 => h9) rfl d_Decimal_multiply_11 ?_
  refine lv_icmp_lt (tgt := 75) hx hb d_Decimal_multiply_14 (by decide) (fun c7 => ?_) (fun c7 => ?_)
  · have h := if_t c7 h
    exact s_Decimal_multiply_75 cx hK hA hX v_first v_last a_row y2 H locs ls hP hD hS (lv_sub hl [0, 2] rfl) h
  · have h := if_f c7 h
    refine lv_iload hx hb d_Decimal_multiply_17 (lv_at hl 3 rfl) ?_
    refine lv_if_lt (tgt := 75) hx hb d_Decimal_multiply_19 (by decide) (fun c8 => ?_) (fun c8 => ?_)
    · have h := if_t c8 h
      exact s_Decimal_multiply_75 cx hK hA hX v_first v_last a_row y2 H locs ls hP hD hS (lv_sub hl [0, 2] rfl) h
    · have h := if_f c8 h
      refine lv_iload hx hb d_Decimal_multiply_22 (lv_at hl 3 rfl) ?_
      refine lv_aload_n hx hb d_Decimal_multiply_24 rfl (lv_at hl 0 rfl) ?_
      refine va_get (D := (dC, dI)) (ci := 3) (v := .ref h_this_row) (C := R_Decimal) (T := F_Decimal) (N := 3) hx hb ht i_Decimal hown hK hP 0 rfl rfl 0 (by decide) (ht _ q_108) (fun _ h9 => h9) rfl d_Decimal_multiply_25 ?_
      refine va_alen (D := (dC, dI)) (v := 208) hx hb hK hP 1 0 rfl rfl rfl d_Decimal_multiply_28 ?_
      refine lv_icmp_ge (tgt := 75) hx hb d_Decimal_multiply_29 (by decide) (fun c9 => ?_) (fun c9 => ?_)
      · have h := if_t c9 h
        exact s_Decimal_multiply_75 cx hK hA hX v_first v_last a_row y2 H locs ls hP hD hS (lv_sub hl [0, 2] rfl) h
      · have h := if_f c9 h
        refine lv_aload_n hx hb d_Decimal_multiply_32 rfl (lv_at hl 0 rfl) ?_
        refine va_get (D := (dC, dI)) (ci := 3) (v := .ref h_this_row) (C := R_Decimal) (T := F_Decimal) (N := 3) hx hb ht i_Decimal hown hK hP 0 rfl rfl 0 (by decide) (ht _ q_108) (fun _ h9 => h9) rfl d_Decimal_multiply_33 ?_
        refine lv_iload hx hb d_Decimal_multiply_36 (lv_at hl 3 rfl) ?_
        obtain ⟨c10, h⟩ := ck_x h
        refine va_iald (D := (dC, dI)) hx hb hK hP 1 0 rfl rfl c10 d_Decimal_multiply_38 ?_
        refine lv_i2l (v := (a_row y4.toNatClampNeg).toInt64) hx hb d_Decimal_multiply_39 rfl ?_
        refine lv_iload_n hx hb d_Decimal_multiply_40 rfl (lv_at hl 1 rfl) ?_
        refine lv_lshl (v := lsl ((a_row y4.toNatClampNeg).toInt64) y1) hx hb d_Decimal_multiply_41 rfl ?_
        refine lv_lload_n hx hb d_Decimal_multiply_42 rfl (lv_at hl 2 rfl) ?_
        refine lv_ladd hx hb d_Decimal_multiply_43 ?_
        refine lv_topl (fun x11 e_x11 => ?_)
        have h := bd_g e_x11 h
        refine lv_lstore (lv' := [(5, .long x11), (0, .ref h_this), (1, .int y1), (2, .long y2), (4, .int y4)]) hx hb d_Decimal_multiply_44 hl (by decide) rfl (fun ls hl => ?_)
        refine lv_lload hx hb d_Decimal_multiply_46 (lv_at hl 0 rfl) ?_
        refine lv_ldc2 (v := 1000000000) hx hb hown (ht _ q_140) d_Decimal_multiply_48 ?_
        refine lv_ldiv hx hb d_Decimal_multiply_51 (by decide) ?_
        refine lv_topl (fun x12 e_x12 => ?_)
        have h := bd_g e_x12 h
        refine lv_lstore_n (lv' := [(2, .long x12), (5, .long x11), (0, .ref h_this), (1, .int y1), (4, .int y4)]) hx hb d_Decimal_multiply_52 rfl hl (by decide) rfl (fun ls hl => ?_)
        refine lv_aload_n hx hb d_Decimal_multiply_53 rfl (lv_at hl 2 rfl) ?_
        refine va_get (D := (dC, dI)) (ci := 3) (v := .ref h_this_row) (C := R_Decimal) (T := F_Decimal) (N := 3) hx hb ht i_Decimal hown hK hP 0 rfl rfl 0 (by decide) (ht _ q_108) (fun _ h9 => h9) rfl d_Decimal_multiply_54 ?_
        refine lv_iload hx hb d_Decimal_multiply_57 (lv_at hl 4 rfl) ?_
        refine lv_lload hx hb d_Decimal_multiply_59 (lv_at hl 1 rfl) ?_
        refine lv_lload_n hx hb d_Decimal_multiply_61 rfl (lv_at hl 0 rfl) ?_
        refine lv_ldc2 (v := 1000000000) hx hb hown (ht _ q_140) d_Decimal_multiply_62 ?_
        refine lv_lmul hx hb d_Decimal_multiply_65 ?_
        refine lv_lsub hx hb d_Decimal_multiply_66 ?_
        refine lv_l2i (v := (x11 - (x12 * (1000000000 : Int64))).toInt32) hx hb d_Decimal_multiply_67 rfl ?_
        obtain ⟨c13, h⟩ := ck_x h
        refine va_iast (D := (dC, dI)) hx hb hK hP hD hS 1 0 rfl rfl c13 d_Decimal_multiply_68 (fun H locs hP hD hS => ?_)
        obtain ⟨a14, e_a14⟩ : ∃ y, y = upd a_row y4.toNatClampNeg ((x11 - (x12 * (1000000000 : Int64))).toInt32) := ⟨_, rfl⟩
        have hP : va_P (dC, dI) classes (WS_Decimal_multiply h_this h_this_row c_this_row v_first v_last a14) H := by rw [e_a14]; exact hP
        have hD : va_D A (WS_Decimal_multiply h_this h_this_row c_this_row v_first v_last a14) := by rw [e_a14]; exact hD
        have h := bd_g e_a14 h
        obtain ⟨x15, e_x15⟩ : ∃ y : Int32, y = y4 + (-1 : Int32) := ⟨_, rfl⟩
        refine lv_iinc (v := x15) (lv' := [(4, .int x15), (2, .long x12), (5, .long x11), (0, .ref h_this), (1, .int y1)]) hx hb d_Decimal_multiply_69 hl (k := 4) rfl (by rw [e_x15]; rfl) (by decide) rfl (fun ls hl => ?_)
        have h := bd_g e_x15 h
        refine lv_goto (tgt := 8) hx hb d_Decimal_multiply_72 (by decide) ?_
        exact hk8 v_first v_last a14 y1 x12 x15 H locs ls hP hD hS (lv_sub hl [3, 4, 1, 0] rfl) h
set_option maxHeartbeats 4000000 in
set_option maxRecDepth 100000 in
theorem s_Decimal_multiply_8 {p : Program} {l : Launch} {e : Env} {s : State} {m : MethodId} {args : Array Value} {below : List Frame} {meth : Method} {c : Code} {dC : Nat → ClassId} {dI : Nat → Nat → Nat} {A : Nat → Prop} {X : SXT} {h_this : Nat} {h_this_row : Nat} {c_this_row : ClassId} {res : Int32 × Int32 × (Nat → Int32)}  (cx : cxx p s m args meth c b_Decimal_multiply 7 none R_Decimal) (hK : va_K (dC, dI) classes [(c_this_row, .int)] s) (hA : ∀ q, s.heap.size ≤ q → A q) (hX : SX X A s s.heap)  : ∀ n : Nat, ∀ (v_first : Int32) (v_last : Int32) (a_row : (Nat → Int32)) (y1 : Int32) (y2 : Int64) (y4 : Int32) (H : Heap) (locs : List Loc) (ls : Array Slot), va_P (dC, dI) classes (WS_Decimal_multiply h_this h_this_row c_this_row v_first v_last a_row) H → va_D A (WS_Decimal_multiply h_this h_this_row c_this_row v_first v_last a_row) → va_S A s.heap H locs → lv_has ls 7 [(0, .ref h_this), (1, .int y1), (2, .long y2), (4, .int y4)] → f_Decimal_multiply_8 n v_first v_last a_row y1 y2 y4 = some res → W p l e ({ frames := 2, cells := 0, slots := 0, locals := 41 }) s m args below meth c H locs 0 0 (MQ below (va_Qv (fun (u : Int32 × Int32 × (Nat → Int32)) => some u = some res) (gB (dC, dI) [(c_this_row, .int)] A (fun (u : Int32 × Int32 × (Nat → Int32)) => (WS_Decimal_multiply h_this h_this_row c_this_row u.1 u.2.1 u.2.2))) A) args s 0 0 A) (F0 m 8 ls []) := by
  intro n
  induction n with
  | zero =>
    intro v_first v_last a_row y1 y2 y4 H locs ls hP hD hS hl h
    have h9 : (none : Option (Int32 × Int32 × (Nat → Int32))) = some res := h
    cases h9
  | succ n ih =>
    intro v_first v_last a_row y1 y2 y4 H locs ls hP hD hS hl h
    exact s_Decimal_multiply_8b cx hK hA hX ih v_first v_last a_row y1 y2 y4 H locs ls hP hD hS hl h
set_option maxHeartbeats 4000000 in
set_option maxRecDepth 100000 in
theorem s_Decimal_multiply_e {p : Program} {l : Launch} {e : Env} {s : State} {m : MethodId} {args : Array Value} {below : List Frame} {meth : Method} {c : Code} {dC : Nat → ClassId} {dI : Nat → Nat → Nat} {A : Nat → Prop} {X : SXT} {h_this : Nat} {h_this_row : Nat} {c_this_row : ClassId} {res : Int32 × Int32 × (Nat → Int32)} (cx : cxx p s m args meth c b_Decimal_multiply 7 none R_Decimal) (hK : va_K (dC, dI) classes [(c_this_row, .int)] s) (hA : ∀ q, s.heap.size ≤ q → A q) (hX : SX X A s s.heap) : ∀ (v_first : Int32) (v_last : Int32) (a_row : (Nat → Int32)) (p1 : Int32) (H : Heap) (locs : List Loc) (ls : Array Slot), va_P (dC, dI) classes (WS_Decimal_multiply h_this h_this_row c_this_row v_first v_last a_row) H → va_D A (WS_Decimal_multiply h_this h_this_row c_this_row v_first v_last a_row) → va_S A s.heap H locs → lv_has ls 7 [(0, .ref h_this), (1, .int p1)] → f_Decimal_multiply v_first v_last a_row p1 = some res → W p l e ({ frames := 2, cells := 0, slots := 0, locals := 41 }) s m args below meth c H locs 0 0 (MQ below (va_Qv (fun (u : Int32 × Int32 × (Nat → Int32)) => some u = some res) (gB (dC, dI) [(c_this_row, .int)] A (fun (u : Int32 × Int32 × (Nat → Int32)) => (WS_Decimal_multiply h_this h_this_row c_this_row u.1 u.2.1 u.2.2))) A) args s 0 0 A) (F0 m 0 ls []) := by
  intro v_first v_last a_row p1 H locs ls hP hD hS hl h
  obtain ⟨hx, hb, hr, hml, hown, ht, hlk⟩ := id cx
  refine lv_lconst (v := 0) hx hb d_Decimal_multiply_0 (by decide) ?_
  refine lv_lstore_n (lv' := [(2, .long (0 : Int64)), (0, .ref h_this), (1, .int p1)]) hx hb d_Decimal_multiply_1 rfl hl (by decide) rfl (fun ls hl => ?_)
  refine lv_aload_n hx hb d_Decimal_multiply_2 rfl (lv_at hl 1 rfl) ?_
  refine va_get (D := (dC, dI)) (ci := 3) (v := .int v_last) (C := R_Decimal) (T := F_Decimal) (N := 3) hx hb ht i_Decimal hown hK hP 0 rfl rfl 2 (by decide) (ht _ q_107) (fun _ h9 => h9) rfl d_Decimal_multiply_3 ?_
  refine lv_istore (lv' := [(4, .int v_last), (2, .long (0 : Int64)), (0, .ref h_this), (1, .int p1)]) hx hb d_Decimal_multiply_6 hl (by decide) rfl (fun ls hl => ?_)
  exact s_Decimal_multiply_8 cx hK hA hX fu v_first v_last a_row p1 (0 : Int64) v_last H locs ls hP hD hS (lv_sub hl [2, 3, 1, 0] rfl) h
set_option maxHeartbeats 4000000 in
set_option maxRecDepth 100000 in
theorem c_Decimal_multiply (l : Launch) (dC : Nat → ClassId) (dI : Nat → Nat → Nat) (X : SXT) (h_this : Nat) (h_this_row : Nat) (c_this_row : ClassId) (sz : Nat) (v_first : Int32) (v_last : Int32) (a_row : (Nat → Int32)) (p1 : Int32) (res : Int32 × Int32 × (Nat → Int32)) (hf : f_Decimal_multiply v_first v_last a_row p1 = some res) : Met l y_Decimal_multiply (.code y_Decimal_multiply b_Decimal_multiply 7 none :: w0) ({ frames := 2, cells := 0, slots := 0, locals := 41 }) (va_Pc [.ref h_this, .int p1] (gP (dC, dI) (WS_Decimal_multiply h_this h_this_row c_this_row v_first v_last a_row) [(c_this_row, .int)] sz X)) (va_Qv (fun (u : Int32 × Int32 × (Nat → Int32)) => some u = some res) (gB (dC, dI) [(c_this_row, .int)] (va_A (WS_Decimal_multiply h_this h_this_row c_this_row v_first v_last a_row) sz) (fun (u : Int32 × Int32 × (Nat → Int32)) => (WS_Decimal_multiply h_this h_this_row c_this_row u.1 u.2.1 u.2.2))) (va_A (WS_Decimal_multiply h_this h_this_row c_this_row v_first v_last a_row) sz)) 0 0 (va_A (WS_Decimal_multiply h_this h_this_row c_this_row v_first v_last a_row) sz) := by
  refine Met.ofW (cc := b_Decimal_multiply) (maxL := 7) (ret := none) (by decide) rfl ?_
  intro p e s m args below meth c s₁ B hml hv
  obtain ⟨rfl, hsz, hP, hK, hD0, hX⟩ := hv
  subst hsz
  have cx : cxx p s m ([.ref h_this, .int p1] : List Value).toArray meth c b_Decimal_multiply 7 none R_Decimal := ⟨B.exec, B.bytes, B.returns, hml, findClass_of_methodNamed B.named, fun w9 hw => atoms_spec (ws := .code y_Decimal_multiply b_Decimal_multiply 7 none :: w0) B.pre w9 (List.mem_cons_of_mem _ hw), B.notSynchronized⟩
  have hD := hD0.self (sz := s.heap.size)
  generalize hAe : va_A (WS_Decimal_multiply h_this h_this_row c_this_row v_first v_last a_row) s.heap.size = A at hD hX ⊢
  have hA : ∀ q : Nat, s.heap.size ≤ q → A q := fun q h => by rw [← hAe]; exact Or.inr h
  have hS : va_S A s.heap s.heap [] := va_S.rf
  have hl := lv_entry ([.ref h_this, .int p1]) (n := 7) (Nat.le_of_ble_eq_true rfl)
  rw [lg_entry_eq]
  generalize (lg_sl ([.ref h_this, .int p1]) ++ List.replicate (7 - (lg_sl ([.ref h_this, .int p1])).length) Slot.unset).toArray = ls at hl ⊢
  have hl : lv_has ls 7 [(0, .ref h_this), (1, .int p1)] := hl
  exact s_Decimal_multiply_e cx hK hA hX v_first v_last a_row p1 s.heap [] ls hP hD hS hl hf
abbrev WS_Decimal_findNearest (h_this : Nat) (h_this_row : Nat) (h_p1 : Nat) (c_this_row : ClassId) (v_first : Int32) (v_last : Int32) (a_row : (Nat → Int32)) (v_p1_factor : Int64) (v_p1_power : Int32) (v_p1_infinite : Int32) : va_W := [(h_this, .inr (3, [.ref h_this_row, .int v_first, .int v_last])), (h_this_row, .inl (c_this_row, 208, .inl a_row)), (h_p1, .inr (4, [.long v_p1_factor, .int v_p1_power, .int v_p1_infinite]))]
def f_Decimal_findNearest_184 (v_first : Int32) (v_last : Int32) (a_row : (Nat → Int32)) (v_p1_factor : Int64) (v_p1_power : Int32) (v_p1_infinite : Int32) (y2 : Int32) (z1 : Int64) (z2 : Int32) : Option (Int32 × Int32 × (Nat → Int32) × Int64 × Int32 × Int32) :=
  bi3 (f_Size_setNearest v_p1_factor v_p1_power v_p1_infinite z1 z2 y2) fun v1 v2 v3 =>
  some (v_first, v_last, a_row, v1, v2, v3)
def f_Decimal_findNearest_179 (v_first : Int32) (v_last : Int32) (a_row : (Nat → Int32)) (v_p1_factor : Int64) (v_p1_power : Int32) (v_p1_infinite : Int32) (y2 : Int32) (z1 : Int64) : Option (Int32 × Int32 × (Nat → Int32) × Int64 × Int32 × Int32) :=
  f_Decimal_findNearest_184 v_first v_last a_row v_p1_factor v_p1_power v_p1_infinite y2 z1 (1 : Int32)
def f_Decimal_findNearest_162 (v_first : Int32) (v_last : Int32) (a_row : (Nat → Int32)) (v_p1_factor : Int64) (v_p1_power : Int32) (v_p1_infinite : Int32) (y2 : Int32) (y3 : Int32) : Option (Int32 × Int32 × (Nat → Int32) × Int64 × Int32 × Int32) :=
  bi1 (f_Decimal_units a_row) fun r4 =>
  if y3 = 0 then
    bi1 (f_Decimal_hasBelow v_last a_row (0 : Int32)) fun r6 =>
    if r6 = 0 then
      f_Decimal_findNearest_184 v_first v_last a_row v_p1_factor v_p1_power v_p1_infinite y2 r4 (0 : Int32)
    else
      f_Decimal_findNearest_179 v_first v_last a_row v_p1_factor v_p1_power v_p1_infinite y2 r4
  else
    f_Decimal_findNearest_179 v_first v_last a_row v_p1_factor v_p1_power v_p1_infinite y2 r4
def f_Decimal_findNearest_94b (k94 : Int32 → Int32 → (Nat → Int32) → Int64 → Int32 → Int32 → Int32 → Int32 → Int32 → Option (Int32 × Int32 × (Nat → Int32) × Int64 × Int32 × Int32)) (v_first : Int32) (v_last : Int32) (a_row : (Nat → Int32)) (v_p1_factor : Int64) (v_p1_power : Int32) (v_p1_infinite : Int32) (y2 : Int32) (y3 : Int32) (y4 : Int32) : Option (Int32 × Int32 × (Nat → Int32) × Int64 × Int32 × Int32) :=
  if (64 : Int32) ≤ y4 then
    f_Decimal_findNearest_162 v_first v_last a_row v_p1_factor v_p1_power v_p1_infinite y2 y3
  else
    if y2 ≤ (-1075 : Int32) then
      f_Decimal_findNearest_162 v_first v_last a_row v_p1_factor v_p1_power v_p1_infinite y2 y3
    else
      bi1 (f_Decimal_units a_row) fun r10 =>
      bi1 (f_N_bitsOf r10) fun r11 =>
      if (54 : Int32) ≤ r11 then
        f_Decimal_findNearest_162 v_first v_last a_row v_p1_factor v_p1_power v_p1_infinite y2 y3
      else
        bi1 (f_Decimal_units a_row) fun r13 =>
        bi1 (f_N_bitsOf r13) fun r14 =>
        bd (imn (29 : Int32) (imn ((54 : Int32) - r14) ((1075 : Int32) + y2))) fun x15 =>
        bi3 (f_Decimal_multiply v_first v_last a_row x15) fun v16 v17 a18 =>
        bd (y2 - x15) fun x19 =>
        bd (y4 + (1 : Int32)) fun x20 =>
        k94 v16 v17 a18 v_p1_factor v_p1_power v_p1_infinite x19 y3 x20
def f_Decimal_findNearest_94 : Nat → Int32 → Int32 → (Nat → Int32) → Int64 → Int32 → Int32 → Int32 → Int32 → Int32 → Option (Int32 × Int32 × (Nat → Int32) × Int64 × Int32 × Int32)
  | 0 => fun _ _ _ _ _ _ _ _ _ => none
  | n + 1 => fun v_first v_last a_row v_p1_factor v_p1_power v_p1_infinite y2 y3 y4 => f_Decimal_findNearest_94b (f_Decimal_findNearest_94 n) v_first v_last a_row v_p1_factor v_p1_power v_p1_infinite y2 y3 y4
def f_Decimal_findNearest_91 (v_first : Int32) (v_last : Int32) (a_row : (Nat → Int32)) (v_p1_factor : Int64) (v_p1_power : Int32) (v_p1_infinite : Int32) (y2 : Int32) (y3 : Int32) : Option (Int32 × Int32 × (Nat → Int32) × Int64 × Int32 × Int32) :=
  f_Decimal_findNearest_94 fu v_first v_last a_row v_p1_factor v_p1_power v_p1_infinite y2 y3 (0 : Int32)
def f_Decimal_findNearest_74 (k7 : Int32 → Int32 → (Nat → Int32) → Int64 → Int32 → Int32 → Int32 → Int32 → Int32 → Option (Int32 × Int32 × (Nat → Int32) × Int64 × Int32 × Int32)) (v_first : Int32) (v_last : Int32) (a_row : (Nat → Int32)) (v_p1_factor : Int64) (v_p1_power : Int32) (v_p1_infinite : Int32) (y2 : Int32) (y4 : Int32) (y5 : Int32) (z0 : Int32) : Option (Int32 × Int32 × (Nat → Int32) × Int64 × Int32 × Int32) :=
  bi3 (f_Decimal_cutBelow v_first v_last a_row (0 : Int32)) fun v21 v22 a23 =>
  bd (y2 + y5) fun x24 =>
  bd (y4 + (1 : Int32)) fun x25 =>
  k7 v21 v22 a23 v_p1_factor v_p1_power v_p1_infinite x24 z0 x25
def f_Decimal_findNearest_69 (k7 : Int32 → Int32 → (Nat → Int32) → Int64 → Int32 → Int32 → Int32 → Int32 → Int32 → Option (Int32 × Int32 × (Nat → Int32) × Int64 × Int32 × Int32)) (v_first : Int32) (v_last : Int32) (a_row : (Nat → Int32)) (v_p1_factor : Int64) (v_p1_power : Int32) (v_p1_infinite : Int32) (y2 : Int32) (y4 : Int32) (y5 : Int32) : Option (Int32 × Int32 × (Nat → Int32) × Int64 × Int32 × Int32) :=
  f_Decimal_findNearest_74 k7 v_first v_last a_row v_p1_factor v_p1_power v_p1_infinite y2 y4 y5 (1 : Int32)
def f_Decimal_findNearest_49 (k7 : Int32 → Int32 → (Nat → Int32) → Int64 → Int32 → Int32 → Int32 → Int32 → Int32 → Option (Int32 × Int32 × (Nat → Int32) × Int64 × Int32 × Int32)) (v_first : Int32) (v_last : Int32) (a_row : (Nat → Int32)) (v_p1_factor : Int64) (v_p1_power : Int32) (v_p1_infinite : Int32) (y2 : Int32) (y3 : Int32) (y4 : Int32) (z0 : Int32) : Option (Int32 × Int32 × (Nat → Int32) × Int64 × Int32 × Int32) :=
  bi3 (f_Decimal_divide v_first v_last a_row z0) fun v26 v27 a28 =>
  if y3 = 0 then
    bi1 (f_Decimal_hasBelow v27 a28 (0 : Int32)) fun r30 =>
    if r30 = 0 then
      f_Decimal_findNearest_74 k7 v26 v27 a28 v_p1_factor v_p1_power v_p1_infinite y2 y4 z0 (0 : Int32)
    else
      f_Decimal_findNearest_69 k7 v26 v27 a28 v_p1_factor v_p1_power v_p1_infinite y2 y4 z0
  else
    f_Decimal_findNearest_69 k7 v26 v27 a28 v_p1_factor v_p1_power v_p1_infinite y2 y4 z0
def f_Decimal_findNearest_7b (k7 : Int32 → Int32 → (Nat → Int32) → Int64 → Int32 → Int32 → Int32 → Int32 → Int32 → Option (Int32 × Int32 × (Nat → Int32) × Int64 × Int32 × Int32)) (v_first : Int32) (v_last : Int32) (a_row : (Nat → Int32)) (v_p1_factor : Int64) (v_p1_power : Int32) (v_p1_infinite : Int32) (y2 : Int32) (y3 : Int32) (y4 : Int32) : Option (Int32 × Int32 × (Nat → Int32) × Int64 × Int32 × Int32) :=
  if (64 : Int32) ≤ y4 then
    f_Decimal_findNearest_91 v_first v_last a_row v_p1_factor v_p1_power v_p1_infinite y2 y3
  else
    if (34 : Int32) ≤ v_first then
      f_Decimal_findNearest_91 v_first v_last a_row v_p1_factor v_p1_power v_p1_infinite y2 y3
    else
      if (33 : Int32) ≤ v_first then
        bi1 (f_Decimal_limb a_row v_first) fun r35 =>
        bi1 (f_N_bitsOf (r35.toInt64)) fun r36 =>
        f_Decimal_findNearest_49 k7 v_first v_last a_row v_p1_factor v_p1_power v_p1_infinite y2 y3 y4 r36
      else
        f_Decimal_findNearest_49 k7 v_first v_last a_row v_p1_factor v_p1_power v_p1_infinite y2 y3 y4 (29 : Int32)
def f_Decimal_findNearest_7 : Nat → Int32 → Int32 → (Nat → Int32) → Int64 → Int32 → Int32 → Int32 → Int32 → Int32 → Option (Int32 × Int32 × (Nat → Int32) × Int64 × Int32 × Int32)
  | 0 => fun _ _ _ _ _ _ _ _ _ => none
  | n + 1 => fun v_first v_last a_row v_p1_factor v_p1_power v_p1_infinite y2 y3 y4 => f_Decimal_findNearest_7b (f_Decimal_findNearest_7 n) v_first v_last a_row v_p1_factor v_p1_power v_p1_infinite y2 y3 y4
def f_Decimal_findNearest (v_first : Int32) (v_last : Int32) (a_row : (Nat → Int32)) (v_p1_factor : Int64) (v_p1_power : Int32) (v_p1_infinite : Int32) : Option (Int32 × Int32 × (Nat → Int32) × Int64 × Int32 × Int32) :=
  f_Decimal_findNearest_7 fu v_first v_last a_row v_p1_factor v_p1_power v_p1_infinite (0 : Int32) (0 : Int32) (0 : Int32)
set_option maxHeartbeats 4000000 in
set_option maxRecDepth 100000 in
theorem s_Decimal_findNearest_184 {p : Program} {l : Launch} {e : Env} {s : State} {m : MethodId} {args : Array Value} {below : List Frame} {meth : Method} {c : Code} {dC : Nat → ClassId} {dI : Nat → Nat → Nat} {A : Nat → Prop} {X : SXT} {h_this : Nat} {h_this_row : Nat} {h_p1 : Nat} {c_this_row : ClassId} {res : Int32 × Int32 × (Nat → Int32) × Int64 × Int32 × Int32}  (cx : cxx p s m args meth c b_Decimal_findNearest 6 none R_Decimal) (hK : va_K (dC, dI) classes [(c_this_row, .int)] s) (hA : ∀ q, s.heap.size ≤ q → A q) (hX : SX X A s s.heap)  : ∀ (v_first : Int32) (v_last : Int32) (a_row : (Nat → Int32)) (v_p1_factor : Int64) (v_p1_power : Int32) (v_p1_infinite : Int32) (y2 : Int32) (z1 : Int64) (z2 : Int32) (H : Heap) (locs : List Loc) (ls : Array Slot), va_P (dC, dI) classes (WS_Decimal_findNearest h_this h_this_row h_p1 c_this_row v_first v_last a_row v_p1_factor v_p1_power v_p1_infinite) H → va_D A (WS_Decimal_findNearest h_this h_this_row h_p1 c_this_row v_first v_last a_row v_p1_factor v_p1_power v_p1_infinite) → va_S A s.heap H locs → lv_has ls 6 [(0, .ref h_this), (1, .ref h_p1), (2, .int y2)] → f_Decimal_findNearest_184 v_first v_last a_row v_p1_factor v_p1_power v_p1_infinite y2 z1 z2 = some res → W p l e ({ frames := 5, cells := 0, slots := 0, locals := 120 }) s m args below meth c H locs 0 0 (MQ below (va_Qv (fun (u : Int32 × Int32 × (Nat → Int32) × Int64 × Int32 × Int32) => some u = some res) (gB (dC, dI) [(c_this_row, .int)] A (fun (u : Int32 × Int32 × (Nat → Int32) × Int64 × Int32 × Int32) => (WS_Decimal_findNearest h_this h_this_row h_p1 c_this_row u.1 u.2.1 u.2.2.1 u.2.2.2.1 u.2.2.2.2.1 u.2.2.2.2.2))) A) args s 0 0 A) (F0 m 184 ls [.int z2, .long z1, .ref h_p1]) := by
  intro v_first v_last a_row v_p1_factor v_p1_power v_p1_infinite y2 z1 z2 H locs ls hP hD hS hl h
  obtain ⟨hx, hb, hr, hml, hown, ht, hlk⟩ := id cx
  refine lv_iload_n hx hb d_Decimal_findNearest_184 rfl (lv_at hl 2 rfl) ?_
  obtain ⟨v1, v2, v3, hf, h⟩ := bi3_x h
  refine clVv (D := (dC, dI)) (n := 3) (As := [.long z1, .int z2, .int y2]) ⟨hx, hb, hml, hown, ht⟩ (c_Size_setNearest l dC dI X h_p1 H.size v_p1_factor v_p1_power v_p1_infinite z1 z2 y2 (v1, v2, v3) hf) (gV q_141 q_104 q_105 q_91 q_106) (by decide +kernel) ⟨rfl, rfl, Nat.le_of_ble_eq_true rfl, Nat.le_of_ble_eq_true rfl⟩ hK hP hD hS hA hX [2] [0, 1] [] rfl (wr := [(h_this, .inr (3, [.ref h_this_row, .int v_first, .int v_last])), (h_this_row, .inl (c_this_row, 208, .inl a_row))]) rfl (by decide) (by decide) (by decide) rfl (va_recv hK hP (ci := 4) (q0 := 2) rfl rfl) rfl hl.1 rfl (lv_room (Nat.le_of_ble_eq_true rfl)) d_Decimal_findNearest_185 ⟨Nat.zero_le _, Nat.zero_le _⟩ (fun u9 H locs h9 hP hD hS => ?_)
  cases h9
  have hP : va_P (dC, dI) classes (WS_Decimal_findNearest h_this h_this_row h_p1 c_this_row v_first v_last a_row v1 v2 v3) H := hP.sub [0, 1, 2] rfl
  have hD : va_D A (WS_Decimal_findNearest h_this h_this_row h_p1 c_this_row v_first v_last a_row v1 v2 v3) := hD.sub [0, 1, 2] (by decide) rfl
  exact W.vret hx hb hr (fun t ht9 hW => ⟨⟨(v_first, v_last, a_row, v1, v2, v3), rfl, h, by rw [ht9]; exact hP, va_K.moved hW.alike hK, hD⟩, hS.F ht9⟩) hS.2.2 d_Decimal_findNearest_188 hlk
set_option maxHeartbeats 4000000 in
set_option maxRecDepth 100000 in
theorem s_Decimal_findNearest_179 {p : Program} {l : Launch} {e : Env} {s : State} {m : MethodId} {args : Array Value} {below : List Frame} {meth : Method} {c : Code} {dC : Nat → ClassId} {dI : Nat → Nat → Nat} {A : Nat → Prop} {X : SXT} {h_this : Nat} {h_this_row : Nat} {h_p1 : Nat} {c_this_row : ClassId} {res : Int32 × Int32 × (Nat → Int32) × Int64 × Int32 × Int32}  (cx : cxx p s m args meth c b_Decimal_findNearest 6 none R_Decimal) (hK : va_K (dC, dI) classes [(c_this_row, .int)] s) (hA : ∀ q, s.heap.size ≤ q → A q) (hX : SX X A s s.heap)  : ∀ (v_first : Int32) (v_last : Int32) (a_row : (Nat → Int32)) (v_p1_factor : Int64) (v_p1_power : Int32) (v_p1_infinite : Int32) (y2 : Int32) (z1 : Int64) (H : Heap) (locs : List Loc) (ls : Array Slot), va_P (dC, dI) classes (WS_Decimal_findNearest h_this h_this_row h_p1 c_this_row v_first v_last a_row v_p1_factor v_p1_power v_p1_infinite) H → va_D A (WS_Decimal_findNearest h_this h_this_row h_p1 c_this_row v_first v_last a_row v_p1_factor v_p1_power v_p1_infinite) → va_S A s.heap H locs → lv_has ls 6 [(0, .ref h_this), (1, .ref h_p1), (2, .int y2)] → f_Decimal_findNearest_179 v_first v_last a_row v_p1_factor v_p1_power v_p1_infinite y2 z1 = some res → W p l e ({ frames := 5, cells := 0, slots := 0, locals := 120 }) s m args below meth c H locs 0 0 (MQ below (va_Qv (fun (u : Int32 × Int32 × (Nat → Int32) × Int64 × Int32 × Int32) => some u = some res) (gB (dC, dI) [(c_this_row, .int)] A (fun (u : Int32 × Int32 × (Nat → Int32) × Int64 × Int32 × Int32) => (WS_Decimal_findNearest h_this h_this_row h_p1 c_this_row u.1 u.2.1 u.2.2.1 u.2.2.2.1 u.2.2.2.2.1 u.2.2.2.2.2))) A) args s 0 0 A) (F0 m 179 ls [.long z1, .ref h_p1]) := by
  intro v_first v_last a_row v_p1_factor v_p1_power v_p1_infinite y2 z1 H locs ls hP hD hS hl h
  obtain ⟨hx, hb, hr, hml, hown, ht, hlk⟩ := id cx
  refine lv_iconst (v := 1) hx hb d_Decimal_findNearest_179 (by decide) ?_
  refine lv_goto (tgt := 184) hx hb d_Decimal_findNearest_180 (by decide) ?_
  exact s_Decimal_findNearest_184 cx hK hA hX v_first v_last a_row v_p1_factor v_p1_power v_p1_infinite y2 z1 (1 : Int32) H locs ls hP hD hS (lv_sub hl [0, 1, 2] rfl) h
set_option maxHeartbeats 4000000 in
set_option maxRecDepth 100000 in
theorem s_Decimal_findNearest_162 {p : Program} {l : Launch} {e : Env} {s : State} {m : MethodId} {args : Array Value} {below : List Frame} {meth : Method} {c : Code} {dC : Nat → ClassId} {dI : Nat → Nat → Nat} {A : Nat → Prop} {X : SXT} {h_this : Nat} {h_this_row : Nat} {h_p1 : Nat} {c_this_row : ClassId} {res : Int32 × Int32 × (Nat → Int32) × Int64 × Int32 × Int32}  (cx : cxx p s m args meth c b_Decimal_findNearest 6 none R_Decimal) (hK : va_K (dC, dI) classes [(c_this_row, .int)] s) (hA : ∀ q, s.heap.size ≤ q → A q) (hX : SX X A s s.heap)  : ∀ (v_first : Int32) (v_last : Int32) (a_row : (Nat → Int32)) (v_p1_factor : Int64) (v_p1_power : Int32) (v_p1_infinite : Int32) (y2 : Int32) (y3 : Int32) (H : Heap) (locs : List Loc) (ls : Array Slot), va_P (dC, dI) classes (WS_Decimal_findNearest h_this h_this_row h_p1 c_this_row v_first v_last a_row v_p1_factor v_p1_power v_p1_infinite) H → va_D A (WS_Decimal_findNearest h_this h_this_row h_p1 c_this_row v_first v_last a_row v_p1_factor v_p1_power v_p1_infinite) → va_S A s.heap H locs → lv_has ls 6 [(0, .ref h_this), (1, .ref h_p1), (2, .int y2), (3, .int y3)] → f_Decimal_findNearest_162 v_first v_last a_row v_p1_factor v_p1_power v_p1_infinite y2 y3 = some res → W p l e ({ frames := 5, cells := 0, slots := 0, locals := 120 }) s m args below meth c H locs 0 0 (MQ below (va_Qv (fun (u : Int32 × Int32 × (Nat → Int32) × Int64 × Int32 × Int32) => some u = some res) (gB (dC, dI) [(c_this_row, .int)] A (fun (u : Int32 × Int32 × (Nat → Int32) × Int64 × Int32 × Int32) => (WS_Decimal_findNearest h_this h_this_row h_p1 c_this_row u.1 u.2.1 u.2.2.1 u.2.2.2.1 u.2.2.2.2.1 u.2.2.2.2.2))) A) args s 0 0 A) (F0 m 162 ls []) := by
  intro v_first v_last a_row v_p1_factor v_p1_power v_p1_infinite y2 y3 H locs ls hP hD hS hl h
  obtain ⟨hx, hb, hr, hml, hown, ht, hlk⟩ := id cx
  refine lv_aload_n hx hb d_Decimal_findNearest_162 rfl (lv_at hl 1 rfl) ?_
  refine lv_aload_n hx hb d_Decimal_findNearest_163 rfl (lv_at hl 0 rfl) ?_
  obtain ⟨r4, hf, h⟩ := bi1_x h
  refine clVl (D := (dC, dI)) (n := 0) (As := []) ⟨hx, hb, hml, hown, ht⟩ (c_Decimal_units l dC dI X h_this h_this_row c_this_row H.size v_first v_last a_row r4 hf) (gV q_142 q_143 q_144 q_113 q_145) (by decide +kernel) ⟨rfl, rfl, Nat.le_of_ble_eq_true rfl, Nat.le_of_ble_eq_true rfl⟩ hK hP hD hS hA hX [0, 1] [2] [0] rfl (wr := [(h_p1, .inr (4, [.long v_p1_factor, .int v_p1_power, .int v_p1_infinite]))]) rfl (by decide) (by decide) (by decide) rfl (va_recv hK hP (ci := 3) (q0 := 0) rfl rfl) rfl hl.1 rfl (lv_room (Nat.le_of_ble_eq_true rfl)) d_Decimal_findNearest_164 ⟨Nat.zero_le _, Nat.zero_le _⟩ (fun r9 u9 H locs h9 hP hD hS => ?_)
  cases h9
  have hP : va_P (dC, dI) classes (WS_Decimal_findNearest h_this h_this_row h_p1 c_this_row v_first v_last a_row v_p1_factor v_p1_power v_p1_infinite) H := hP.sub [1, 2, 0] rfl
  have hD : va_D A (WS_Decimal_findNearest h_this h_this_row h_p1 c_this_row v_first v_last a_row v_p1_factor v_p1_power v_p1_infinite) := hD.sub [1, 2, 0] (by decide) rfl
  refine lv_iload_n hx hb d_Decimal_findNearest_167 rfl (lv_at hl 3 rfl) ?_
  refine lv_if_ne (tgt := 179) hx hb d_Decimal_findNearest_168 (by decide) (fun c5 => ?_) (fun c5 => ?_)
  · have h := if_f c5 h
    exact s_Decimal_findNearest_179 cx hK hA hX v_first v_last a_row v_p1_factor v_p1_power v_p1_infinite y2 r4 H locs ls hP hD hS (lv_sub hl [0, 1, 2] rfl) h
  · have h := if_t c5 h
    refine lv_aload_n hx hb d_Decimal_findNearest_171 rfl (lv_at hl 0 rfl) ?_
    refine lv_iconst (v := 0) hx hb d_Decimal_findNearest_172 (by decide) ?_
    obtain ⟨r6, hf, h⟩ := bi1_x h
    refine clVi (D := (dC, dI)) (n := 1) (As := [.int (0 : Int32)]) ⟨hx, hb, hml, hown, ht⟩ (c_Decimal_hasBelow l dC dI X h_this h_this_row c_this_row H.size v_first v_last a_row (0 : Int32) r6 hf) (gV q_146 q_147 q_148 q_113 q_149) (by decide +kernel) ⟨rfl, rfl, Nat.le_of_ble_eq_true rfl, Nat.le_of_ble_eq_true rfl⟩ hK hP hD hS hA hX [0, 1] [2] [0] rfl (wr := [(h_p1, .inr (4, [.long v_p1_factor, .int v_p1_power, .int v_p1_infinite]))]) rfl (by decide) (by decide) (by decide) rfl (va_recv hK hP (ci := 3) (q0 := 0) rfl rfl) rfl hl.1 rfl (lv_room (Nat.le_of_ble_eq_true rfl)) d_Decimal_findNearest_173 ⟨Nat.zero_le _, Nat.zero_le _⟩ (fun r9 u9 H locs h9 hP hD hS => ?_)
    cases h9
    have hP : va_P (dC, dI) classes (WS_Decimal_findNearest h_this h_this_row h_p1 c_this_row v_first v_last a_row v_p1_factor v_p1_power v_p1_infinite) H := hP.sub [1, 2, 0] rfl
    have hD : va_D A (WS_Decimal_findNearest h_this h_this_row h_p1 c_this_row v_first v_last a_row v_p1_factor v_p1_power v_p1_infinite) := hD.sub [1, 2, 0] (by decide) rfl
    refine lv_if_eq (tgt := 183) hx hb d_Decimal_findNearest_176 (by decide) (fun c7 => ?_) (fun c7 => ?_)
    · have h := if_t c7 h
      refine lv_iconst (v := 0) hx hb d_Decimal_findNearest_183 (by decide) ?_
      exact s_Decimal_findNearest_184 cx hK hA hX v_first v_last a_row v_p1_factor v_p1_power v_p1_infinite y2 r4 (0 : Int32) H locs ls hP hD hS (lv_sub hl [0, 1, 2] rfl) h
    · have h := if_f c7 h
      exact s_Decimal_findNearest_179 cx hK hA hX v_first v_last a_row v_p1_factor v_p1_power v_p1_infinite y2 r4 H locs ls hP hD hS (lv_sub hl [0, 1, 2] rfl) h
set_option maxHeartbeats 4000000 in
set_option maxRecDepth 100000 in
theorem s_Decimal_findNearest_94b {p : Program} {l : Launch} {e : Env} {s : State} {m : MethodId} {args : Array Value} {below : List Frame} {meth : Method} {c : Code} {dC : Nat → ClassId} {dI : Nat → Nat → Nat} {A : Nat → Prop} {X : SXT} {h_this : Nat} {h_this_row : Nat} {h_p1 : Nat} {c_this_row : ClassId} {res : Int32 × Int32 × (Nat → Int32) × Int64 × Int32 × Int32} {k94 : Int32 → Int32 → (Nat → Int32) → Int64 → Int32 → Int32 → Int32 → Int32 → Int32 → Option (Int32 × Int32 × (Nat → Int32) × Int64 × Int32 × Int32)} (cx : cxx p s m args meth c b_Decimal_findNearest 6 none R_Decimal) (hK : va_K (dC, dI) classes [(c_this_row, .int)] s) (hA : ∀ q, s.heap.size ≤ q → A q) (hX : SX X A s s.heap) (hk94 : ∀ (v_first : Int32) (v_last : Int32) (a_row : (Nat → Int32)) (v_p1_factor : Int64) (v_p1_power : Int32) (v_p1_infinite : Int32) (y2 : Int32) (y3 : Int32) (y4 : Int32) (H : Heap) (locs : List Loc) (ls : Array Slot), va_P (dC, dI) classes (WS_Decimal_findNearest h_this h_this_row h_p1 c_this_row v_first v_last a_row v_p1_factor v_p1_power v_p1_infinite) H → va_D A (WS_Decimal_findNearest h_this h_this_row h_p1 c_this_row v_first v_last a_row v_p1_factor v_p1_power v_p1_infinite) → va_S A s.heap H locs → lv_has ls 6 [(0, .ref h_this), (1, .ref h_p1), (2, .int y2), (3, .int y3), (4, .int y4)] → k94 v_first v_last a_row v_p1_factor v_p1_power v_p1_infinite y2 y3 y4 = some res → W p l e ({ frames := 5, cells := 0, slots := 0, locals := 120 }) s m args below meth c H locs 0 0 (MQ below (va_Qv (fun (u : Int32 × Int32 × (Nat → Int32) × Int64 × Int32 × Int32) => some u = some res) (gB (dC, dI) [(c_this_row, .int)] A (fun (u : Int32 × Int32 × (Nat → Int32) × Int64 × Int32 × Int32) => (WS_Decimal_findNearest h_this h_this_row h_p1 c_this_row u.1 u.2.1 u.2.2.1 u.2.2.2.1 u.2.2.2.2.1 u.2.2.2.2.2))) A) args s 0 0 A) (F0 m 94 ls [])) : ∀ (v_first : Int32) (v_last : Int32) (a_row : (Nat → Int32)) (v_p1_factor : Int64) (v_p1_power : Int32) (v_p1_infinite : Int32) (y2 : Int32) (y3 : Int32) (y4 : Int32) (H : Heap) (locs : List Loc) (ls : Array Slot), va_P (dC, dI) classes (WS_Decimal_findNearest h_this h_this_row h_p1 c_this_row v_first v_last a_row v_p1_factor v_p1_power v_p1_infinite) H → va_D A (WS_Decimal_findNearest h_this h_this_row h_p1 c_this_row v_first v_last a_row v_p1_factor v_p1_power v_p1_infinite) → va_S A s.heap H locs → lv_has ls 6 [(0, .ref h_this), (1, .ref h_p1), (2, .int y2), (3, .int y3), (4, .int y4)] → f_Decimal_findNearest_94b k94 v_first v_last a_row v_p1_factor v_p1_power v_p1_infinite y2 y3 y4 = some res → W p l e ({ frames := 5, cells := 0, slots := 0, locals := 120 }) s m args below meth c H locs 0 0 (MQ below (va_Qv (fun (u : Int32 × Int32 × (Nat → Int32) × Int64 × Int32 × Int32) => some u = some res) (gB (dC, dI) [(c_this_row, .int)] A (fun (u : Int32 × Int32 × (Nat → Int32) × Int64 × Int32 × Int32) => (WS_Decimal_findNearest h_this h_this_row h_p1 c_this_row u.1 u.2.1 u.2.2.1 u.2.2.2.1 u.2.2.2.2.1 u.2.2.2.2.2))) A) args s 0 0 A) (F0 m 94 ls []) := by
  intro v_first v_last a_row v_p1_factor v_p1_power v_p1_infinite y2 y3 y4 H locs ls hP hD hS hl h
  obtain ⟨hx, hb, hr, hml, hown, ht, hlk⟩ := id cx
  refine lv_iload hx hb d_Decimal_findNearest_94 (lv_at hl 4 rfl) ?_
  refine lv_bipush (v := 64) hx hb d_Decimal_findNearest_96 (by decide) ?_
  refine lv_icmp_ge (tgt := 162) hx hb d_Decimal_findNearest_98 (by decide) (fun c8 => ?_) (fun c8 => ?_)
  · have h := if_t c8 h
    exact s_Decimal_findNearest_162 cx hK hA hX v_first v_last a_row v_p1_factor v_p1_power v_p1_infinite y2 y3 H locs ls hP hD hS (lv_sub hl [0, 1, 2, 3] rfl) h
  · have h := if_f c8 h
    refine lv_iload_n hx hb d_Decimal_findNearest_101 rfl (lv_at hl 2 rfl) ?_
    refine lv_sipush (v := -1075) hx hb d_Decimal_findNearest_102 (by decide) ?_
    refine lv_icmp_le (tgt := 162) hx hb d_Decimal_findNearest_105 (by decide) (fun c9 => ?_) (fun c9 => ?_)
    · have h := if_t c9 h
      exact s_Decimal_findNearest_162 cx hK hA hX v_first v_last a_row v_p1_factor v_p1_power v_p1_infinite y2 y3 H locs ls hP hD hS (lv_sub hl [0, 1, 2, 3] rfl) h
    · have h := if_f c9 h
      refine lv_aload_n hx hb d_Decimal_findNearest_108 rfl (lv_at hl 0 rfl) ?_
      obtain ⟨r10, hf, h⟩ := bi1_x h
      refine clVl (D := (dC, dI)) (n := 0) (As := []) ⟨hx, hb, hml, hown, ht⟩ (c_Decimal_units l dC dI X h_this h_this_row c_this_row H.size v_first v_last a_row r10 hf) (gV q_142 q_143 q_144 q_113 q_145) (by decide +kernel) ⟨rfl, rfl, Nat.le_of_ble_eq_true rfl, Nat.le_of_ble_eq_true rfl⟩ hK hP hD hS hA hX [0, 1] [2] [0] rfl (wr := [(h_p1, .inr (4, [.long v_p1_factor, .int v_p1_power, .int v_p1_infinite]))]) rfl (by decide) (by decide) (by decide) rfl (va_recv hK hP (ci := 3) (q0 := 0) rfl rfl) rfl hl.1 rfl (lv_room (Nat.le_of_ble_eq_true rfl)) d_Decimal_findNearest_109 ⟨Nat.zero_le _, Nat.zero_le _⟩ (fun r9 u9 H locs h9 hP hD hS => ?_)
      cases h9
      have hP : va_P (dC, dI) classes (WS_Decimal_findNearest h_this h_this_row h_p1 c_this_row v_first v_last a_row v_p1_factor v_p1_power v_p1_infinite) H := hP.sub [1, 2, 0] rfl
      have hD : va_D A (WS_Decimal_findNearest h_this h_this_row h_p1 c_this_row v_first v_last a_row v_p1_factor v_p1_power v_p1_infinite) := hD.sub [1, 2, 0] (by decide) rfl
      obtain ⟨r11, hf, h⟩ := bi1_x h
      refine clNi (D := (dC, dI)) (n := 1) (As := [.long r10]) ⟨hx, hb, hml, hown, ht⟩ (c_N_bitsOf l dC dI X  H.size r10 r11 hf) (hX.nest 1 rfl) (gN q_85 q_86 q_87) (by decide +kernel) ⟨rfl, rfl, Nat.le_of_ble_eq_true rfl, Nat.le_of_ble_eq_true rfl⟩ hK hP hD hS hA hX [] [0, 1, 2] [] rfl (wr := [(h_this, .inr (3, [.ref h_this_row, .int v_first, .int v_last])), (h_this_row, .inl (c_this_row, 208, .inl a_row)), (h_p1, .inr (4, [.long v_p1_factor, .int v_p1_power, .int v_p1_infinite]))]) rfl (by decide) (by decide) (by decide) rfl rfl hl.1 rfl (lv_room (Nat.le_of_ble_eq_true rfl)) d_Decimal_findNearest_112 ⟨Nat.zero_le _, Nat.zero_le _⟩ (fun r9 u9 H locs h9 hP hD hS => ?_)
      cases h9
      have hP : va_P (dC, dI) classes (WS_Decimal_findNearest h_this h_this_row h_p1 c_this_row v_first v_last a_row v_p1_factor v_p1_power v_p1_infinite) H := hP.sub [0, 1, 2] rfl
      have hD : va_D A (WS_Decimal_findNearest h_this h_this_row h_p1 c_this_row v_first v_last a_row v_p1_factor v_p1_power v_p1_infinite) := hD.sub [0, 1, 2] (by decide) rfl
      refine lv_bipush (v := 54) hx hb d_Decimal_findNearest_115 (by decide) ?_
      refine lv_icmp_ge (tgt := 162) hx hb d_Decimal_findNearest_117 (by decide) (fun c12 => ?_) (fun c12 => ?_)
      · have h := if_t c12 h
        exact s_Decimal_findNearest_162 cx hK hA hX v_first v_last a_row v_p1_factor v_p1_power v_p1_infinite y2 y3 H locs ls hP hD hS (lv_sub hl [0, 1, 2, 3] rfl) h
      · have h := if_f c12 h
        refine lv_bipush (v := 29) hx hb d_Decimal_findNearest_120 (by decide) ?_
        refine lv_bipush (v := 54) hx hb d_Decimal_findNearest_122 (by decide) ?_
        refine lv_aload_n hx hb d_Decimal_findNearest_124 rfl (lv_at hl 0 rfl) ?_
        obtain ⟨r13, hf, h⟩ := bi1_x h
        refine clVl (D := (dC, dI)) (n := 0) (As := []) ⟨hx, hb, hml, hown, ht⟩ (c_Decimal_units l dC dI X h_this h_this_row c_this_row H.size v_first v_last a_row r13 hf) (gV q_142 q_143 q_144 q_113 q_145) (by decide +kernel) ⟨rfl, rfl, Nat.le_of_ble_eq_true rfl, Nat.le_of_ble_eq_true rfl⟩ hK hP hD hS hA hX [0, 1] [2] [0] rfl (wr := [(h_p1, .inr (4, [.long v_p1_factor, .int v_p1_power, .int v_p1_infinite]))]) rfl (by decide) (by decide) (by decide) rfl (va_recv hK hP (ci := 3) (q0 := 0) rfl rfl) rfl hl.1 rfl (lv_room (Nat.le_of_ble_eq_true rfl)) d_Decimal_findNearest_125 ⟨Nat.zero_le _, Nat.zero_le _⟩ (fun r9 u9 H locs h9 hP hD hS => ?_)
        cases h9
        have hP : va_P (dC, dI) classes (WS_Decimal_findNearest h_this h_this_row h_p1 c_this_row v_first v_last a_row v_p1_factor v_p1_power v_p1_infinite) H := hP.sub [1, 2, 0] rfl
        have hD : va_D A (WS_Decimal_findNearest h_this h_this_row h_p1 c_this_row v_first v_last a_row v_p1_factor v_p1_power v_p1_infinite) := hD.sub [1, 2, 0] (by decide) rfl
        obtain ⟨r14, hf, h⟩ := bi1_x h
        refine clNi (D := (dC, dI)) (n := 1) (As := [.long r13]) ⟨hx, hb, hml, hown, ht⟩ (c_N_bitsOf l dC dI X  H.size r13 r14 hf) (hX.nest 1 rfl) (gN q_85 q_86 q_87) (by decide +kernel) ⟨rfl, rfl, Nat.le_of_ble_eq_true rfl, Nat.le_of_ble_eq_true rfl⟩ hK hP hD hS hA hX [] [0, 1, 2] [] rfl (wr := [(h_this, .inr (3, [.ref h_this_row, .int v_first, .int v_last])), (h_this_row, .inl (c_this_row, 208, .inl a_row)), (h_p1, .inr (4, [.long v_p1_factor, .int v_p1_power, .int v_p1_infinite]))]) rfl (by decide) (by decide) (by decide) rfl rfl hl.1 rfl (lv_room (Nat.le_of_ble_eq_true rfl)) d_Decimal_findNearest_128 ⟨Nat.zero_le _, Nat.zero_le _⟩ (fun r9 u9 H locs h9 hP hD hS => ?_)
        cases h9
        have hP : va_P (dC, dI) classes (WS_Decimal_findNearest h_this h_this_row h_p1 c_this_row v_first v_last a_row v_p1_factor v_p1_power v_p1_infinite) H := hP.sub [0, 1, 2] rfl
        have hD : va_D A (WS_Decimal_findNearest h_this h_this_row h_p1 c_this_row v_first v_last a_row v_p1_factor v_p1_power v_p1_infinite) := hD.sub [0, 1, 2] (by decide) rfl
        refine lv_isub hx hb d_Decimal_findNearest_131 ?_
        refine lv_sipush (v := 1075) hx hb d_Decimal_findNearest_132 (by decide) ?_
        refine lv_iload_n hx hb d_Decimal_findNearest_135 rfl (lv_at hl 2 rfl) ?_
        refine lv_iadd hx hb d_Decimal_findNearest_136 ?_
        refine va_mmin hx hb (hml.trans hl.1.symm) hown (ht _ q_150) (ht _ q_39) (ht _ q_40) (ht _ q_41) (Nat.le_of_ble_eq_true rfl) (Nat.le_of_ble_eq_true rfl) (Nat.zero_le _) (Nat.zero_le _) d_Decimal_findNearest_137 ?_
        refine W.eq (g2 := F0 m 140 ls (.int (imn ((54 : Int32) - r14) ((1075 : Int32) + y2)) :: .int (29 : Int32) :: [])) rfl ?_
        refine va_mmin hx hb (hml.trans hl.1.symm) hown (ht _ q_150) (ht _ q_39) (ht _ q_40) (ht _ q_41) (Nat.le_of_ble_eq_true rfl) (Nat.le_of_ble_eq_true rfl) (Nat.zero_le _) (Nat.zero_le _) d_Decimal_findNearest_140 ?_
        refine W.eq (g2 := F0 m 143 ls (.int (imn (29 : Int32) (imn ((54 : Int32) - r14) ((1075 : Int32) + y2))) :: [])) rfl ?_
        refine lv_topi (fun x15 e_x15 => ?_)
        have h := bd_g e_x15 h
        refine lv_istore (lv' := [(5, .int x15), (0, .ref h_this), (1, .ref h_p1), (2, .int y2), (3, .int y3), (4, .int y4)]) hx hb d_Decimal_findNearest_143 hl (by decide) rfl (fun ls hl => ?_)
        refine lv_aload_n hx hb d_Decimal_findNearest_145 rfl (lv_at hl 1 rfl) ?_
        refine lv_iload hx hb d_Decimal_findNearest_146 (lv_at hl 0 rfl) ?_
        obtain ⟨v16, v17, a18, hf, h⟩ := bi3_x h
        refine clVv (D := (dC, dI)) (n := 1) (As := [.int x15]) ⟨hx, hb, hml, hown, ht⟩ (c_Decimal_multiply l dC dI X h_this h_this_row c_this_row H.size v_first v_last a_row x15 (v16, v17, a18) hf) (gV q_151 q_152 q_153 q_113 q_154) (by decide +kernel) ⟨rfl, rfl, Nat.le_of_ble_eq_true rfl, Nat.le_of_ble_eq_true rfl⟩ hK hP hD hS hA hX [0, 1] [2] [0] rfl (wr := [(h_p1, .inr (4, [.long v_p1_factor, .int v_p1_power, .int v_p1_infinite]))]) rfl (by decide) (by decide) (by decide) rfl (va_recv hK hP (ci := 3) (q0 := 0) rfl rfl) rfl hl.1 rfl (lv_room (Nat.le_of_ble_eq_true rfl)) d_Decimal_findNearest_148 ⟨Nat.zero_le _, Nat.zero_le _⟩ (fun u9 H locs h9 hP hD hS => ?_)
        cases h9
        have hP : va_P (dC, dI) classes (WS_Decimal_findNearest h_this h_this_row h_p1 c_this_row v16 v17 a18 v_p1_factor v_p1_power v_p1_infinite) H := hP.sub [1, 2, 0] rfl
        have hD : va_D A (WS_Decimal_findNearest h_this h_this_row h_p1 c_this_row v16 v17 a18 v_p1_factor v_p1_power v_p1_infinite) := hD.sub [1, 2, 0] (by decide) rfl
        refine lv_iload_n hx hb d_Decimal_findNearest_151 rfl (lv_at hl 3 rfl) ?_
        refine lv_iload hx hb d_Decimal_findNearest_152 (lv_at hl 0 rfl) ?_
        refine lv_isub hx hb d_Decimal_findNearest_154 ?_
        refine lv_topi (fun x19 e_x19 => ?_)
        have h := bd_g e_x19 h
        refine lv_istore_n (lv' := [(2, .int x19), (5, .int x15), (0, .ref h_this), (1, .ref h_p1), (3, .int y3), (4, .int y4)]) hx hb d_Decimal_findNearest_155 rfl hl (by decide) rfl (fun ls hl => ?_)
        obtain ⟨x20, e_x20⟩ : ∃ y : Int32, y = y4 + (1 : Int32) := ⟨_, rfl⟩
        refine lv_iinc (v := x20) (lv' := [(4, .int x20), (2, .int x19), (5, .int x15), (0, .ref h_this), (1, .ref h_p1), (3, .int y3)]) hx hb d_Decimal_findNearest_156 hl (k := 5) rfl (by rw [e_x20]; rfl) (by decide) rfl (fun ls hl => ?_)
        have h := bd_g e_x20 h
        refine lv_goto (tgt := 94) hx hb d_Decimal_findNearest_159 (by decide) ?_
        exact hk94 v16 v17 a18 v_p1_factor v_p1_power v_p1_infinite x19 y3 x20 H locs ls hP hD hS (lv_sub hl [3, 4, 1, 5, 0] rfl) h
set_option maxHeartbeats 4000000 in
set_option maxRecDepth 100000 in
theorem s_Decimal_findNearest_94 {p : Program} {l : Launch} {e : Env} {s : State} {m : MethodId} {args : Array Value} {below : List Frame} {meth : Method} {c : Code} {dC : Nat → ClassId} {dI : Nat → Nat → Nat} {A : Nat → Prop} {X : SXT} {h_this : Nat} {h_this_row : Nat} {h_p1 : Nat} {c_this_row : ClassId} {res : Int32 × Int32 × (Nat → Int32) × Int64 × Int32 × Int32}  (cx : cxx p s m args meth c b_Decimal_findNearest 6 none R_Decimal) (hK : va_K (dC, dI) classes [(c_this_row, .int)] s) (hA : ∀ q, s.heap.size ≤ q → A q) (hX : SX X A s s.heap)  : ∀ n : Nat, ∀ (v_first : Int32) (v_last : Int32) (a_row : (Nat → Int32)) (v_p1_factor : Int64) (v_p1_power : Int32) (v_p1_infinite : Int32) (y2 : Int32) (y3 : Int32) (y4 : Int32) (H : Heap) (locs : List Loc) (ls : Array Slot), va_P (dC, dI) classes (WS_Decimal_findNearest h_this h_this_row h_p1 c_this_row v_first v_last a_row v_p1_factor v_p1_power v_p1_infinite) H → va_D A (WS_Decimal_findNearest h_this h_this_row h_p1 c_this_row v_first v_last a_row v_p1_factor v_p1_power v_p1_infinite) → va_S A s.heap H locs → lv_has ls 6 [(0, .ref h_this), (1, .ref h_p1), (2, .int y2), (3, .int y3), (4, .int y4)] → f_Decimal_findNearest_94 n v_first v_last a_row v_p1_factor v_p1_power v_p1_infinite y2 y3 y4 = some res → W p l e ({ frames := 5, cells := 0, slots := 0, locals := 120 }) s m args below meth c H locs 0 0 (MQ below (va_Qv (fun (u : Int32 × Int32 × (Nat → Int32) × Int64 × Int32 × Int32) => some u = some res) (gB (dC, dI) [(c_this_row, .int)] A (fun (u : Int32 × Int32 × (Nat → Int32) × Int64 × Int32 × Int32) => (WS_Decimal_findNearest h_this h_this_row h_p1 c_this_row u.1 u.2.1 u.2.2.1 u.2.2.2.1 u.2.2.2.2.1 u.2.2.2.2.2))) A) args s 0 0 A) (F0 m 94 ls []) := by
  intro n
  induction n with
  | zero =>
    intro v_first v_last a_row v_p1_factor v_p1_power v_p1_infinite y2 y3 y4 H locs ls hP hD hS hl h
    have h9 : (none : Option (Int32 × Int32 × (Nat → Int32) × Int64 × Int32 × Int32)) = some res := h
    cases h9
  | succ n ih =>
    intro v_first v_last a_row v_p1_factor v_p1_power v_p1_infinite y2 y3 y4 H locs ls hP hD hS hl h
    exact s_Decimal_findNearest_94b cx hK hA hX ih v_first v_last a_row v_p1_factor v_p1_power v_p1_infinite y2 y3 y4 H locs ls hP hD hS hl h
set_option maxHeartbeats 4000000 in
set_option maxRecDepth 100000 in
theorem s_Decimal_findNearest_91 {p : Program} {l : Launch} {e : Env} {s : State} {m : MethodId} {args : Array Value} {below : List Frame} {meth : Method} {c : Code} {dC : Nat → ClassId} {dI : Nat → Nat → Nat} {A : Nat → Prop} {X : SXT} {h_this : Nat} {h_this_row : Nat} {h_p1 : Nat} {c_this_row : ClassId} {res : Int32 × Int32 × (Nat → Int32) × Int64 × Int32 × Int32}  (cx : cxx p s m args meth c b_Decimal_findNearest 6 none R_Decimal) (hK : va_K (dC, dI) classes [(c_this_row, .int)] s) (hA : ∀ q, s.heap.size ≤ q → A q) (hX : SX X A s s.heap)  : ∀ (v_first : Int32) (v_last : Int32) (a_row : (Nat → Int32)) (v_p1_factor : Int64) (v_p1_power : Int32) (v_p1_infinite : Int32) (y2 : Int32) (y3 : Int32) (H : Heap) (locs : List Loc) (ls : Array Slot), va_P (dC, dI) classes (WS_Decimal_findNearest h_this h_this_row h_p1 c_this_row v_first v_last a_row v_p1_factor v_p1_power v_p1_infinite) H → va_D A (WS_Decimal_findNearest h_this h_this_row h_p1 c_this_row v_first v_last a_row v_p1_factor v_p1_power v_p1_infinite) → va_S A s.heap H locs → lv_has ls 6 [(0, .ref h_this), (1, .ref h_p1), (2, .int y2), (3, .int y3)] → f_Decimal_findNearest_91 v_first v_last a_row v_p1_factor v_p1_power v_p1_infinite y2 y3 = some res → W p l e ({ frames := 5, cells := 0, slots := 0, locals := 120 }) s m args below meth c H locs 0 0 (MQ below (va_Qv (fun (u : Int32 × Int32 × (Nat → Int32) × Int64 × Int32 × Int32) => some u = some res) (gB (dC, dI) [(c_this_row, .int)] A (fun (u : Int32 × Int32 × (Nat → Int32) × Int64 × Int32 × Int32) => (WS_Decimal_findNearest h_this h_this_row h_p1 c_this_row u.1 u.2.1 u.2.2.1 u.2.2.2.1 u.2.2.2.2.1 u.2.2.2.2.2))) A) args s 0 0 A) (F0 m 91 ls []) := by
  intro v_first v_last a_row v_p1_factor v_p1_power v_p1_infinite y2 y3 H locs ls hP hD hS hl h
  obtain ⟨hx, hb, hr, hml, hown, ht, hlk⟩ := id cx
  refine lv_iconst (v := 0) hx hb d_Decimal_findNearest_91 (by decide) ?_
  refine lv_istore (lv' := [(4, .int (0 : Int32)), (0, .ref h_this), (1, .ref h_p1), (2, .int y2), (3, .int y3)]) hx hb d_Decimal_findNearest_92 hl (by decide) rfl (fun ls hl => ?_)
  exact s_Decimal_findNearest_94 cx hK hA hX fu v_first v_last a_row v_p1_factor v_p1_power v_p1_infinite y2 y3 (0 : Int32) H locs ls hP hD hS (lv_sub hl [1, 2, 3, 4, 0] rfl) h
set_option maxHeartbeats 4000000 in
set_option maxRecDepth 100000 in
theorem s_Decimal_findNearest_74 {p : Program} {l : Launch} {e : Env} {s : State} {m : MethodId} {args : Array Value} {below : List Frame} {meth : Method} {c : Code} {dC : Nat → ClassId} {dI : Nat → Nat → Nat} {A : Nat → Prop} {X : SXT} {h_this : Nat} {h_this_row : Nat} {h_p1 : Nat} {c_this_row : ClassId} {res : Int32 × Int32 × (Nat → Int32) × Int64 × Int32 × Int32} {k7 : Int32 → Int32 → (Nat → Int32) → Int64 → Int32 → Int32 → Int32 → Int32 → Int32 → Option (Int32 × Int32 × (Nat → Int32) × Int64 × Int32 × Int32)} (cx : cxx p s m args meth c b_Decimal_findNearest 6 none R_Decimal) (hK : va_K (dC, dI) classes [(c_this_row, .int)] s) (hA : ∀ q, s.heap.size ≤ q → A q) (hX : SX X A s s.heap) (hk7 : ∀ (v_first : Int32) (v_last : Int32) (a_row : (Nat → Int32)) (v_p1_factor : Int64) (v_p1_power : Int32) (v_p1_infinite : Int32) (y2 : Int32) (y3 : Int32) (y4 : Int32) (H : Heap) (locs : List Loc) (ls : Array Slot), va_P (dC, dI) classes (WS_Decimal_findNearest h_this h_this_row h_p1 c_this_row v_first v_last a_row v_p1_factor v_p1_power v_p1_infinite) H → va_D A (WS_Decimal_findNearest h_this h_this_row h_p1 c_this_row v_first v_last a_row v_p1_factor v_p1_power v_p1_infinite) → va_S A s.heap H locs → lv_has ls 6 [(0, .ref h_this), (1, .ref h_p1), (2, .int y2), (3, .int y3), (4, .int y4)] → k7 v_first v_last a_row v_p1_factor v_p1_power v_p1_infinite y2 y3 y4 = some res → W p l e ({ frames := 5, cells := 0, slots := 0, locals := 120 }) s m args below meth c H locs 0 0 (MQ below (va_Qv (fun (u : Int32 × Int32 × (Nat → Int32) × Int64 × Int32 × Int32) => some u = some res) (gB (dC, dI) [(c_this_row, .int)] A (fun (u : Int32 × Int32 × (Nat → Int32) × Int64 × Int32 × Int32) => (WS_Decimal_findNearest h_this h_this_row h_p1 c_this_row u.1 u.2.1 u.2.2.1 u.2.2.2.1 u.2.2.2.2.1 u.2.2.2.2.2))) A) args s 0 0 A) (F0 m 7 ls [])) : ∀ (v_first : Int32) (v_last : Int32) (a_row : (Nat → Int32)) (v_p1_factor : Int64) (v_p1_power : Int32) (v_p1_infinite : Int32) (y2 : Int32) (y4 : Int32) (y5 : Int32) (z0 : Int32) (H : Heap) (locs : List Loc) (ls : Array Slot), va_P (dC, dI) classes (WS_Decimal_findNearest h_this h_this_row h_p1 c_this_row v_first v_last a_row v_p1_factor v_p1_power v_p1_infinite) H → va_D A (WS_Decimal_findNearest h_this h_this_row h_p1 c_this_row v_first v_last a_row v_p1_factor v_p1_power v_p1_infinite) → va_S A s.heap H locs → lv_has ls 6 [(0, .ref h_this), (1, .ref h_p1), (2, .int y2), (4, .int y4), (5, .int y5)] → f_Decimal_findNearest_74 k7 v_first v_last a_row v_p1_factor v_p1_power v_p1_infinite y2 y4 y5 z0 = some res → W p l e ({ frames := 5, cells := 0, slots := 0, locals := 120 }) s m args below meth c H locs 0 0 (MQ below (va_Qv (fun (u : Int32 × Int32 × (Nat → Int32) × Int64 × Int32 × Int32) => some u = some res) (gB (dC, dI) [(c_this_row, .int)] A (fun (u : Int32 × Int32 × (Nat → Int32) × Int64 × Int32 × Int32) => (WS_Decimal_findNearest h_this h_this_row h_p1 c_this_row u.1 u.2.1 u.2.2.1 u.2.2.2.1 u.2.2.2.2.1 u.2.2.2.2.2))) A) args s 0 0 A) (F0 m 74 ls [.int z0]) := by
  intro v_first v_last a_row v_p1_factor v_p1_power v_p1_infinite y2 y4 y5 z0 H locs ls hP hD hS hl h
  obtain ⟨hx, hb, hr, hml, hown, ht, hlk⟩ := id cx
  refine lv_istore_n (lv' := [(3, .int z0), (0, .ref h_this), (1, .ref h_p1), (2, .int y2), (4, .int y4), (5, .int y5)]) hx hb d_Decimal_findNearest_74 rfl hl (by decide) rfl (fun ls hl => ?_)
  refine lv_aload_n hx hb d_Decimal_findNearest_75 rfl (lv_at hl 1 rfl) ?_
  refine lv_iconst (v := 0) hx hb d_Decimal_findNearest_76 (by decide) ?_
  obtain ⟨v21, v22, a23, hf, h⟩ := bi3_x h
  refine clVv (D := (dC, dI)) (n := 1) (As := [.int (0 : Int32)]) ⟨hx, hb, hml, hown, ht⟩ (c_Decimal_cutBelow l dC dI X h_this h_this_row c_this_row H.size v_first v_last a_row (0 : Int32) (v21, v22, a23) hf) (gV q_155 q_156 q_157 q_113 q_158) (by decide +kernel) ⟨rfl, rfl, Nat.le_of_ble_eq_true rfl, Nat.le_of_ble_eq_true rfl⟩ hK hP hD hS hA hX [0, 1] [2] [0] rfl (wr := [(h_p1, .inr (4, [.long v_p1_factor, .int v_p1_power, .int v_p1_infinite]))]) rfl (by decide) (by decide) (by decide) rfl (va_recv hK hP (ci := 3) (q0 := 0) rfl rfl) rfl hl.1 rfl (lv_room (Nat.le_of_ble_eq_true rfl)) d_Decimal_findNearest_77 ⟨Nat.zero_le _, Nat.zero_le _⟩ (fun u9 H locs h9 hP hD hS => ?_)
  cases h9
  have hP : va_P (dC, dI) classes (WS_Decimal_findNearest h_this h_this_row h_p1 c_this_row v21 v22 a23 v_p1_factor v_p1_power v_p1_infinite) H := hP.sub [1, 2, 0] rfl
  have hD : va_D A (WS_Decimal_findNearest h_this h_this_row h_p1 c_this_row v21 v22 a23 v_p1_factor v_p1_power v_p1_infinite) := hD.sub [1, 2, 0] (by decide) rfl
  refine lv_iload_n hx hb d_Decimal_findNearest_80 rfl (lv_at hl 3 rfl) ?_
  refine lv_iload hx hb d_Decimal_findNearest_81 (lv_at hl 5 rfl) ?_
  refine lv_iadd hx hb d_Decimal_findNearest_83 ?_
  refine lv_topi (fun x24 e_x24 => ?_)
  have h := bd_g e_x24 h
  refine lv_istore_n (lv' := [(2, .int x24), (3, .int z0), (0, .ref h_this), (1, .ref h_p1), (4, .int y4), (5, .int y5)]) hx hb d_Decimal_findNearest_84 rfl hl (by decide) rfl (fun ls hl => ?_)
  obtain ⟨x25, e_x25⟩ : ∃ y : Int32, y = y4 + (1 : Int32) := ⟨_, rfl⟩
  refine lv_iinc (v := x25) (lv' := [(4, .int x25), (2, .int x24), (3, .int z0), (0, .ref h_this), (1, .ref h_p1), (5, .int y5)]) hx hb d_Decimal_findNearest_85 hl (k := 4) rfl (by rw [e_x25]; rfl) (by decide) rfl (fun ls hl => ?_)
  have h := bd_g e_x25 h
  refine lv_goto (tgt := 7) hx hb d_Decimal_findNearest_88 (by decide) ?_
  exact hk7 v21 v22 a23 v_p1_factor v_p1_power v_p1_infinite x24 z0 x25 H locs ls hP hD hS (lv_sub hl [3, 4, 1, 2, 0] rfl) h
set_option maxHeartbeats 4000000 in
set_option maxRecDepth 100000 in
theorem s_Decimal_findNearest_69 {p : Program} {l : Launch} {e : Env} {s : State} {m : MethodId} {args : Array Value} {below : List Frame} {meth : Method} {c : Code} {dC : Nat → ClassId} {dI : Nat → Nat → Nat} {A : Nat → Prop} {X : SXT} {h_this : Nat} {h_this_row : Nat} {h_p1 : Nat} {c_this_row : ClassId} {res : Int32 × Int32 × (Nat → Int32) × Int64 × Int32 × Int32} {k7 : Int32 → Int32 → (Nat → Int32) → Int64 → Int32 → Int32 → Int32 → Int32 → Int32 → Option (Int32 × Int32 × (Nat → Int32) × Int64 × Int32 × Int32)} (cx : cxx p s m args meth c b_Decimal_findNearest 6 none R_Decimal) (hK : va_K (dC, dI) classes [(c_this_row, .int)] s) (hA : ∀ q, s.heap.size ≤ q → A q) (hX : SX X A s s.heap) (hk7 : ∀ (v_first : Int32) (v_last : Int32) (a_row : (Nat → Int32)) (v_p1_factor : Int64) (v_p1_power : Int32) (v_p1_infinite : Int32) (y2 : Int32) (y3 : Int32) (y4 : Int32) (H : Heap) (locs : List Loc) (ls : Array Slot), va_P (dC, dI) classes (WS_Decimal_findNearest h_this h_this_row h_p1 c_this_row v_first v_last a_row v_p1_factor v_p1_power v_p1_infinite) H → va_D A (WS_Decimal_findNearest h_this h_this_row h_p1 c_this_row v_first v_last a_row v_p1_factor v_p1_power v_p1_infinite) → va_S A s.heap H locs → lv_has ls 6 [(0, .ref h_this), (1, .ref h_p1), (2, .int y2), (3, .int y3), (4, .int y4)] → k7 v_first v_last a_row v_p1_factor v_p1_power v_p1_infinite y2 y3 y4 = some res → W p l e ({ frames := 5, cells := 0, slots := 0, locals := 120 }) s m args below meth c H locs 0 0 (MQ below (va_Qv (fun (u : Int32 × Int32 × (Nat → Int32) × Int64 × Int32 × Int32) => some u = some res) (gB (dC, dI) [(c_this_row, .int)] A (fun (u : Int32 × Int32 × (Nat → Int32) × Int64 × Int32 × Int32) => (WS_Decimal_findNearest h_this h_this_row h_p1 c_this_row u.1 u.2.1 u.2.2.1 u.2.2.2.1 u.2.2.2.2.1 u.2.2.2.2.2))) A) args s 0 0 A) (F0 m 7 ls [])) : ∀ (v_first : Int32) (v_last : Int32) (a_row : (Nat → Int32)) (v_p1_factor : Int64) (v_p1_power : Int32) (v_p1_infinite : Int32) (y2 : Int32) (y4 : Int32) (y5 : Int32) (H : Heap) (locs : List Loc) (ls : Array Slot), va_P (dC, dI) classes (WS_Decimal_findNearest h_this h_this_row h_p1 c_this_row v_first v_last a_row v_p1_factor v_p1_power v_p1_infinite) H → va_D A (WS_Decimal_findNearest h_this h_this_row h_p1 c_this_row v_first v_last a_row v_p1_factor v_p1_power v_p1_infinite) → va_S A s.heap H locs → lv_has ls 6 [(0, .ref h_this), (1, .ref h_p1), (2, .int y2), (4, .int y4), (5, .int y5)] → f_Decimal_findNearest_69 k7 v_first v_last a_row v_p1_factor v_p1_power v_p1_infinite y2 y4 y5 = some res → W p l e ({ frames := 5, cells := 0, slots := 0, locals := 120 }) s m args below meth c H locs 0 0 (MQ below (va_Qv (fun (u : Int32 × Int32 × (Nat → Int32) × Int64 × Int32 × Int32) => some u = some res) (gB (dC, dI) [(c_this_row, .int)] A (fun (u : Int32 × Int32 × (Nat → Int32) × Int64 × Int32 × Int32) => (WS_Decimal_findNearest h_this h_this_row h_p1 c_this_row u.1 u.2.1 u.2.2.1 u.2.2.2.1 u.2.2.2.2.1 u.2.2.2.2.2))) A) args s 0 0 A) (F0 m 69 ls []) := by
  intro v_first v_last a_row v_p1_factor v_p1_power v_p1_infinite y2 y4 y5 H locs ls hP hD hS hl h
  obtain ⟨hx, hb, hr, hml, hown, ht, hlk⟩ := id cx
  refine lv_iconst (v := 1) hx hb d_Decimal_findNearest_69 (by decide) ?_
  refine lv_goto (tgt := 74) hx hb d_Decimal_findNearest_70 (by decide) ?_
  exact s_Decimal_findNearest_74 cx hK hA hX hk7 v_first v_last a_row v_p1_factor v_p1_power v_p1_infinite y2 y4 y5 (1 : Int32) H locs ls hP hD hS (lv_sub hl [0, 1, 2, 3, 4] rfl) h
set_option maxHeartbeats 4000000 in
set_option maxRecDepth 100000 in
theorem s_Decimal_findNearest_49 {p : Program} {l : Launch} {e : Env} {s : State} {m : MethodId} {args : Array Value} {below : List Frame} {meth : Method} {c : Code} {dC : Nat → ClassId} {dI : Nat → Nat → Nat} {A : Nat → Prop} {X : SXT} {h_this : Nat} {h_this_row : Nat} {h_p1 : Nat} {c_this_row : ClassId} {res : Int32 × Int32 × (Nat → Int32) × Int64 × Int32 × Int32} {k7 : Int32 → Int32 → (Nat → Int32) → Int64 → Int32 → Int32 → Int32 → Int32 → Int32 → Option (Int32 × Int32 × (Nat → Int32) × Int64 × Int32 × Int32)} (cx : cxx p s m args meth c b_Decimal_findNearest 6 none R_Decimal) (hK : va_K (dC, dI) classes [(c_this_row, .int)] s) (hA : ∀ q, s.heap.size ≤ q → A q) (hX : SX X A s s.heap) (hk7 : ∀ (v_first : Int32) (v_last : Int32) (a_row : (Nat → Int32)) (v_p1_factor : Int64) (v_p1_power : Int32) (v_p1_infinite : Int32) (y2 : Int32) (y3 : Int32) (y4 : Int32) (H : Heap) (locs : List Loc) (ls : Array Slot), va_P (dC, dI) classes (WS_Decimal_findNearest h_this h_this_row h_p1 c_this_row v_first v_last a_row v_p1_factor v_p1_power v_p1_infinite) H → va_D A (WS_Decimal_findNearest h_this h_this_row h_p1 c_this_row v_first v_last a_row v_p1_factor v_p1_power v_p1_infinite) → va_S A s.heap H locs → lv_has ls 6 [(0, .ref h_this), (1, .ref h_p1), (2, .int y2), (3, .int y3), (4, .int y4)] → k7 v_first v_last a_row v_p1_factor v_p1_power v_p1_infinite y2 y3 y4 = some res → W p l e ({ frames := 5, cells := 0, slots := 0, locals := 120 }) s m args below meth c H locs 0 0 (MQ below (va_Qv (fun (u : Int32 × Int32 × (Nat → Int32) × Int64 × Int32 × Int32) => some u = some res) (gB (dC, dI) [(c_this_row, .int)] A (fun (u : Int32 × Int32 × (Nat → Int32) × Int64 × Int32 × Int32) => (WS_Decimal_findNearest h_this h_this_row h_p1 c_this_row u.1 u.2.1 u.2.2.1 u.2.2.2.1 u.2.2.2.2.1 u.2.2.2.2.2))) A) args s 0 0 A) (F0 m 7 ls [])) : ∀ (v_first : Int32) (v_last : Int32) (a_row : (Nat → Int32)) (v_p1_factor : Int64) (v_p1_power : Int32) (v_p1_infinite : Int32) (y2 : Int32) (y3 : Int32) (y4 : Int32) (z0 : Int32) (H : Heap) (locs : List Loc) (ls : Array Slot), va_P (dC, dI) classes (WS_Decimal_findNearest h_this h_this_row h_p1 c_this_row v_first v_last a_row v_p1_factor v_p1_power v_p1_infinite) H → va_D A (WS_Decimal_findNearest h_this h_this_row h_p1 c_this_row v_first v_last a_row v_p1_factor v_p1_power v_p1_infinite) → va_S A s.heap H locs → lv_has ls 6 [(0, .ref h_this), (1, .ref h_p1), (2, .int y2), (3, .int y3), (4, .int y4)] → f_Decimal_findNearest_49 k7 v_first v_last a_row v_p1_factor v_p1_power v_p1_infinite y2 y3 y4 z0 = some res → W p l e ({ frames := 5, cells := 0, slots := 0, locals := 120 }) s m args below meth c H locs 0 0 (MQ below (va_Qv (fun (u : Int32 × Int32 × (Nat → Int32) × Int64 × Int32 × Int32) => some u = some res) (gB (dC, dI) [(c_this_row, .int)] A (fun (u : Int32 × Int32 × (Nat → Int32) × Int64 × Int32 × Int32) => (WS_Decimal_findNearest h_this h_this_row h_p1 c_this_row u.1 u.2.1 u.2.2.1 u.2.2.2.1 u.2.2.2.2.1 u.2.2.2.2.2))) A) args s 0 0 A) (F0 m 49 ls [.int z0]) := by
  intro v_first v_last a_row v_p1_factor v_p1_power v_p1_infinite y2 y3 y4 z0 H locs ls hP hD hS hl h
  obtain ⟨hx, hb, hr, hml, hown, ht, hlk⟩ := id cx
  refine lv_istore (lv' := [(5, .int z0), (0, .ref h_this), (1, .ref h_p1), (2, .int y2), (3, .int y3), (4, .int y4)]) hx hb d_Decimal_findNearest_49 hl (by decide) rfl (fun ls hl => ?_)
  refine lv_aload_n hx hb d_Decimal_findNearest_51 rfl (lv_at hl 1 rfl) ?_
  refine lv_iload hx hb d_Decimal_findNearest_52 (lv_at hl 0 rfl) ?_
  obtain ⟨v26, v27, a28, hf, h⟩ := bi3_x h
  refine clVv (D := (dC, dI)) (n := 1) (As := [.int z0]) ⟨hx, hb, hml, hown, ht⟩ (c_Decimal_divide l dC dI X h_this h_this_row c_this_row H.size v_first v_last a_row z0 (v26, v27, a28) hf) (gV q_159 q_160 q_161 q_113 q_162) (by decide +kernel) ⟨rfl, rfl, Nat.le_of_ble_eq_true rfl, Nat.le_of_ble_eq_true rfl⟩ hK hP hD hS hA hX [0, 1] [2] [0] rfl (wr := [(h_p1, .inr (4, [.long v_p1_factor, .int v_p1_power, .int v_p1_infinite]))]) rfl (by decide) (by decide) (by decide) rfl (va_recv hK hP (ci := 3) (q0 := 0) rfl rfl) rfl hl.1 rfl (lv_room (Nat.le_of_ble_eq_true rfl)) d_Decimal_findNearest_54 ⟨Nat.zero_le _, Nat.zero_le _⟩ (fun u9 H locs h9 hP hD hS => ?_)
  cases h9
  have hP : va_P (dC, dI) classes (WS_Decimal_findNearest h_this h_this_row h_p1 c_this_row v26 v27 a28 v_p1_factor v_p1_power v_p1_infinite) H := hP.sub [1, 2, 0] rfl
  have hD : va_D A (WS_Decimal_findNearest h_this h_this_row h_p1 c_this_row v26 v27 a28 v_p1_factor v_p1_power v_p1_infinite) := hD.sub [1, 2, 0] (by decide) rfl
  refine lv_iload_n hx hb d_Decimal_findNearest_57 rfl (lv_at hl 4 rfl) ?_
  refine lv_if_ne (tgt := 69) hx hb d_Decimal_findNearest_58 (by decide) (fun c29 => ?_) (fun c29 => ?_)
  · have h := if_f c29 h
    exact s_Decimal_findNearest_69 cx hK hA hX hk7 v26 v27 a28 v_p1_factor v_p1_power v_p1_infinite y2 y4 z0 H locs ls hP hD hS (lv_sub hl [1, 2, 3, 5, 0] rfl) h
  · have h := if_t c29 h
    refine lv_aload_n hx hb d_Decimal_findNearest_61 rfl (lv_at hl 1 rfl) ?_
    refine lv_iconst (v := 0) hx hb d_Decimal_findNearest_62 (by decide) ?_
    obtain ⟨r30, hf, h⟩ := bi1_x h
    refine clVi (D := (dC, dI)) (n := 1) (As := [.int (0 : Int32)]) ⟨hx, hb, hml, hown, ht⟩ (c_Decimal_hasBelow l dC dI X h_this h_this_row c_this_row H.size v26 v27 a28 (0 : Int32) r30 hf) (gV q_146 q_147 q_148 q_113 q_149) (by decide +kernel) ⟨rfl, rfl, Nat.le_of_ble_eq_true rfl, Nat.le_of_ble_eq_true rfl⟩ hK hP hD hS hA hX [0, 1] [2] [0] rfl (wr := [(h_p1, .inr (4, [.long v_p1_factor, .int v_p1_power, .int v_p1_infinite]))]) rfl (by decide) (by decide) (by decide) rfl (va_recv hK hP (ci := 3) (q0 := 0) rfl rfl) rfl hl.1 rfl (lv_room (Nat.le_of_ble_eq_true rfl)) d_Decimal_findNearest_63 ⟨Nat.zero_le _, Nat.zero_le _⟩ (fun r9 u9 H locs h9 hP hD hS => ?_)
    cases h9
    have hP : va_P (dC, dI) classes (WS_Decimal_findNearest h_this h_this_row h_p1 c_this_row v26 v27 a28 v_p1_factor v_p1_power v_p1_infinite) H := hP.sub [1, 2, 0] rfl
    have hD : va_D A (WS_Decimal_findNearest h_this h_this_row h_p1 c_this_row v26 v27 a28 v_p1_factor v_p1_power v_p1_infinite) := hD.sub [1, 2, 0] (by decide) rfl
    refine lv_if_eq (tgt := 73) hx hb d_Decimal_findNearest_66 (by decide) (fun c31 => ?_) (fun c31 => ?_)
    · have h := if_t c31 h
      refine lv_iconst (v := 0) hx hb d_Decimal_findNearest_73 (by decide) ?_
      exact s_Decimal_findNearest_74 cx hK hA hX hk7 v26 v27 a28 v_p1_factor v_p1_power v_p1_infinite y2 y4 z0 (0 : Int32) H locs ls hP hD hS (lv_sub hl [1, 2, 3, 5, 0] rfl) h
    · have h := if_f c31 h
      exact s_Decimal_findNearest_69 cx hK hA hX hk7 v26 v27 a28 v_p1_factor v_p1_power v_p1_infinite y2 y4 z0 H locs ls hP hD hS (lv_sub hl [1, 2, 3, 5, 0] rfl) h
set_option maxHeartbeats 4000000 in
set_option maxRecDepth 100000 in
theorem s_Decimal_findNearest_7b {p : Program} {l : Launch} {e : Env} {s : State} {m : MethodId} {args : Array Value} {below : List Frame} {meth : Method} {c : Code} {dC : Nat → ClassId} {dI : Nat → Nat → Nat} {A : Nat → Prop} {X : SXT} {h_this : Nat} {h_this_row : Nat} {h_p1 : Nat} {c_this_row : ClassId} {res : Int32 × Int32 × (Nat → Int32) × Int64 × Int32 × Int32} {k7 : Int32 → Int32 → (Nat → Int32) → Int64 → Int32 → Int32 → Int32 → Int32 → Int32 → Option (Int32 × Int32 × (Nat → Int32) × Int64 × Int32 × Int32)} (cx : cxx p s m args meth c b_Decimal_findNearest 6 none R_Decimal) (hK : va_K (dC, dI) classes [(c_this_row, .int)] s) (hA : ∀ q, s.heap.size ≤ q → A q) (hX : SX X A s s.heap) (hk7 : ∀ (v_first : Int32) (v_last : Int32) (a_row : (Nat → Int32)) (v_p1_factor : Int64) (v_p1_power : Int32) (v_p1_infinite : Int32) (y2 : Int32) (y3 : Int32) (y4 : Int32) (H : Heap) (locs : List Loc) (ls : Array Slot), va_P (dC, dI) classes (WS_Decimal_findNearest h_this h_this_row h_p1 c_this_row v_first v_last a_row v_p1_factor v_p1_power v_p1_infinite) H → va_D A (WS_Decimal_findNearest h_this h_this_row h_p1 c_this_row v_first v_last a_row v_p1_factor v_p1_power v_p1_infinite) → va_S A s.heap H locs → lv_has ls 6 [(0, .ref h_this), (1, .ref h_p1), (2, .int y2), (3, .int y3), (4, .int y4)] → k7 v_first v_last a_row v_p1_factor v_p1_power v_p1_infinite y2 y3 y4 = some res → W p l e ({ frames := 5, cells := 0, slots := 0, locals := 120 }) s m args below meth c H locs 0 0 (MQ below (va_Qv (fun (u : Int32 × Int32 × (Nat → Int32) × Int64 × Int32 × Int32) => some u = some res) (gB (dC, dI) [(c_this_row, .int)] A (fun (u : Int32 × Int32 × (Nat → Int32) × Int64 × Int32 × Int32) => (WS_Decimal_findNearest h_this h_this_row h_p1 c_this_row u.1 u.2.1 u.2.2.1 u.2.2.2.1 u.2.2.2.2.1 u.2.2.2.2.2))) A) args s 0 0 A) (F0 m 7 ls [])) : ∀ (v_first : Int32) (v_last : Int32) (a_row : (Nat → Int32)) (v_p1_factor : Int64) (v_p1_power : Int32) (v_p1_infinite : Int32) (y2 : Int32) (y3 : Int32) (y4 : Int32) (H : Heap) (locs : List Loc) (ls : Array Slot), va_P (dC, dI) classes (WS_Decimal_findNearest h_this h_this_row h_p1 c_this_row v_first v_last a_row v_p1_factor v_p1_power v_p1_infinite) H → va_D A (WS_Decimal_findNearest h_this h_this_row h_p1 c_this_row v_first v_last a_row v_p1_factor v_p1_power v_p1_infinite) → va_S A s.heap H locs → lv_has ls 6 [(0, .ref h_this), (1, .ref h_p1), (2, .int y2), (3, .int y3), (4, .int y4)] → f_Decimal_findNearest_7b k7 v_first v_last a_row v_p1_factor v_p1_power v_p1_infinite y2 y3 y4 = some res → W p l e ({ frames := 5, cells := 0, slots := 0, locals := 120 }) s m args below meth c H locs 0 0 (MQ below (va_Qv (fun (u : Int32 × Int32 × (Nat → Int32) × Int64 × Int32 × Int32) => some u = some res) (gB (dC, dI) [(c_this_row, .int)] A (fun (u : Int32 × Int32 × (Nat → Int32) × Int64 × Int32 × Int32) => (WS_Decimal_findNearest h_this h_this_row h_p1 c_this_row u.1 u.2.1 u.2.2.1 u.2.2.2.1 u.2.2.2.2.1 u.2.2.2.2.2))) A) args s 0 0 A) (F0 m 7 ls []) := by
  intro v_first v_last a_row v_p1_factor v_p1_power v_p1_infinite y2 y3 y4 H locs ls hP hD hS hl h
  obtain ⟨hx, hb, hr, hml, hown, ht, hlk⟩ := id cx
  refine lv_iload hx hb d_Decimal_findNearest_7 (lv_at hl 4 rfl) ?_
  refine lv_bipush (v := 64) hx hb d_Decimal_findNearest_9 (by decide) ?_
  refine lv_icmp_ge (tgt := 91) hx hb d_Decimal_findNearest_11 (by decide) (fun c32 => ?_) (fun c32 => ?_)
  · have h := if_t c32 h
    exact s_Decimal_findNearest_91 cx hK hA hX v_first v_last a_row v_p1_factor v_p1_power v_p1_infinite y2 y3 H locs ls hP hD hS (lv_sub hl [0, 1, 2, 3] rfl) h
  · have h := if_f c32 h
    refine lv_aload_n hx hb d_Decimal_findNearest_14 rfl (lv_at hl 0 rfl) ?_
    refine va_get (D := (dC, dI)) (ci := 3) (v := .int v_first) (C := R_Decimal) (T := F_Decimal) (N := 3) hx hb ht i_Decimal hown hK hP 0 rfl rfl 1 (by decide) (ht _ q_109) (fun _ h9 => h9) rfl d_Decimal_findNearest_15 ?_
    refine lv_bipush (v := 34) hx hb d_Decimal_findNearest_18 (by decide) ?_
    refine lv_icmp_ge (tgt := 91) hx hb d_Decimal_findNearest_20 (by decide) (fun c33 => ?_) (fun c33 => ?_)
    · have h := if_t c33 h
      exact s_Decimal_findNearest_91 cx hK hA hX v_first v_last a_row v_p1_factor v_p1_power v_p1_infinite y2 y3 H locs ls hP hD hS (lv_sub hl [0, 1, 2, 3] rfl) h
    · have h := if_f c33 h
      refine lv_aload_n hx hb d_Decimal_findNearest_23 rfl (lv_at hl 0 rfl) ?_
      refine va_get (D := (dC, dI)) (ci := 3) (v := .int v_first) (C := R_Decimal) (T := F_Decimal) (N := 3) hx hb ht i_Decimal hown hK hP 0 rfl rfl 1 (by decide) (ht _ q_109) (fun _ h9 => h9) rfl d_Decimal_findNearest_24 ?_
      refine lv_bipush (v := 33) hx hb d_Decimal_findNearest_27 (by decide) ?_
      refine lv_icmp_ge (tgt := 37) hx hb d_Decimal_findNearest_29 (by decide) (fun c34 => ?_) (fun c34 => ?_)
      · have h := if_t c34 h
        refine lv_aload_n hx hb d_Decimal_findNearest_37 rfl (lv_at hl 0 rfl) ?_
        refine lv_aload_n hx hb d_Decimal_findNearest_38 rfl (lv_at hl 0 rfl) ?_
        refine va_get (D := (dC, dI)) (ci := 3) (v := .int v_first) (C := R_Decimal) (T := F_Decimal) (N := 3) hx hb ht i_Decimal hown hK hP 0 rfl rfl 1 (by decide) (ht _ q_109) (fun _ h9 => h9) rfl d_Decimal_findNearest_39 ?_
        obtain ⟨r35, hf, h⟩ := bi1_x h
        refine clVi (D := (dC, dI)) (n := 1) (As := [.int v_first]) ⟨hx, hb, hml, hown, ht⟩ (c_Decimal_limb l dC dI X h_this h_this_row c_this_row H.size v_first v_last a_row v_first r35 hf) (gV q_116 q_117 q_118 q_113 q_119) (by decide +kernel) ⟨rfl, rfl, Nat.le_of_ble_eq_true rfl, Nat.le_of_ble_eq_true rfl⟩ hK hP hD hS hA hX [0, 1] [2] [0] rfl (wr := [(h_p1, .inr (4, [.long v_p1_factor, .int v_p1_power, .int v_p1_infinite]))]) rfl (by decide) (by decide) (by decide) rfl (va_recv hK hP (ci := 3) (q0 := 0) rfl rfl) rfl hl.1 rfl (lv_room (Nat.le_of_ble_eq_true rfl)) d_Decimal_findNearest_42 ⟨Nat.zero_le _, Nat.zero_le _⟩ (fun r9 u9 H locs h9 hP hD hS => ?_)
        cases h9
        have hP : va_P (dC, dI) classes (WS_Decimal_findNearest h_this h_this_row h_p1 c_this_row v_first v_last a_row v_p1_factor v_p1_power v_p1_infinite) H := hP.sub [1, 2, 0] rfl
        have hD : va_D A (WS_Decimal_findNearest h_this h_this_row h_p1 c_this_row v_first v_last a_row v_p1_factor v_p1_power v_p1_infinite) := hD.sub [1, 2, 0] (by decide) rfl
        refine lv_i2l (v := r35.toInt64) hx hb d_Decimal_findNearest_45 rfl ?_
        obtain ⟨r36, hf, h⟩ := bi1_x h
        refine clNi (D := (dC, dI)) (n := 1) (As := [.long (r35.toInt64)]) ⟨hx, hb, hml, hown, ht⟩ (c_N_bitsOf l dC dI X  H.size (r35.toInt64) r36 hf) (hX.nest 1 rfl) (gN q_85 q_86 q_87) (by decide +kernel) ⟨rfl, rfl, Nat.le_of_ble_eq_true rfl, Nat.le_of_ble_eq_true rfl⟩ hK hP hD hS hA hX [] [0, 1, 2] [] rfl (wr := [(h_this, .inr (3, [.ref h_this_row, .int v_first, .int v_last])), (h_this_row, .inl (c_this_row, 208, .inl a_row)), (h_p1, .inr (4, [.long v_p1_factor, .int v_p1_power, .int v_p1_infinite]))]) rfl (by decide) (by decide) (by decide) rfl rfl hl.1 rfl (lv_room (Nat.le_of_ble_eq_true rfl)) d_Decimal_findNearest_46 ⟨Nat.zero_le _, Nat.zero_le _⟩ (fun r9 u9 H locs h9 hP hD hS => ?_)
        cases h9
        have hP : va_P (dC, dI) classes (WS_Decimal_findNearest h_this h_this_row h_p1 c_this_row v_first v_last a_row v_p1_factor v_p1_power v_p1_infinite) H := hP.sub [0, 1, 2] rfl
        have hD : va_D A (WS_Decimal_findNearest h_this h_this_row h_p1 c_this_row v_first v_last a_row v_p1_factor v_p1_power v_p1_infinite) := hD.sub [0, 1, 2] (by decide) rfl
        exact s_Decimal_findNearest_49 cx hK hA hX hk7 v_first v_last a_row v_p1_factor v_p1_power v_p1_infinite y2 y3 y4 r36 H locs ls hP hD hS (lv_sub hl [0, 1, 2, 3, 4] rfl) h
      · have h := if_f c34 h
        refine lv_bipush (v := 29) hx hb d_Decimal_findNearest_32 (by decide) ?_
        refine lv_goto (tgt := 49) hx hb d_Decimal_findNearest_34 (by decide) ?_
        exact s_Decimal_findNearest_49 cx hK hA hX hk7 v_first v_last a_row v_p1_factor v_p1_power v_p1_infinite y2 y3 y4 (29 : Int32) H locs ls hP hD hS (lv_sub hl [0, 1, 2, 3, 4] rfl) h
set_option maxHeartbeats 4000000 in
set_option maxRecDepth 100000 in
theorem s_Decimal_findNearest_7 {p : Program} {l : Launch} {e : Env} {s : State} {m : MethodId} {args : Array Value} {below : List Frame} {meth : Method} {c : Code} {dC : Nat → ClassId} {dI : Nat → Nat → Nat} {A : Nat → Prop} {X : SXT} {h_this : Nat} {h_this_row : Nat} {h_p1 : Nat} {c_this_row : ClassId} {res : Int32 × Int32 × (Nat → Int32) × Int64 × Int32 × Int32}  (cx : cxx p s m args meth c b_Decimal_findNearest 6 none R_Decimal) (hK : va_K (dC, dI) classes [(c_this_row, .int)] s) (hA : ∀ q, s.heap.size ≤ q → A q) (hX : SX X A s s.heap)  : ∀ n : Nat, ∀ (v_first : Int32) (v_last : Int32) (a_row : (Nat → Int32)) (v_p1_factor : Int64) (v_p1_power : Int32) (v_p1_infinite : Int32) (y2 : Int32) (y3 : Int32) (y4 : Int32) (H : Heap) (locs : List Loc) (ls : Array Slot), va_P (dC, dI) classes (WS_Decimal_findNearest h_this h_this_row h_p1 c_this_row v_first v_last a_row v_p1_factor v_p1_power v_p1_infinite) H → va_D A (WS_Decimal_findNearest h_this h_this_row h_p1 c_this_row v_first v_last a_row v_p1_factor v_p1_power v_p1_infinite) → va_S A s.heap H locs → lv_has ls 6 [(0, .ref h_this), (1, .ref h_p1), (2, .int y2), (3, .int y3), (4, .int y4)] → f_Decimal_findNearest_7 n v_first v_last a_row v_p1_factor v_p1_power v_p1_infinite y2 y3 y4 = some res → W p l e ({ frames := 5, cells := 0, slots := 0, locals := 120 }) s m args below meth c H locs 0 0 (MQ below (va_Qv (fun (u : Int32 × Int32 × (Nat → Int32) × Int64 × Int32 × Int32) => some u = some res) (gB (dC, dI) [(c_this_row, .int)] A (fun (u : Int32 × Int32 × (Nat → Int32) × Int64 × Int32 × Int32) => (WS_Decimal_findNearest h_this h_this_row h_p1 c_this_row u.1 u.2.1 u.2.2.1 u.2.2.2.1 u.2.2.2.2.1 u.2.2.2.2.2))) A) args s 0 0 A) (F0 m 7 ls []) := by
  intro n
  induction n with
  | zero =>
    intro v_first v_last a_row v_p1_factor v_p1_power v_p1_infinite y2 y3 y4 H locs ls hP hD hS hl h
    have h9 : (none : Option (Int32 × Int32 × (Nat → Int32) × Int64 × Int32 × Int32)) = some res := h
    cases h9
  | succ n ih =>
    intro v_first v_last a_row v_p1_factor v_p1_power v_p1_infinite y2 y3 y4 H locs ls hP hD hS hl h
    exact s_Decimal_findNearest_7b cx hK hA hX ih v_first v_last a_row v_p1_factor v_p1_power v_p1_infinite y2 y3 y4 H locs ls hP hD hS hl h
set_option maxHeartbeats 4000000 in
set_option maxRecDepth 100000 in
theorem s_Decimal_findNearest_e {p : Program} {l : Launch} {e : Env} {s : State} {m : MethodId} {args : Array Value} {below : List Frame} {meth : Method} {c : Code} {dC : Nat → ClassId} {dI : Nat → Nat → Nat} {A : Nat → Prop} {X : SXT} {h_this : Nat} {h_this_row : Nat} {h_p1 : Nat} {c_this_row : ClassId} {res : Int32 × Int32 × (Nat → Int32) × Int64 × Int32 × Int32} (cx : cxx p s m args meth c b_Decimal_findNearest 6 none R_Decimal) (hK : va_K (dC, dI) classes [(c_this_row, .int)] s) (hA : ∀ q, s.heap.size ≤ q → A q) (hX : SX X A s s.heap) : ∀ (v_first : Int32) (v_last : Int32) (a_row : (Nat → Int32)) (v_p1_factor : Int64) (v_p1_power : Int32) (v_p1_infinite : Int32) (H : Heap) (locs : List Loc) (ls : Array Slot), va_P (dC, dI) classes (WS_Decimal_findNearest h_this h_this_row h_p1 c_this_row v_first v_last a_row v_p1_factor v_p1_power v_p1_infinite) H → va_D A (WS_Decimal_findNearest h_this h_this_row h_p1 c_this_row v_first v_last a_row v_p1_factor v_p1_power v_p1_infinite) → va_S A s.heap H locs → lv_has ls 6 [(0, .ref h_this), (1, .ref h_p1)] → f_Decimal_findNearest v_first v_last a_row v_p1_factor v_p1_power v_p1_infinite = some res → W p l e ({ frames := 5, cells := 0, slots := 0, locals := 120 }) s m args below meth c H locs 0 0 (MQ below (va_Qv (fun (u : Int32 × Int32 × (Nat → Int32) × Int64 × Int32 × Int32) => some u = some res) (gB (dC, dI) [(c_this_row, .int)] A (fun (u : Int32 × Int32 × (Nat → Int32) × Int64 × Int32 × Int32) => (WS_Decimal_findNearest h_this h_this_row h_p1 c_this_row u.1 u.2.1 u.2.2.1 u.2.2.2.1 u.2.2.2.2.1 u.2.2.2.2.2))) A) args s 0 0 A) (F0 m 0 ls []) := by
  intro v_first v_last a_row v_p1_factor v_p1_power v_p1_infinite H locs ls hP hD hS hl h
  obtain ⟨hx, hb, hr, hml, hown, ht, hlk⟩ := id cx
  refine lv_iconst (v := 0) hx hb d_Decimal_findNearest_0 (by decide) ?_
  refine lv_istore_n (lv' := [(2, .int (0 : Int32)), (0, .ref h_this), (1, .ref h_p1)]) hx hb d_Decimal_findNearest_1 rfl hl (by decide) rfl (fun ls hl => ?_)
  refine lv_iconst (v := 0) hx hb d_Decimal_findNearest_2 (by decide) ?_
  refine lv_istore_n (lv' := [(3, .int (0 : Int32)), (2, .int (0 : Int32)), (0, .ref h_this), (1, .ref h_p1)]) hx hb d_Decimal_findNearest_3 rfl hl (by decide) rfl (fun ls hl => ?_)
  refine lv_iconst (v := 0) hx hb d_Decimal_findNearest_4 (by decide) ?_
  refine lv_istore (lv' := [(4, .int (0 : Int32)), (3, .int (0 : Int32)), (2, .int (0 : Int32)), (0, .ref h_this), (1, .ref h_p1)]) hx hb d_Decimal_findNearest_5 hl (by decide) rfl (fun ls hl => ?_)
  exact s_Decimal_findNearest_7 cx hK hA hX fu v_first v_last a_row v_p1_factor v_p1_power v_p1_infinite (0 : Int32) (0 : Int32) (0 : Int32) H locs ls hP hD hS (lv_sub hl [3, 4, 2, 1, 0] rfl) h
set_option maxHeartbeats 4000000 in
set_option maxRecDepth 100000 in
theorem c_Decimal_findNearest (l : Launch) (dC : Nat → ClassId) (dI : Nat → Nat → Nat) (X : SXT) (h_this : Nat) (h_this_row : Nat) (h_p1 : Nat) (c_this_row : ClassId) (sz : Nat) (v_first : Int32) (v_last : Int32) (a_row : (Nat → Int32)) (v_p1_factor : Int64) (v_p1_power : Int32) (v_p1_infinite : Int32) (res : Int32 × Int32 × (Nat → Int32) × Int64 × Int32 × Int32) (hf : f_Decimal_findNearest v_first v_last a_row v_p1_factor v_p1_power v_p1_infinite = some res) : Met l y_Decimal_findNearest (.code y_Decimal_findNearest b_Decimal_findNearest 6 none :: w0) ({ frames := 5, cells := 0, slots := 0, locals := 120 }) (va_Pc [.ref h_this, .ref h_p1] (gP (dC, dI) (WS_Decimal_findNearest h_this h_this_row h_p1 c_this_row v_first v_last a_row v_p1_factor v_p1_power v_p1_infinite) [(c_this_row, .int)] sz X)) (va_Qv (fun (u : Int32 × Int32 × (Nat → Int32) × Int64 × Int32 × Int32) => some u = some res) (gB (dC, dI) [(c_this_row, .int)] (va_A (WS_Decimal_findNearest h_this h_this_row h_p1 c_this_row v_first v_last a_row v_p1_factor v_p1_power v_p1_infinite) sz) (fun (u : Int32 × Int32 × (Nat → Int32) × Int64 × Int32 × Int32) => (WS_Decimal_findNearest h_this h_this_row h_p1 c_this_row u.1 u.2.1 u.2.2.1 u.2.2.2.1 u.2.2.2.2.1 u.2.2.2.2.2))) (va_A (WS_Decimal_findNearest h_this h_this_row h_p1 c_this_row v_first v_last a_row v_p1_factor v_p1_power v_p1_infinite) sz)) 0 0 (va_A (WS_Decimal_findNearest h_this h_this_row h_p1 c_this_row v_first v_last a_row v_p1_factor v_p1_power v_p1_infinite) sz) := by
  refine Met.ofW (cc := b_Decimal_findNearest) (maxL := 6) (ret := none) (by decide) rfl ?_
  intro p e s m args below meth c s₁ B hml hv
  obtain ⟨rfl, hsz, hP, hK, hD0, hX⟩ := hv
  subst hsz
  have cx : cxx p s m ([.ref h_this, .ref h_p1] : List Value).toArray meth c b_Decimal_findNearest 6 none R_Decimal := ⟨B.exec, B.bytes, B.returns, hml, findClass_of_methodNamed B.named, fun w9 hw => atoms_spec (ws := .code y_Decimal_findNearest b_Decimal_findNearest 6 none :: w0) B.pre w9 (List.mem_cons_of_mem _ hw), B.notSynchronized⟩
  have hD := hD0.self (sz := s.heap.size)
  generalize hAe : va_A (WS_Decimal_findNearest h_this h_this_row h_p1 c_this_row v_first v_last a_row v_p1_factor v_p1_power v_p1_infinite) s.heap.size = A at hD hX ⊢
  have hA : ∀ q : Nat, s.heap.size ≤ q → A q := fun q h => by rw [← hAe]; exact Or.inr h
  have hS : va_S A s.heap s.heap [] := va_S.rf
  have hl := lv_entry ([.ref h_this, .ref h_p1]) (n := 6) (Nat.le_of_ble_eq_true rfl)
  rw [lg_entry_eq]
  generalize (lg_sl ([.ref h_this, .ref h_p1]) ++ List.replicate (6 - (lg_sl ([.ref h_this, .ref h_p1])).length) Slot.unset).toArray = ls at hl ⊢
  have hl : lv_has ls 6 [(0, .ref h_this), (1, .ref h_p1)] := hl
  exact s_Decimal_findNearest_e cx hK hA hX v_first v_last a_row v_p1_factor v_p1_power v_p1_infinite s.heap [] ls hP hD hS hl hf
abbrev WS_Numeral_findSize (h_this : Nat) (h_this_tape : Nat) (h_this_tape_row : Nat) (h_p1 : Nat) (h_p1_row : Nat) (h_p2 : Nat) (c_this_tape_row : ClassId) (c_p1_row : ClassId) (v_next : Int32) (v_negative : Int32) (v_sixteen : Int32) (v_hasPoint : Int32) (v_hasPower : Int32) (v_from : Int32) (v_to : Int32) (v_before : Int32) (v_digits : Int32) (v_power : Int32) (v_found : Int64) (v_tape_length : Int32) (a_tape_row : (Nat → Int32)) (v_p1_first : Int32) (v_p1_last : Int32) (a_p1_row : (Nat → Int32)) (v_p2_factor : Int64) (v_p2_power : Int32) (v_p2_infinite : Int32) : va_W := [(h_this, .inr (2, [.ref h_this_tape, .int v_next, .int v_negative, .int v_sixteen, .int v_hasPoint, .int v_hasPower, .int v_from, .int v_to, .int v_before, .int v_digits, .int v_power, .long v_found])), (h_this_tape, .inr (1, [.ref h_this_tape_row, .int v_tape_length])), (h_this_tape_row, .inl (c_this_tape_row, 1200, .inl a_tape_row)), (h_p1, .inr (3, [.ref h_p1_row, .int v_p1_first, .int v_p1_last])), (h_p1_row, .inl (c_p1_row, 208, .inl a_p1_row)), (h_p2, .inr (4, [.long v_p2_factor, .int v_p2_power, .int v_p2_infinite]))]
def f_Numeral_findSize (v_sixteen : Int32) (v_from : Int32) (v_to : Int32) (v_before : Int32) (v_digits : Int32) (v_power : Int32) (v_tape_length : Int32) (a_tape_row : (Nat → Int32)) (v_p1_first : Int32) (v_p1_last : Int32) (a_p1_row : (Nat → Int32)) (v_p2_factor : Int64) (v_p2_power : Int32) (v_p2_infinite : Int32) : Option (Int32 × Int32 × (Nat → Int32) × Int64 × Int32 × Int32) :=
  if v_sixteen = 0 then
    bi4 (f_Numeral_putDigits v_from v_to v_before v_power v_tape_length a_tape_row v_p1_first v_p1_last a_p1_row) fun r2 v3 v4 a5 =>
    if r2 = 0 then
      bi3 (f_Size_setInfinite v_p2_factor v_p2_power v_p2_infinite) fun v7 v8 v9 =>
      some (v3, v4, a5, v7, v8, v9)
    else
      bi6 (f_Decimal_findNearest v3 v4 a5 v_p2_factor v_p2_power v_p2_infinite) fun v10 v11 a12 v13 v14 v15 =>
      some (v10, v11, a12, v13, v14, v15)
  else
    bi3 (f_Numeral_findSizeOf16 v_from v_to v_before v_digits v_power v_tape_length a_tape_row v_p2_factor v_p2_power v_p2_infinite) fun v16 v17 v18 =>
    some (v_p1_first, v_p1_last, a_p1_row, v16, v17, v18)
set_option maxHeartbeats 4000000 in
set_option maxRecDepth 100000 in
theorem s_Numeral_findSize_e {p : Program} {l : Launch} {e : Env} {s : State} {m : MethodId} {args : Array Value} {below : List Frame} {meth : Method} {c : Code} {dC : Nat → ClassId} {dI : Nat → Nat → Nat} {A : Nat → Prop} {X : SXT} {h_this : Nat} {h_this_tape : Nat} {h_this_tape_row : Nat} {h_p1 : Nat} {h_p1_row : Nat} {h_p2 : Nat} {c_this_tape_row : ClassId} {c_p1_row : ClassId} {v_next : Int32} {v_negative : Int32} {v_hasPoint : Int32} {v_hasPower : Int32} {v_found : Int64} {res : Int32 × Int32 × (Nat → Int32) × Int64 × Int32 × Int32} (cx : cxx p s m args meth c b_Numeral_findSize 3 none R_Numeral) (hK : va_K (dC, dI) classes [(c_this_tape_row, .byte), (c_p1_row, .int)] s) (hA : ∀ q, s.heap.size ≤ q → A q) (hX : SX X A s s.heap) : ∀ (v_sixteen : Int32) (v_from : Int32) (v_to : Int32) (v_before : Int32) (v_digits : Int32) (v_power : Int32) (v_tape_length : Int32) (a_tape_row : (Nat → Int32)) (v_p1_first : Int32) (v_p1_last : Int32) (a_p1_row : (Nat → Int32)) (v_p2_factor : Int64) (v_p2_power : Int32) (v_p2_infinite : Int32) (H : Heap) (locs : List Loc) (ls : Array Slot), va_P (dC, dI) classes (WS_Numeral_findSize h_this h_this_tape h_this_tape_row h_p1 h_p1_row h_p2 c_this_tape_row c_p1_row v_next v_negative v_sixteen v_hasPoint v_hasPower v_from v_to v_before v_digits v_power v_found v_tape_length a_tape_row v_p1_first v_p1_last a_p1_row v_p2_factor v_p2_power v_p2_infinite) H → va_D A (WS_Numeral_findSize h_this h_this_tape h_this_tape_row h_p1 h_p1_row h_p2 c_this_tape_row c_p1_row v_next v_negative v_sixteen v_hasPoint v_hasPower v_from v_to v_before v_digits v_power v_found v_tape_length a_tape_row v_p1_first v_p1_last a_p1_row v_p2_factor v_p2_power v_p2_infinite) → va_S A s.heap H locs → lv_has ls 3 [(0, .ref h_this), (1, .ref h_p1), (2, .ref h_p2)] → f_Numeral_findSize v_sixteen v_from v_to v_before v_digits v_power v_tape_length a_tape_row v_p1_first v_p1_last a_p1_row v_p2_factor v_p2_power v_p2_infinite = some res → W p l e ({ frames := 6, cells := 0, slots := 0, locals := 148 }) s m args below meth c H locs 0 0 (MQ below (va_Qv (fun (u : Int32 × Int32 × (Nat → Int32) × Int64 × Int32 × Int32) => some u = some res) (gB (dC, dI) [(c_this_tape_row, .byte), (c_p1_row, .int)] A (fun (u : Int32 × Int32 × (Nat → Int32) × Int64 × Int32 × Int32) => (WS_Numeral_findSize h_this h_this_tape h_this_tape_row h_p1 h_p1_row h_p2 c_this_tape_row c_p1_row v_next v_negative v_sixteen v_hasPoint v_hasPower v_from v_to v_before v_digits v_power v_found v_tape_length a_tape_row u.1 u.2.1 u.2.2.1 u.2.2.2.1 u.2.2.2.2.1 u.2.2.2.2.2))) A) args s 0 0 A) (F0 m 0 ls []) := by
  intro v_sixteen v_from v_to v_before v_digits v_power v_tape_length a_tape_row v_p1_first v_p1_last a_p1_row v_p2_factor v_p2_power v_p2_infinite H locs ls hP hD hS hl h
  obtain ⟨hx, hb, hr, hml, hown, ht, hlk⟩ := id cx
  refine lv_aload_n hx hb d_Numeral_findSize_0 rfl (lv_at hl 0 rfl) ?_
  refine va_get (D := (dC, dI)) (ci := 2) (v := .int v_sixteen) (C := R_Numeral) (T := F_Numeral) (N := 12) hx hb ht i_Numeral hown hK hP 0 rfl rfl 3 (by decide) (ht _ q_27) (fun _ h9 => h9) rfl d_Numeral_findSize_1 ?_
  refine lv_if_eq (tgt := 15) hx hb d_Numeral_findSize_4 (by decide) (fun c1 => ?_) (fun c1 => ?_)
  · have h := if_t c1 h
    refine lv_aload_n hx hb d_Numeral_findSize_15 rfl (lv_at hl 0 rfl) ?_
    refine lv_aload_n hx hb d_Numeral_findSize_16 rfl (lv_at hl 1 rfl) ?_
    obtain ⟨r2, v3, v4, a5, hf, h⟩ := bi4_x h
    refine clVi (D := (dC, dI)) (n := 1) (As := [.ref h_p1]) ⟨hx, hb, hml, hown, ht⟩ (c_Numeral_putDigits l dC dI X h_this h_this_tape h_this_tape_row h_p1 h_p1_row c_this_tape_row c_p1_row H.size v_next v_negative v_sixteen v_hasPoint v_hasPower v_from v_to v_before v_digits v_power v_found v_tape_length a_tape_row v_p1_first v_p1_last a_p1_row (r2, v3, v4, a5) hf) (gV q_163 q_164 q_165 q_24 q_166) (by decide +kernel) ⟨rfl, rfl, Nat.le_of_ble_eq_true rfl, Nat.le_of_ble_eq_true rfl⟩ hK hP hD hS hA hX [0, 1, 2, 3, 4] [5] [0, 1] rfl (wr := [(h_p2, .inr (4, [.long v_p2_factor, .int v_p2_power, .int v_p2_infinite]))]) rfl (by decide) (by decide) (by decide) rfl (va_recv hK hP (ci := 2) (q0 := 0) rfl rfl) rfl hl.1 rfl (lv_room (Nat.le_of_ble_eq_true rfl)) d_Numeral_findSize_17 ⟨Nat.zero_le _, Nat.zero_le _⟩ (fun r9 u9 H locs h9 hP hD hS => ?_)
    cases h9
    have hP : va_P (dC, dI) classes (WS_Numeral_findSize h_this h_this_tape h_this_tape_row h_p1 h_p1_row h_p2 c_this_tape_row c_p1_row v_next v_negative v_sixteen v_hasPoint v_hasPower v_from v_to v_before v_digits v_power v_found v_tape_length a_tape_row v3 v4 a5 v_p2_factor v_p2_power v_p2_infinite) H := hP.sub [1, 2, 3, 4, 5, 0] rfl
    have hD : va_D A (WS_Numeral_findSize h_this h_this_tape h_this_tape_row h_p1 h_p1_row h_p2 c_this_tape_row c_p1_row v_next v_negative v_sixteen v_hasPoint v_hasPower v_from v_to v_before v_digits v_power v_found v_tape_length a_tape_row v3 v4 a5 v_p2_factor v_p2_power v_p2_infinite) := hD.sub [1, 2, 3, 4, 5, 0] (by decide) rfl
    refine lv_if_eq (tgt := 31) hx hb d_Numeral_findSize_20 (by decide) (fun c6 => ?_) (fun c6 => ?_)
    · have h := if_t c6 h
      refine lv_aload_n hx hb d_Numeral_findSize_31 rfl (lv_at hl 2 rfl) ?_
      obtain ⟨v7, v8, v9, hf, h⟩ := bi3_x h
      refine clVv (D := (dC, dI)) (n := 0) (As := []) ⟨hx, hb, hml, hown, ht⟩ (c_Size_setInfinite l dC dI X h_p2 H.size v_p2_factor v_p2_power v_p2_infinite (v7, v8, v9) hf) (gV q_167 q_89 q_90 q_91 q_92) (by decide +kernel) ⟨rfl, rfl, Nat.le_of_ble_eq_true rfl, Nat.le_of_ble_eq_true rfl⟩ hK hP hD hS hA hX [5] [0, 1, 2, 3, 4] [] rfl (wr := [(h_this, .inr (2, [.ref h_this_tape, .int v_next, .int v_negative, .int v_sixteen, .int v_hasPoint, .int v_hasPower, .int v_from, .int v_to, .int v_before, .int v_digits, .int v_power, .long v_found])), (h_this_tape, .inr (1, [.ref h_this_tape_row, .int v_tape_length])), (h_this_tape_row, .inl (c_this_tape_row, 1200, .inl a_tape_row)), (h_p1, .inr (3, [.ref h_p1_row, .int v3, .int v4])), (h_p1_row, .inl (c_p1_row, 208, .inl a5))]) rfl (by decide) (by decide) (by decide) rfl (va_recv hK hP (ci := 4) (q0 := 5) rfl rfl) rfl hl.1 rfl (lv_room (Nat.le_of_ble_eq_true rfl)) d_Numeral_findSize_32 ⟨Nat.zero_le _, Nat.zero_le _⟩ (fun u9 H locs h9 hP hD hS => ?_)
      cases h9
      have hP : va_P (dC, dI) classes (WS_Numeral_findSize h_this h_this_tape h_this_tape_row h_p1 h_p1_row h_p2 c_this_tape_row c_p1_row v_next v_negative v_sixteen v_hasPoint v_hasPower v_from v_to v_before v_digits v_power v_found v_tape_length a_tape_row v3 v4 a5 v7 v8 v9) H := hP.sub [0, 1, 2, 3, 4, 5] rfl
      have hD : va_D A (WS_Numeral_findSize h_this h_this_tape h_this_tape_row h_p1 h_p1_row h_p2 c_this_tape_row c_p1_row v_next v_negative v_sixteen v_hasPoint v_hasPower v_from v_to v_before v_digits v_power v_found v_tape_length a_tape_row v3 v4 a5 v7 v8 v9) := hD.sub [0, 1, 2, 3, 4, 5] (by decide) rfl
      exact W.vret hx hb hr (fun t ht9 hW => ⟨⟨(v3, v4, a5, v7, v8, v9), rfl, h, by rw [ht9]; exact hP, va_K.moved hW.alike hK, hD⟩, hS.F ht9⟩) hS.2.2 d_Numeral_findSize_35 hlk
    · have h := if_f c6 h
      refine lv_aload_n hx hb d_Numeral_findSize_23 rfl (lv_at hl 1 rfl) ?_
      refine lv_aload_n hx hb d_Numeral_findSize_24 rfl (lv_at hl 2 rfl) ?_
      obtain ⟨v10, v11, a12, v13, v14, v15, hf, h⟩ := bi6_x h
      refine clVv (D := (dC, dI)) (n := 1) (As := [.ref h_p2]) ⟨hx, hb, hml, hown, ht⟩ (c_Decimal_findNearest l dC dI X h_p1 h_p1_row h_p2 c_p1_row H.size v3 v4 a5 v_p2_factor v_p2_power v_p2_infinite (v10, v11, a12, v13, v14, v15) hf) (gV q_168 q_169 q_170 q_113 q_171) (by decide +kernel) ⟨rfl, rfl, Nat.le_of_ble_eq_true rfl, Nat.le_of_ble_eq_true rfl⟩ hK hP hD hS hA hX [3, 4, 5] [0, 1, 2] [1] rfl (wr := [(h_this, .inr (2, [.ref h_this_tape, .int v_next, .int v_negative, .int v_sixteen, .int v_hasPoint, .int v_hasPower, .int v_from, .int v_to, .int v_before, .int v_digits, .int v_power, .long v_found])), (h_this_tape, .inr (1, [.ref h_this_tape_row, .int v_tape_length])), (h_this_tape_row, .inl (c_this_tape_row, 1200, .inl a_tape_row))]) rfl (by decide) (by decide) (by decide) rfl (va_recv hK hP (ci := 3) (q0 := 3) rfl rfl) rfl hl.1 rfl (lv_room (Nat.le_of_ble_eq_true rfl)) d_Numeral_findSize_25 ⟨Nat.zero_le _, Nat.zero_le _⟩ (fun u9 H locs h9 hP hD hS => ?_)
      cases h9
      have hP : va_P (dC, dI) classes (WS_Numeral_findSize h_this h_this_tape h_this_tape_row h_p1 h_p1_row h_p2 c_this_tape_row c_p1_row v_next v_negative v_sixteen v_hasPoint v_hasPower v_from v_to v_before v_digits v_power v_found v_tape_length a_tape_row v10 v11 a12 v13 v14 v15) H := hP.sub [0, 1, 2, 3, 4, 5] rfl
      have hD : va_D A (WS_Numeral_findSize h_this h_this_tape h_this_tape_row h_p1 h_p1_row h_p2 c_this_tape_row c_p1_row v_next v_negative v_sixteen v_hasPoint v_hasPower v_from v_to v_before v_digits v_power v_found v_tape_length a_tape_row v10 v11 a12 v13 v14 v15) := hD.sub [0, 1, 2, 3, 4, 5] (by decide) rfl
      refine lv_goto (tgt := 35) hx hb d_Numeral_findSize_28 (by decide) ?_
      exact W.vret hx hb hr (fun t ht9 hW => ⟨⟨(v10, v11, a12, v13, v14, v15), rfl, h, by rw [ht9]; exact hP, va_K.moved hW.alike hK, hD⟩, hS.F ht9⟩) hS.2.2 d_Numeral_findSize_35 hlk
  · have h := if_f c1 h
    refine lv_aload_n hx hb d_Numeral_findSize_7 rfl (lv_at hl 0 rfl) ?_
    refine lv_aload_n hx hb d_Numeral_findSize_8 rfl (lv_at hl 2 rfl) ?_
    obtain ⟨v16, v17, v18, hf, h⟩ := bi3_x h
    refine clVv (D := (dC, dI)) (n := 1) (As := [.ref h_p2]) ⟨hx, hb, hml, hown, ht⟩ (c_Numeral_findSizeOf16 l dC dI X h_this h_this_tape h_this_tape_row h_p2 c_this_tape_row H.size v_next v_negative v_sixteen v_hasPoint v_hasPower v_from v_to v_before v_digits v_power v_found v_tape_length a_tape_row v_p2_factor v_p2_power v_p2_infinite (v16, v17, v18) hf) (gV q_172 q_173 q_174 q_24 q_175) (by decide +kernel) ⟨rfl, rfl, Nat.le_of_ble_eq_true rfl, Nat.le_of_ble_eq_true rfl⟩ hK hP hD hS hA hX [0, 1, 2, 5] [3, 4] [0] rfl (wr := [(h_p1, .inr (3, [.ref h_p1_row, .int v_p1_first, .int v_p1_last])), (h_p1_row, .inl (c_p1_row, 208, .inl a_p1_row))]) rfl (by decide) (by decide) (by decide) rfl (va_recv hK hP (ci := 2) (q0 := 0) rfl rfl) rfl hl.1 rfl (lv_room (Nat.le_of_ble_eq_true rfl)) d_Numeral_findSize_9 ⟨Nat.zero_le _, Nat.zero_le _⟩ (fun u9 H locs h9 hP hD hS => ?_)
    cases h9
    have hP : va_P (dC, dI) classes (WS_Numeral_findSize h_this h_this_tape h_this_tape_row h_p1 h_p1_row h_p2 c_this_tape_row c_p1_row v_next v_negative v_sixteen v_hasPoint v_hasPower v_from v_to v_before v_digits v_power v_found v_tape_length a_tape_row v_p1_first v_p1_last a_p1_row v16 v17 v18) H := hP.sub [2, 3, 4, 0, 1, 5] rfl
    have hD : va_D A (WS_Numeral_findSize h_this h_this_tape h_this_tape_row h_p1 h_p1_row h_p2 c_this_tape_row c_p1_row v_next v_negative v_sixteen v_hasPoint v_hasPower v_from v_to v_before v_digits v_power v_found v_tape_length a_tape_row v_p1_first v_p1_last a_p1_row v16 v17 v18) := hD.sub [2, 3, 4, 0, 1, 5] (by decide) rfl
    refine lv_goto (tgt := 35) hx hb d_Numeral_findSize_12 (by decide) ?_
    exact W.vret hx hb hr (fun t ht9 hW => ⟨⟨(v_p1_first, v_p1_last, a_p1_row, v16, v17, v18), rfl, h, by rw [ht9]; exact hP, va_K.moved hW.alike hK, hD⟩, hS.F ht9⟩) hS.2.2 d_Numeral_findSize_35 hlk
set_option maxHeartbeats 4000000 in
set_option maxRecDepth 100000 in
theorem c_Numeral_findSize (l : Launch) (dC : Nat → ClassId) (dI : Nat → Nat → Nat) (X : SXT) (h_this : Nat) (h_this_tape : Nat) (h_this_tape_row : Nat) (h_p1 : Nat) (h_p1_row : Nat) (h_p2 : Nat) (c_this_tape_row : ClassId) (c_p1_row : ClassId) (sz : Nat) (v_next : Int32) (v_negative : Int32) (v_sixteen : Int32) (v_hasPoint : Int32) (v_hasPower : Int32) (v_from : Int32) (v_to : Int32) (v_before : Int32) (v_digits : Int32) (v_power : Int32) (v_found : Int64) (v_tape_length : Int32) (a_tape_row : (Nat → Int32)) (v_p1_first : Int32) (v_p1_last : Int32) (a_p1_row : (Nat → Int32)) (v_p2_factor : Int64) (v_p2_power : Int32) (v_p2_infinite : Int32) (res : Int32 × Int32 × (Nat → Int32) × Int64 × Int32 × Int32) (hf : f_Numeral_findSize v_sixteen v_from v_to v_before v_digits v_power v_tape_length a_tape_row v_p1_first v_p1_last a_p1_row v_p2_factor v_p2_power v_p2_infinite = some res) : Met l y_Numeral_findSize (.code y_Numeral_findSize b_Numeral_findSize 3 none :: w0) ({ frames := 6, cells := 0, slots := 0, locals := 148 }) (va_Pc [.ref h_this, .ref h_p1, .ref h_p2] (gP (dC, dI) (WS_Numeral_findSize h_this h_this_tape h_this_tape_row h_p1 h_p1_row h_p2 c_this_tape_row c_p1_row v_next v_negative v_sixteen v_hasPoint v_hasPower v_from v_to v_before v_digits v_power v_found v_tape_length a_tape_row v_p1_first v_p1_last a_p1_row v_p2_factor v_p2_power v_p2_infinite) [(c_this_tape_row, .byte), (c_p1_row, .int)] sz X)) (va_Qv (fun (u : Int32 × Int32 × (Nat → Int32) × Int64 × Int32 × Int32) => some u = some res) (gB (dC, dI) [(c_this_tape_row, .byte), (c_p1_row, .int)] (va_A (WS_Numeral_findSize h_this h_this_tape h_this_tape_row h_p1 h_p1_row h_p2 c_this_tape_row c_p1_row v_next v_negative v_sixteen v_hasPoint v_hasPower v_from v_to v_before v_digits v_power v_found v_tape_length a_tape_row v_p1_first v_p1_last a_p1_row v_p2_factor v_p2_power v_p2_infinite) sz) (fun (u : Int32 × Int32 × (Nat → Int32) × Int64 × Int32 × Int32) => (WS_Numeral_findSize h_this h_this_tape h_this_tape_row h_p1 h_p1_row h_p2 c_this_tape_row c_p1_row v_next v_negative v_sixteen v_hasPoint v_hasPower v_from v_to v_before v_digits v_power v_found v_tape_length a_tape_row u.1 u.2.1 u.2.2.1 u.2.2.2.1 u.2.2.2.2.1 u.2.2.2.2.2))) (va_A (WS_Numeral_findSize h_this h_this_tape h_this_tape_row h_p1 h_p1_row h_p2 c_this_tape_row c_p1_row v_next v_negative v_sixteen v_hasPoint v_hasPower v_from v_to v_before v_digits v_power v_found v_tape_length a_tape_row v_p1_first v_p1_last a_p1_row v_p2_factor v_p2_power v_p2_infinite) sz)) 0 0 (va_A (WS_Numeral_findSize h_this h_this_tape h_this_tape_row h_p1 h_p1_row h_p2 c_this_tape_row c_p1_row v_next v_negative v_sixteen v_hasPoint v_hasPower v_from v_to v_before v_digits v_power v_found v_tape_length a_tape_row v_p1_first v_p1_last a_p1_row v_p2_factor v_p2_power v_p2_infinite) sz) := by
  refine Met.ofW (cc := b_Numeral_findSize) (maxL := 3) (ret := none) (by decide) rfl ?_
  intro p e s m args below meth c s₁ B hml hv
  obtain ⟨rfl, hsz, hP, hK, hD0, hX⟩ := hv
  subst hsz
  have cx : cxx p s m ([.ref h_this, .ref h_p1, .ref h_p2] : List Value).toArray meth c b_Numeral_findSize 3 none R_Numeral := ⟨B.exec, B.bytes, B.returns, hml, findClass_of_methodNamed B.named, fun w9 hw => atoms_spec (ws := .code y_Numeral_findSize b_Numeral_findSize 3 none :: w0) B.pre w9 (List.mem_cons_of_mem _ hw), B.notSynchronized⟩
  have hD := hD0.self (sz := s.heap.size)
  generalize hAe : va_A (WS_Numeral_findSize h_this h_this_tape h_this_tape_row h_p1 h_p1_row h_p2 c_this_tape_row c_p1_row v_next v_negative v_sixteen v_hasPoint v_hasPower v_from v_to v_before v_digits v_power v_found v_tape_length a_tape_row v_p1_first v_p1_last a_p1_row v_p2_factor v_p2_power v_p2_infinite) s.heap.size = A at hD hX ⊢
  have hA : ∀ q : Nat, s.heap.size ≤ q → A q := fun q h => by rw [← hAe]; exact Or.inr h
  have hS : va_S A s.heap s.heap [] := va_S.rf
  have hl := lv_entry ([.ref h_this, .ref h_p1, .ref h_p2]) (n := 3) (Nat.le_of_ble_eq_true rfl)
  rw [lg_entry_eq]
  generalize (lg_sl ([.ref h_this, .ref h_p1, .ref h_p2]) ++ List.replicate (3 - (lg_sl ([.ref h_this, .ref h_p1, .ref h_p2])).length) Slot.unset).toArray = ls at hl ⊢
  have hl : lv_has ls 3 [(0, .ref h_this), (1, .ref h_p1), (2, .ref h_p2)] := hl
  exact s_Numeral_findSize_e cx hK hA hX v_sixteen v_from v_to v_before v_digits v_power v_tape_length a_tape_row v_p1_first v_p1_last a_p1_row v_p2_factor v_p2_power v_p2_infinite s.heap [] ls hP hD hS hl hf
abbrev WS_Size_isInfinite (h_this : Nat)  (v_factor : Int64) (v_power : Int32) (v_infinite : Int32) : va_W := [(h_this, .inr (4, [.long v_factor, .int v_power, .int v_infinite]))]
def f_Size_isInfinite (v_infinite : Int32) : Option (Int32) :=
  ck (ckZ v_infinite) <|
  some v_infinite
set_option maxHeartbeats 4000000 in
set_option maxRecDepth 100000 in
theorem s_Size_isInfinite_e {p : Program} {l : Launch} {e : Env} {s : State} {m : MethodId} {args : Array Value} {below : List Frame} {meth : Method} {c : Code} {dC : Nat → ClassId} {dI : Nat → Nat → Nat} {A : Nat → Prop} {X : SXT} {h_this : Nat} {v_factor : Int64} {v_power : Int32} {res : Int32} (cx : cxx p s m args meth c b_Size_isInfinite 1 (some .boolean) R_Size) (hK : va_K (dC, dI) classes [] s) (hA : ∀ q, s.heap.size ≤ q → A q) (hX : SX X A s s.heap) : ∀ (v_infinite : Int32) (H : Heap) (locs : List Loc) (ls : Array Slot), va_P (dC, dI) classes (WS_Size_isInfinite h_this v_factor v_power v_infinite) H → va_D A (WS_Size_isInfinite h_this v_factor v_power v_infinite) → va_S A s.heap H locs → lv_has ls 1 [(0, .ref h_this)] → f_Size_isInfinite v_infinite = some res → W p l e ({ frames := 0, cells := 0, slots := 0, locals := 0 }) s m args below meth c H locs 0 0 (MQ below (va_Qi (fun (r : Int32) (_ : Unit) => some r = some res) (gB (dC, dI) [] A (fun (u : Unit) => (WS_Size_isInfinite h_this v_factor v_power v_infinite))) A) args s 0 0 A) (F0 m 0 ls []) := by
  intro v_infinite H locs ls hP hD hS hl h
  obtain ⟨hx, hb, hr, hml, hown, ht, hlk⟩ := id cx
  refine lv_aload_n hx hb d_Size_isInfinite_0 rfl (lv_at hl 0 rfl) ?_
  refine va_get (D := (dC, dI)) (ci := 4) (v := .int v_infinite) (C := R_Size) (T := F_Size) (N := 3) hx hb ht i_Size hown hK hP 0 rfl rfl 2 (by decide) (ht _ q_84) (fun _ h9 => h9) rfl d_Size_isInfinite_1 ?_
  obtain ⟨c1, h⟩ := ck_x h
  exact W.zret (v := v_infinite) hx hb hr (ckZ_n c1) (fun t ht9 hW => ⟨⟨v_infinite, (), rfl, h, by rw [ht9]; exact hP, va_K.moved hW.alike hK, hD⟩, hS.F ht9⟩) hS.2.2 d_Size_isInfinite_4 hlk
set_option maxHeartbeats 4000000 in
set_option maxRecDepth 100000 in
theorem c_Size_isInfinite (l : Launch) (dC : Nat → ClassId) (dI : Nat → Nat → Nat) (X : SXT) (h_this : Nat) (sz : Nat) (v_factor : Int64) (v_power : Int32) (v_infinite : Int32) (res : Int32) (hf : f_Size_isInfinite v_infinite = some res) : Met l y_Size_isInfinite (.code y_Size_isInfinite b_Size_isInfinite 1 (some .boolean) :: w0) ({ frames := 0, cells := 0, slots := 0, locals := 0 }) (va_Pc [.ref h_this] (gP (dC, dI) (WS_Size_isInfinite h_this v_factor v_power v_infinite) [] sz X)) (va_Qi (fun (r : Int32) (_ : Unit) => some r = some res) (gB (dC, dI) [] (va_A (WS_Size_isInfinite h_this v_factor v_power v_infinite) sz) (fun (u : Unit) => (WS_Size_isInfinite h_this v_factor v_power v_infinite))) (va_A (WS_Size_isInfinite h_this v_factor v_power v_infinite) sz)) 0 0 (va_A (WS_Size_isInfinite h_this v_factor v_power v_infinite) sz) := by
  refine Met.ofW (cc := b_Size_isInfinite) (maxL := 1) (ret := (some .boolean)) (by decide) rfl ?_
  intro p e s m args below meth c s₁ B hml hv
  obtain ⟨rfl, hsz, hP, hK, hD0, hX⟩ := hv
  subst hsz
  have cx : cxx p s m ([.ref h_this] : List Value).toArray meth c b_Size_isInfinite 1 (some .boolean) R_Size := ⟨B.exec, B.bytes, B.returns, hml, findClass_of_methodNamed B.named, fun w9 hw => atoms_spec (ws := .code y_Size_isInfinite b_Size_isInfinite 1 (some .boolean) :: w0) B.pre w9 (List.mem_cons_of_mem _ hw), B.notSynchronized⟩
  have hD := hD0.self (sz := s.heap.size)
  generalize hAe : va_A (WS_Size_isInfinite h_this v_factor v_power v_infinite) s.heap.size = A at hD hX ⊢
  have hA : ∀ q : Nat, s.heap.size ≤ q → A q := fun q h => by rw [← hAe]; exact Or.inr h
  have hS : va_S A s.heap s.heap [] := va_S.rf
  have hl := lv_entry ([.ref h_this]) (n := 1) (Nat.le_of_ble_eq_true rfl)
  rw [lg_entry_eq]
  generalize (lg_sl ([.ref h_this]) ++ List.replicate (1 - (lg_sl ([.ref h_this])).length) Slot.unset).toArray = ls at hl ⊢
  have hl : lv_has ls 1 [(0, .ref h_this)] := hl
  exact s_Size_isInfinite_e cx hK hA hX v_infinite s.heap [] ls hP hD hS hl hf
abbrev WS_Size_factor (h_this : Nat)  (v_factor : Int64) (v_power : Int32) (v_infinite : Int32) : va_W := [(h_this, .inr (4, [.long v_factor, .int v_power, .int v_infinite]))]
def f_Size_factor (v_factor : Int64) : Option (Int64) :=
  some v_factor
set_option maxHeartbeats 4000000 in
set_option maxRecDepth 100000 in
theorem s_Size_factor_e {p : Program} {l : Launch} {e : Env} {s : State} {m : MethodId} {args : Array Value} {below : List Frame} {meth : Method} {c : Code} {dC : Nat → ClassId} {dI : Nat → Nat → Nat} {A : Nat → Prop} {X : SXT} {h_this : Nat} {v_power : Int32} {v_infinite : Int32} {res : Int64} (cx : cxx p s m args meth c b_Size_factor 1 (some .long) R_Size) (hK : va_K (dC, dI) classes [] s) (hA : ∀ q, s.heap.size ≤ q → A q) (hX : SX X A s s.heap) : ∀ (v_factor : Int64) (H : Heap) (locs : List Loc) (ls : Array Slot), va_P (dC, dI) classes (WS_Size_factor h_this v_factor v_power v_infinite) H → va_D A (WS_Size_factor h_this v_factor v_power v_infinite) → va_S A s.heap H locs → lv_has ls 1 [(0, .ref h_this)] → f_Size_factor v_factor = some res → W p l e ({ frames := 0, cells := 0, slots := 0, locals := 0 }) s m args below meth c H locs 0 0 (MQ below (va_Ql (fun (r : Int64) (_ : Unit) => some r = some res) (gB (dC, dI) [] A (fun (u : Unit) => (WS_Size_factor h_this v_factor v_power v_infinite))) A) args s 0 0 A) (F0 m 0 ls []) := by
  intro v_factor H locs ls hP hD hS hl h
  obtain ⟨hx, hb, hr, hml, hown, ht, hlk⟩ := id cx
  refine lv_aload_n hx hb d_Size_factor_0 rfl (lv_at hl 0 rfl) ?_
  refine va_get (D := (dC, dI)) (ci := 4) (v := .long v_factor) (C := R_Size) (T := F_Size) (N := 3) hx hb ht i_Size hown hK hP 0 rfl rfl 0 (by decide) (ht _ q_82) (fun _ h9 => h9) rfl d_Size_factor_1 ?_
  exact W.lret (v := v_factor) hx hb hr (fun t ht9 hW => ⟨⟨v_factor, (), rfl, h, by rw [ht9]; exact hP, va_K.moved hW.alike hK, hD⟩, hS.F ht9⟩) hS.2.2 d_Size_factor_4 hlk
set_option maxHeartbeats 4000000 in
set_option maxRecDepth 100000 in
theorem c_Size_factor (l : Launch) (dC : Nat → ClassId) (dI : Nat → Nat → Nat) (X : SXT) (h_this : Nat) (sz : Nat) (v_factor : Int64) (v_power : Int32) (v_infinite : Int32) (res : Int64) (hf : f_Size_factor v_factor = some res) : Met l y_Size_factor (.code y_Size_factor b_Size_factor 1 (some .long) :: w0) ({ frames := 0, cells := 0, slots := 0, locals := 0 }) (va_Pc [.ref h_this] (gP (dC, dI) (WS_Size_factor h_this v_factor v_power v_infinite) [] sz X)) (va_Ql (fun (r : Int64) (_ : Unit) => some r = some res) (gB (dC, dI) [] (va_A (WS_Size_factor h_this v_factor v_power v_infinite) sz) (fun (u : Unit) => (WS_Size_factor h_this v_factor v_power v_infinite))) (va_A (WS_Size_factor h_this v_factor v_power v_infinite) sz)) 0 0 (va_A (WS_Size_factor h_this v_factor v_power v_infinite) sz) := by
  refine Met.ofW (cc := b_Size_factor) (maxL := 1) (ret := (some .long)) (by decide) rfl ?_
  intro p e s m args below meth c s₁ B hml hv
  obtain ⟨rfl, hsz, hP, hK, hD0, hX⟩ := hv
  subst hsz
  have cx : cxx p s m ([.ref h_this] : List Value).toArray meth c b_Size_factor 1 (some .long) R_Size := ⟨B.exec, B.bytes, B.returns, hml, findClass_of_methodNamed B.named, fun w9 hw => atoms_spec (ws := .code y_Size_factor b_Size_factor 1 (some .long) :: w0) B.pre w9 (List.mem_cons_of_mem _ hw), B.notSynchronized⟩
  have hD := hD0.self (sz := s.heap.size)
  generalize hAe : va_A (WS_Size_factor h_this v_factor v_power v_infinite) s.heap.size = A at hD hX ⊢
  have hA : ∀ q : Nat, s.heap.size ≤ q → A q := fun q h => by rw [← hAe]; exact Or.inr h
  have hS : va_S A s.heap s.heap [] := va_S.rf
  have hl := lv_entry ([.ref h_this]) (n := 1) (Nat.le_of_ble_eq_true rfl)
  rw [lg_entry_eq]
  generalize (lg_sl ([.ref h_this]) ++ List.replicate (1 - (lg_sl ([.ref h_this])).length) Slot.unset).toArray = ls at hl ⊢
  have hl : lv_has ls 1 [(0, .ref h_this)] := hl
  exact s_Size_factor_e cx hK hA hX v_factor s.heap [] ls hP hD hS hl hf
abbrev WS_Size_power (h_this : Nat)  (v_factor : Int64) (v_power : Int32) (v_infinite : Int32) : va_W := [(h_this, .inr (4, [.long v_factor, .int v_power, .int v_infinite]))]
def f_Size_power (v_power : Int32) : Option (Int32) :=
  some v_power
set_option maxHeartbeats 4000000 in
set_option maxRecDepth 100000 in
theorem s_Size_power_e {p : Program} {l : Launch} {e : Env} {s : State} {m : MethodId} {args : Array Value} {below : List Frame} {meth : Method} {c : Code} {dC : Nat → ClassId} {dI : Nat → Nat → Nat} {A : Nat → Prop} {X : SXT} {h_this : Nat} {v_factor : Int64} {v_infinite : Int32} {res : Int32} (cx : cxx p s m args meth c b_Size_power 1 (some .int) R_Size) (hK : va_K (dC, dI) classes [] s) (hA : ∀ q, s.heap.size ≤ q → A q) (hX : SX X A s s.heap) : ∀ (v_power : Int32) (H : Heap) (locs : List Loc) (ls : Array Slot), va_P (dC, dI) classes (WS_Size_power h_this v_factor v_power v_infinite) H → va_D A (WS_Size_power h_this v_factor v_power v_infinite) → va_S A s.heap H locs → lv_has ls 1 [(0, .ref h_this)] → f_Size_power v_power = some res → W p l e ({ frames := 0, cells := 0, slots := 0, locals := 0 }) s m args below meth c H locs 0 0 (MQ below (va_Qi (fun (r : Int32) (_ : Unit) => some r = some res) (gB (dC, dI) [] A (fun (u : Unit) => (WS_Size_power h_this v_factor v_power v_infinite))) A) args s 0 0 A) (F0 m 0 ls []) := by
  intro v_power H locs ls hP hD hS hl h
  obtain ⟨hx, hb, hr, hml, hown, ht, hlk⟩ := id cx
  refine lv_aload_n hx hb d_Size_power_0 rfl (lv_at hl 0 rfl) ?_
  refine va_get (D := (dC, dI)) (ci := 4) (v := .int v_power) (C := R_Size) (T := F_Size) (N := 3) hx hb ht i_Size hown hK hP 0 rfl rfl 1 (by decide) (ht _ q_83) (fun _ h9 => h9) rfl d_Size_power_1 ?_
  exact W.iret (v := v_power) hx hb hr (fun t ht9 hW => ⟨⟨v_power, (), rfl, h, by rw [ht9]; exact hP, va_K.moved hW.alike hK, hD⟩, hS.F ht9⟩) hS.2.2 d_Size_power_4 hlk
set_option maxHeartbeats 4000000 in
set_option maxRecDepth 100000 in
theorem c_Size_power (l : Launch) (dC : Nat → ClassId) (dI : Nat → Nat → Nat) (X : SXT) (h_this : Nat) (sz : Nat) (v_factor : Int64) (v_power : Int32) (v_infinite : Int32) (res : Int32) (hf : f_Size_power v_power = some res) : Met l y_Size_power (.code y_Size_power b_Size_power 1 (some .int) :: w0) ({ frames := 0, cells := 0, slots := 0, locals := 0 }) (va_Pc [.ref h_this] (gP (dC, dI) (WS_Size_power h_this v_factor v_power v_infinite) [] sz X)) (va_Qi (fun (r : Int32) (_ : Unit) => some r = some res) (gB (dC, dI) [] (va_A (WS_Size_power h_this v_factor v_power v_infinite) sz) (fun (u : Unit) => (WS_Size_power h_this v_factor v_power v_infinite))) (va_A (WS_Size_power h_this v_factor v_power v_infinite) sz)) 0 0 (va_A (WS_Size_power h_this v_factor v_power v_infinite) sz) := by
  refine Met.ofW (cc := b_Size_power) (maxL := 1) (ret := (some .int)) (by decide) rfl ?_
  intro p e s m args below meth c s₁ B hml hv
  obtain ⟨rfl, hsz, hP, hK, hD0, hX⟩ := hv
  subst hsz
  have cx : cxx p s m ([.ref h_this] : List Value).toArray meth c b_Size_power 1 (some .int) R_Size := ⟨B.exec, B.bytes, B.returns, hml, findClass_of_methodNamed B.named, fun w9 hw => atoms_spec (ws := .code y_Size_power b_Size_power 1 (some .int) :: w0) B.pre w9 (List.mem_cons_of_mem _ hw), B.notSynchronized⟩
  have hD := hD0.self (sz := s.heap.size)
  generalize hAe : va_A (WS_Size_power h_this v_factor v_power v_infinite) s.heap.size = A at hD hX ⊢
  have hA : ∀ q : Nat, s.heap.size ≤ q → A q := fun q h => by rw [← hAe]; exact Or.inr h
  have hS : va_S A s.heap s.heap [] := va_S.rf
  have hl := lv_entry ([.ref h_this]) (n := 1) (Nat.le_of_ble_eq_true rfl)
  rw [lg_entry_eq]
  generalize (lg_sl ([.ref h_this]) ++ List.replicate (1 - (lg_sl ([.ref h_this])).length) Slot.unset).toArray = ls at hl ⊢
  have hl : lv_has ls 1 [(0, .ref h_this)] := hl
  exact s_Size_power_e cx hK hA hX v_power s.heap [] ls hP hD hS hl hf
abbrev WS_N_takeSize (g_this_tape : Nat) (g_this_numeral : Nat) (g_this_room : Nat) (g_this_exact : Nat) (g_this_again : Nat) (g_this_page : Nat) (g_this_writer : Nat) (h_this : Nat) (h_this_size : Nat)  (v_valueKind : Int32) (v_valueNumber : Int64) (v_valueExponent : Int32) (v_size_factor : Int64) (v_size_power : Int32) (v_size_infinite : Int32) : va_W := [(h_this, .inr (0, [.ref g_this_tape, .ref g_this_numeral, .ref g_this_room, .ref g_this_exact, .ref h_this_size, .ref g_this_again, .ref g_this_page, .ref g_this_writer, .int v_valueKind, .long v_valueNumber, .int v_valueExponent])), (h_this_size, .inr (4, [.long v_size_factor, .int v_size_power, .int v_size_infinite]))]
def f_N_takeSize_46 (v_valueKind : Int32) (v_valueNumber : Int64) (v_valueExponent : Int32) (v_size_factor : Int64) (v_size_power : Int32) (v_size_infinite : Int32) (z1 : Int32) (z2 : Int64) : Option (Int32 × Int64 × Int32) :=
  bi1 (f_Size_power v_size_power) fun r1 =>
  bi3 (f_N_setValue v_valueKind v_valueNumber v_valueExponent z1 z2 r1) fun v2 v3 v4 =>
  some (v2, v3, v4)
def f_N_takeSize_20 (v_valueKind : Int32) (v_valueNumber : Int64) (v_valueExponent : Int32) (v_size_factor : Int64) (v_size_power : Int32) (v_size_infinite : Int32) (z1 : Int32) : Option (Int32 × Int64 × Int32) :=
  bi3 (f_N_setValue v_valueKind v_valueNumber v_valueExponent z1 (0 : Int64) (0 : Int32)) fun v5 v6 v7 =>
  some (v5, v6, v7)
def f_N_takeSize (v_valueKind : Int32) (v_valueNumber : Int64) (v_valueExponent : Int32) (v_size_factor : Int64) (v_size_power : Int32) (v_size_infinite : Int32) (p1 : Int32) : Option (Int32 × Int64 × Int32) :=
  bi1 (f_Size_isInfinite v_size_infinite) fun r8 =>
  if r8 = 0 then
    bi1 (f_Size_factor v_size_factor) fun r10 =>
    if p1 = 0 then
      f_N_takeSize_46 v_valueKind v_valueNumber v_valueExponent v_size_factor v_size_power v_size_infinite (2 : Int32) r10
    else
      f_N_takeSize_46 v_valueKind v_valueNumber v_valueExponent v_size_factor v_size_power v_size_infinite (2 : Int32) (-r10)
  else
    if p1 = 0 then
      f_N_takeSize_20 v_valueKind v_valueNumber v_valueExponent v_size_factor v_size_power v_size_infinite (3 : Int32)
    else
      f_N_takeSize_20 v_valueKind v_valueNumber v_valueExponent v_size_factor v_size_power v_size_infinite (4 : Int32)
set_option maxHeartbeats 4000000 in
set_option maxRecDepth 100000 in
theorem s_N_takeSize_46 {p : Program} {l : Launch} {e : Env} {s : State} {m : MethodId} {args : Array Value} {below : List Frame} {meth : Method} {c : Code} {dC : Nat → ClassId} {dI : Nat → Nat → Nat} {A : Nat → Prop} {X : SXT} {g_this_tape : Nat} {g_this_numeral : Nat} {g_this_room : Nat} {g_this_exact : Nat} {g_this_again : Nat} {g_this_page : Nat} {g_this_writer : Nat} {h_this : Nat} {h_this_size : Nat} {res : Int32 × Int64 × Int32}  (cx : cxx p s m args meth c b_N_takeSize 4 none R_N) (hK : va_K (dC, dI) classes [] s) (hA : ∀ q, s.heap.size ≤ q → A q) (hX : SX X A s s.heap)  : ∀ (v_valueKind : Int32) (v_valueNumber : Int64) (v_valueExponent : Int32) (v_size_factor : Int64) (v_size_power : Int32) (v_size_infinite : Int32) (z1 : Int32) (z2 : Int64) (H : Heap) (locs : List Loc) (ls : Array Slot), va_P (dC, dI) classes (WS_N_takeSize g_this_tape g_this_numeral g_this_room g_this_exact g_this_again g_this_page g_this_writer h_this h_this_size v_valueKind v_valueNumber v_valueExponent v_size_factor v_size_power v_size_infinite) H → va_D A (WS_N_takeSize g_this_tape g_this_numeral g_this_room g_this_exact g_this_again g_this_page g_this_writer h_this h_this_size v_valueKind v_valueNumber v_valueExponent v_size_factor v_size_power v_size_infinite) → va_S A s.heap H locs → lv_has ls 4 [(0, .ref h_this)] → f_N_takeSize_46 v_valueKind v_valueNumber v_valueExponent v_size_factor v_size_power v_size_infinite z1 z2 = some res → W p l e ({ frames := 1, cells := 0, slots := 0, locals := 24 }) s m args below meth c H locs 0 0 (MQ below (va_Qv (fun (u : Int32 × Int64 × Int32) => some u = some res) (gB (dC, dI) [] A (fun (u : Int32 × Int64 × Int32) => (WS_N_takeSize g_this_tape g_this_numeral g_this_room g_this_exact g_this_again g_this_page g_this_writer h_this h_this_size u.1 u.2.1 u.2.2 v_size_factor v_size_power v_size_infinite))) A) args s 0 0 A) (F0 m 46 ls [.long z2, .int z1, .ref h_this]) := by
  intro v_valueKind v_valueNumber v_valueExponent v_size_factor v_size_power v_size_infinite z1 z2 H locs ls hP hD hS hl h
  obtain ⟨hx, hb, hr, hml, hown, ht, hlk⟩ := id cx
  refine lv_aload_n hx hb d_N_takeSize_46 rfl (lv_at hl 0 rfl) ?_
  refine va_get (D := (dC, dI)) (ci := 0) (v := .ref h_this_size) (C := R_N) (T := F_N) (N := 11) hx hb ht i_N hown hK hP 0 rfl rfl 4 (by decide) (ht _ q_176) (fun _ h9 => h9) rfl d_N_takeSize_47 ?_
  obtain ⟨r1, hf, h⟩ := bi1_x h
  refine clVi (D := (dC, dI)) (n := 0) (As := []) ⟨hx, hb, hml, hown, ht⟩ (c_Size_power l dC dI X h_this_size H.size v_size_factor v_size_power v_size_infinite r1 hf) (gV q_177 q_178 q_179 q_91 q_180) (by decide +kernel) ⟨rfl, rfl, Nat.le_of_ble_eq_true rfl, Nat.le_of_ble_eq_true rfl⟩ hK hP hD hS hA hX [1] [0] [] rfl (wr := [(h_this, .inr (0, [.ref g_this_tape, .ref g_this_numeral, .ref g_this_room, .ref g_this_exact, .ref h_this_size, .ref g_this_again, .ref g_this_page, .ref g_this_writer, .int v_valueKind, .long v_valueNumber, .int v_valueExponent]))]) rfl (by decide) (by decide) (by decide) rfl (va_recv hK hP (ci := 4) (q0 := 1) rfl rfl) rfl hl.1 rfl (lv_room (Nat.le_of_ble_eq_true rfl)) d_N_takeSize_50 ⟨Nat.zero_le _, Nat.zero_le _⟩ (fun r9 u9 H locs h9 hP hD hS => ?_)
  cases h9
  have hP : va_P (dC, dI) classes (WS_N_takeSize g_this_tape g_this_numeral g_this_room g_this_exact g_this_again g_this_page g_this_writer h_this h_this_size v_valueKind v_valueNumber v_valueExponent v_size_factor v_size_power v_size_infinite) H := hP.sub [0, 1] rfl
  have hD : va_D A (WS_N_takeSize g_this_tape g_this_numeral g_this_room g_this_exact g_this_again g_this_page g_this_writer h_this h_this_size v_valueKind v_valueNumber v_valueExponent v_size_factor v_size_power v_size_infinite) := hD.sub [0, 1] (by decide) rfl
  obtain ⟨v2, v3, v4, hf, h⟩ := bi3_x h
  refine clVv (D := (dC, dI)) (n := 3) (As := [.int z1, .long z2, .int r1]) ⟨hx, hb, hml, hown, ht⟩ (c_N_setValue l dC dI X g_this_tape g_this_numeral g_this_room g_this_exact h_this_size g_this_again g_this_page g_this_writer h_this H.size v_valueKind v_valueNumber v_valueExponent z1 z2 r1 (v2, v3, v4) hf) (gV q_181 q_182 q_183 q_86 q_184) (by decide +kernel) ⟨rfl, rfl, Nat.le_of_ble_eq_true rfl, Nat.le_of_ble_eq_true rfl⟩ hK hP hD hS hA hX [0] [1] [] rfl (wr := [(h_this_size, .inr (4, [.long v_size_factor, .int v_size_power, .int v_size_infinite]))]) rfl (by decide) (by decide) (by decide) rfl (va_recv hK hP (ci := 0) (q0 := 0) rfl rfl) rfl hl.1 rfl (lv_room (Nat.le_of_ble_eq_true rfl)) d_N_takeSize_53 ⟨Nat.zero_le _, Nat.zero_le _⟩ (fun u9 H locs h9 hP hD hS => ?_)
  cases h9
  have hP : va_P (dC, dI) classes (WS_N_takeSize g_this_tape g_this_numeral g_this_room g_this_exact g_this_again g_this_page g_this_writer h_this h_this_size v2 v3 v4 v_size_factor v_size_power v_size_infinite) H := hP.sub [1, 0] rfl
  have hD : va_D A (WS_N_takeSize g_this_tape g_this_numeral g_this_room g_this_exact g_this_again g_this_page g_this_writer h_this h_this_size v2 v3 v4 v_size_factor v_size_power v_size_infinite) := hD.sub [1, 0] (by decide) rfl
  exact W.vret hx hb hr (fun t ht9 hW => ⟨⟨(v2, v3, v4), rfl, h, by rw [ht9]; exact hP, va_K.moved hW.alike hK, hD⟩, hS.F ht9⟩) hS.2.2 d_N_takeSize_56 hlk
set_option maxHeartbeats 4000000 in
set_option maxRecDepth 100000 in
theorem s_N_takeSize_20 {p : Program} {l : Launch} {e : Env} {s : State} {m : MethodId} {args : Array Value} {below : List Frame} {meth : Method} {c : Code} {dC : Nat → ClassId} {dI : Nat → Nat → Nat} {A : Nat → Prop} {X : SXT} {g_this_tape : Nat} {g_this_numeral : Nat} {g_this_room : Nat} {g_this_exact : Nat} {g_this_again : Nat} {g_this_page : Nat} {g_this_writer : Nat} {h_this : Nat} {h_this_size : Nat} {res : Int32 × Int64 × Int32}  (cx : cxx p s m args meth c b_N_takeSize 4 none R_N) (hK : va_K (dC, dI) classes [] s) (hA : ∀ q, s.heap.size ≤ q → A q) (hX : SX X A s s.heap)  : ∀ (v_valueKind : Int32) (v_valueNumber : Int64) (v_valueExponent : Int32) (v_size_factor : Int64) (v_size_power : Int32) (v_size_infinite : Int32) (z1 : Int32) (H : Heap) (locs : List Loc) (ls : Array Slot), va_P (dC, dI) classes (WS_N_takeSize g_this_tape g_this_numeral g_this_room g_this_exact g_this_again g_this_page g_this_writer h_this h_this_size v_valueKind v_valueNumber v_valueExponent v_size_factor v_size_power v_size_infinite) H → va_D A (WS_N_takeSize g_this_tape g_this_numeral g_this_room g_this_exact g_this_again g_this_page g_this_writer h_this h_this_size v_valueKind v_valueNumber v_valueExponent v_size_factor v_size_power v_size_infinite) → va_S A s.heap H locs → lv_has ls 4 [(0, .ref h_this)] → f_N_takeSize_20 v_valueKind v_valueNumber v_valueExponent v_size_factor v_size_power v_size_infinite z1 = some res → W p l e ({ frames := 1, cells := 0, slots := 0, locals := 24 }) s m args below meth c H locs 0 0 (MQ below (va_Qv (fun (u : Int32 × Int64 × Int32) => some u = some res) (gB (dC, dI) [] A (fun (u : Int32 × Int64 × Int32) => (WS_N_takeSize g_this_tape g_this_numeral g_this_room g_this_exact g_this_again g_this_page g_this_writer h_this h_this_size u.1 u.2.1 u.2.2 v_size_factor v_size_power v_size_infinite))) A) args s 0 0 A) (F0 m 20 ls [.int z1, .ref h_this]) := by
  intro v_valueKind v_valueNumber v_valueExponent v_size_factor v_size_power v_size_infinite z1 H locs ls hP hD hS hl h
  obtain ⟨hx, hb, hr, hml, hown, ht, hlk⟩ := id cx
  refine lv_lconst (v := 0) hx hb d_N_takeSize_20 (by decide) ?_
  refine lv_iconst (v := 0) hx hb d_N_takeSize_21 (by decide) ?_
  obtain ⟨v5, v6, v7, hf, h⟩ := bi3_x h
  refine clVv (D := (dC, dI)) (n := 3) (As := [.int z1, .long (0 : Int64), .int (0 : Int32)]) ⟨hx, hb, hml, hown, ht⟩ (c_N_setValue l dC dI X g_this_tape g_this_numeral g_this_room g_this_exact h_this_size g_this_again g_this_page g_this_writer h_this H.size v_valueKind v_valueNumber v_valueExponent z1 (0 : Int64) (0 : Int32) (v5, v6, v7) hf) (gV q_181 q_182 q_183 q_86 q_184) (by decide +kernel) ⟨rfl, rfl, Nat.le_of_ble_eq_true rfl, Nat.le_of_ble_eq_true rfl⟩ hK hP hD hS hA hX [0] [1] [] rfl (wr := [(h_this_size, .inr (4, [.long v_size_factor, .int v_size_power, .int v_size_infinite]))]) rfl (by decide) (by decide) (by decide) rfl (va_recv hK hP (ci := 0) (q0 := 0) rfl rfl) rfl hl.1 rfl (lv_room (Nat.le_of_ble_eq_true rfl)) d_N_takeSize_22 ⟨Nat.zero_le _, Nat.zero_le _⟩ (fun u9 H locs h9 hP hD hS => ?_)
  cases h9
  have hP : va_P (dC, dI) classes (WS_N_takeSize g_this_tape g_this_numeral g_this_room g_this_exact g_this_again g_this_page g_this_writer h_this h_this_size v5 v6 v7 v_size_factor v_size_power v_size_infinite) H := hP.sub [1, 0] rfl
  have hD : va_D A (WS_N_takeSize g_this_tape g_this_numeral g_this_room g_this_exact g_this_again g_this_page g_this_writer h_this h_this_size v5 v6 v7 v_size_factor v_size_power v_size_infinite) := hD.sub [1, 0] (by decide) rfl
  exact W.vret hx hb hr (fun t ht9 hW => ⟨⟨(v5, v6, v7), rfl, h, by rw [ht9]; exact hP, va_K.moved hW.alike hK, hD⟩, hS.F ht9⟩) hS.2.2 d_N_takeSize_25 hlk
set_option maxHeartbeats 4000000 in
set_option maxRecDepth 100000 in
theorem s_N_takeSize_e {p : Program} {l : Launch} {e : Env} {s : State} {m : MethodId} {args : Array Value} {below : List Frame} {meth : Method} {c : Code} {dC : Nat → ClassId} {dI : Nat → Nat → Nat} {A : Nat → Prop} {X : SXT} {g_this_tape : Nat} {g_this_numeral : Nat} {g_this_room : Nat} {g_this_exact : Nat} {g_this_again : Nat} {g_this_page : Nat} {g_this_writer : Nat} {h_this : Nat} {h_this_size : Nat} {res : Int32 × Int64 × Int32} (cx : cxx p s m args meth c b_N_takeSize 4 none R_N) (hK : va_K (dC, dI) classes [] s) (hA : ∀ q, s.heap.size ≤ q → A q) (hX : SX X A s s.heap) : ∀ (v_valueKind : Int32) (v_valueNumber : Int64) (v_valueExponent : Int32) (v_size_factor : Int64) (v_size_power : Int32) (v_size_infinite : Int32) (p1 : Int32) (H : Heap) (locs : List Loc) (ls : Array Slot), va_P (dC, dI) classes (WS_N_takeSize g_this_tape g_this_numeral g_this_room g_this_exact g_this_again g_this_page g_this_writer h_this h_this_size v_valueKind v_valueNumber v_valueExponent v_size_factor v_size_power v_size_infinite) H → va_D A (WS_N_takeSize g_this_tape g_this_numeral g_this_room g_this_exact g_this_again g_this_page g_this_writer h_this h_this_size v_valueKind v_valueNumber v_valueExponent v_size_factor v_size_power v_size_infinite) → va_S A s.heap H locs → lv_has ls 4 [(0, .ref h_this), (1, .int p1)] → f_N_takeSize v_valueKind v_valueNumber v_valueExponent v_size_factor v_size_power v_size_infinite p1 = some res → W p l e ({ frames := 1, cells := 0, slots := 0, locals := 24 }) s m args below meth c H locs 0 0 (MQ below (va_Qv (fun (u : Int32 × Int64 × Int32) => some u = some res) (gB (dC, dI) [] A (fun (u : Int32 × Int64 × Int32) => (WS_N_takeSize g_this_tape g_this_numeral g_this_room g_this_exact g_this_again g_this_page g_this_writer h_this h_this_size u.1 u.2.1 u.2.2 v_size_factor v_size_power v_size_infinite))) A) args s 0 0 A) (F0 m 0 ls []) := by
  intro v_valueKind v_valueNumber v_valueExponent v_size_factor v_size_power v_size_infinite p1 H locs ls hP hD hS hl h
  obtain ⟨hx, hb, hr, hml, hown, ht, hlk⟩ := id cx
  refine lv_aload_n hx hb d_N_takeSize_0 rfl (lv_at hl 0 rfl) ?_
  refine va_get (D := (dC, dI)) (ci := 0) (v := .ref h_this_size) (C := R_N) (T := F_N) (N := 11) hx hb ht i_N hown hK hP 0 rfl rfl 4 (by decide) (ht _ q_176) (fun _ h9 => h9) rfl d_N_takeSize_1 ?_
  obtain ⟨r8, hf, h⟩ := bi1_x h
  refine clVi (D := (dC, dI)) (n := 0) (As := []) ⟨hx, hb, hml, hown, ht⟩ (c_Size_isInfinite l dC dI X h_this_size H.size v_size_factor v_size_power v_size_infinite r8 hf) (gV q_185 q_186 q_187 q_91 q_188) (by decide +kernel) ⟨rfl, rfl, Nat.le_of_ble_eq_true rfl, Nat.le_of_ble_eq_true rfl⟩ hK hP hD hS hA hX [1] [0] [] rfl (wr := [(h_this, .inr (0, [.ref g_this_tape, .ref g_this_numeral, .ref g_this_room, .ref g_this_exact, .ref h_this_size, .ref g_this_again, .ref g_this_page, .ref g_this_writer, .int v_valueKind, .long v_valueNumber, .int v_valueExponent]))]) rfl (by decide) (by decide) (by decide) rfl (va_recv hK hP (ci := 4) (q0 := 1) rfl rfl) rfl hl.1 rfl (lv_room (Nat.le_of_ble_eq_true rfl)) d_N_takeSize_4 ⟨Nat.zero_le _, Nat.zero_le _⟩ (fun r9 u9 H locs h9 hP hD hS => ?_)
  cases h9
  have hP : va_P (dC, dI) classes (WS_N_takeSize g_this_tape g_this_numeral g_this_room g_this_exact g_this_again g_this_page g_this_writer h_this h_this_size v_valueKind v_valueNumber v_valueExponent v_size_factor v_size_power v_size_infinite) H := hP.sub [0, 1] rfl
  have hD : va_D A (WS_N_takeSize g_this_tape g_this_numeral g_this_room g_this_exact g_this_again g_this_page g_this_writer h_this h_this_size v_valueKind v_valueNumber v_valueExponent v_size_factor v_size_power v_size_infinite) := hD.sub [0, 1] (by decide) rfl
  refine lv_if_eq (tgt := 26) hx hb d_N_takeSize_7 (by decide) (fun c9 => ?_) (fun c9 => ?_)
  · have h := if_t c9 h
    refine lv_aload_n hx hb d_N_takeSize_26 rfl (lv_at hl 0 rfl) ?_
    refine va_get (D := (dC, dI)) (ci := 0) (v := .ref h_this_size) (C := R_N) (T := F_N) (N := 11) hx hb ht i_N hown hK hP 0 rfl rfl 4 (by decide) (ht _ q_176) (fun _ h9 => h9) rfl d_N_takeSize_27 ?_
    obtain ⟨r10, hf, h⟩ := bi1_x h
    refine clVl (D := (dC, dI)) (n := 0) (As := []) ⟨hx, hb, hml, hown, ht⟩ (c_Size_factor l dC dI X h_this_size H.size v_size_factor v_size_power v_size_infinite r10 hf) (gV q_189 q_190 q_191 q_91 q_192) (by decide +kernel) ⟨rfl, rfl, Nat.le_of_ble_eq_true rfl, Nat.le_of_ble_eq_true rfl⟩ hK hP hD hS hA hX [1] [0] [] rfl (wr := [(h_this, .inr (0, [.ref g_this_tape, .ref g_this_numeral, .ref g_this_room, .ref g_this_exact, .ref h_this_size, .ref g_this_again, .ref g_this_page, .ref g_this_writer, .int v_valueKind, .long v_valueNumber, .int v_valueExponent]))]) rfl (by decide) (by decide) (by decide) rfl (va_recv hK hP (ci := 4) (q0 := 1) rfl rfl) rfl hl.1 rfl (lv_room (Nat.le_of_ble_eq_true rfl)) d_N_takeSize_30 ⟨Nat.zero_le _, Nat.zero_le _⟩ (fun r9 u9 H locs h9 hP hD hS => ?_)
    cases h9
    have hP : va_P (dC, dI) classes (WS_N_takeSize g_this_tape g_this_numeral g_this_room g_this_exact g_this_again g_this_page g_this_writer h_this h_this_size v_valueKind v_valueNumber v_valueExponent v_size_factor v_size_power v_size_infinite) H := hP.sub [0, 1] rfl
    have hD : va_D A (WS_N_takeSize g_this_tape g_this_numeral g_this_room g_this_exact g_this_again g_this_page g_this_writer h_this h_this_size v_valueKind v_valueNumber v_valueExponent v_size_factor v_size_power v_size_infinite) := hD.sub [0, 1] (by decide) rfl
    refine lv_lstore_n (lv' := [(2, .long r10), (0, .ref h_this), (1, .int p1)]) hx hb d_N_takeSize_33 rfl hl (by decide) rfl (fun ls hl => ?_)
    refine lv_aload_n hx hb d_N_takeSize_34 rfl (lv_at hl 1 rfl) ?_
    refine lv_iconst (v := 2) hx hb d_N_takeSize_35 (by decide) ?_
    refine lv_iload_n hx hb d_N_takeSize_36 rfl (lv_at hl 2 rfl) ?_
    refine lv_if_eq (tgt := 45) hx hb d_N_takeSize_37 (by decide) (fun c11 => ?_) (fun c11 => ?_)
    · have h := if_t c11 h
      refine lv_lload_n hx hb d_N_takeSize_45 rfl (lv_at hl 0 rfl) ?_
      exact s_N_takeSize_46 cx hK hA hX v_valueKind v_valueNumber v_valueExponent v_size_factor v_size_power v_size_infinite (2 : Int32) r10 H locs ls hP hD hS (lv_sub hl [1] rfl) h
    · have h := if_f c11 h
      refine lv_lload_n hx hb d_N_takeSize_40 rfl (lv_at hl 0 rfl) ?_
      refine lv_lneg hx hb d_N_takeSize_41 ?_
      refine lv_goto (tgt := 46) hx hb d_N_takeSize_42 (by decide) ?_
      exact s_N_takeSize_46 cx hK hA hX v_valueKind v_valueNumber v_valueExponent v_size_factor v_size_power v_size_infinite (2 : Int32) (-r10) H locs ls hP hD hS (lv_sub hl [1] rfl) h
  · have h := if_f c9 h
    refine lv_aload_n hx hb d_N_takeSize_10 rfl (lv_at hl 0 rfl) ?_
    refine lv_iload_n hx hb d_N_takeSize_11 rfl (lv_at hl 1 rfl) ?_
    refine lv_if_eq (tgt := 19) hx hb d_N_takeSize_12 (by decide) (fun c12 => ?_) (fun c12 => ?_)
    · have h := if_t c12 h
      refine lv_iconst (v := 3) hx hb d_N_takeSize_19 (by decide) ?_
      exact s_N_takeSize_20 cx hK hA hX v_valueKind v_valueNumber v_valueExponent v_size_factor v_size_power v_size_infinite (3 : Int32) H locs ls hP hD hS (lv_sub hl [0] rfl) h
    · have h := if_f c12 h
      refine lv_iconst (v := 4) hx hb d_N_takeSize_15 (by decide) ?_
      refine lv_goto (tgt := 20) hx hb d_N_takeSize_16 (by decide) ?_
      exact s_N_takeSize_20 cx hK hA hX v_valueKind v_valueNumber v_valueExponent v_size_factor v_size_power v_size_infinite (4 : Int32) H locs ls hP hD hS (lv_sub hl [0] rfl) h
set_option maxHeartbeats 4000000 in
set_option maxRecDepth 100000 in
theorem c_N_takeSize (l : Launch) (dC : Nat → ClassId) (dI : Nat → Nat → Nat) (X : SXT) (g_this_tape : Nat) (g_this_numeral : Nat) (g_this_room : Nat) (g_this_exact : Nat) (g_this_again : Nat) (g_this_page : Nat) (g_this_writer : Nat) (h_this : Nat) (h_this_size : Nat) (sz : Nat) (v_valueKind : Int32) (v_valueNumber : Int64) (v_valueExponent : Int32) (v_size_factor : Int64) (v_size_power : Int32) (v_size_infinite : Int32) (p1 : Int32) (res : Int32 × Int64 × Int32) (hf : f_N_takeSize v_valueKind v_valueNumber v_valueExponent v_size_factor v_size_power v_size_infinite p1 = some res) : Met l y_N_takeSize (.code y_N_takeSize b_N_takeSize 4 none :: w0) ({ frames := 1, cells := 0, slots := 0, locals := 24 }) (va_Pc [.ref h_this, .int p1] (gP (dC, dI) (WS_N_takeSize g_this_tape g_this_numeral g_this_room g_this_exact g_this_again g_this_page g_this_writer h_this h_this_size v_valueKind v_valueNumber v_valueExponent v_size_factor v_size_power v_size_infinite) [] sz X)) (va_Qv (fun (u : Int32 × Int64 × Int32) => some u = some res) (gB (dC, dI) [] (va_A (WS_N_takeSize g_this_tape g_this_numeral g_this_room g_this_exact g_this_again g_this_page g_this_writer h_this h_this_size v_valueKind v_valueNumber v_valueExponent v_size_factor v_size_power v_size_infinite) sz) (fun (u : Int32 × Int64 × Int32) => (WS_N_takeSize g_this_tape g_this_numeral g_this_room g_this_exact g_this_again g_this_page g_this_writer h_this h_this_size u.1 u.2.1 u.2.2 v_size_factor v_size_power v_size_infinite))) (va_A (WS_N_takeSize g_this_tape g_this_numeral g_this_room g_this_exact g_this_again g_this_page g_this_writer h_this h_this_size v_valueKind v_valueNumber v_valueExponent v_size_factor v_size_power v_size_infinite) sz)) 0 0 (va_A (WS_N_takeSize g_this_tape g_this_numeral g_this_room g_this_exact g_this_again g_this_page g_this_writer h_this h_this_size v_valueKind v_valueNumber v_valueExponent v_size_factor v_size_power v_size_infinite) sz) := by
  refine Met.ofW (cc := b_N_takeSize) (maxL := 4) (ret := none) (by decide) rfl ?_
  intro p e s m args below meth c s₁ B hml hv
  obtain ⟨rfl, hsz, hP, hK, hD0, hX⟩ := hv
  subst hsz
  have cx : cxx p s m ([.ref h_this, .int p1] : List Value).toArray meth c b_N_takeSize 4 none R_N := ⟨B.exec, B.bytes, B.returns, hml, findClass_of_methodNamed B.named, fun w9 hw => atoms_spec (ws := .code y_N_takeSize b_N_takeSize 4 none :: w0) B.pre w9 (List.mem_cons_of_mem _ hw), B.notSynchronized⟩
  have hD := hD0.self (sz := s.heap.size)
  generalize hAe : va_A (WS_N_takeSize g_this_tape g_this_numeral g_this_room g_this_exact g_this_again g_this_page g_this_writer h_this h_this_size v_valueKind v_valueNumber v_valueExponent v_size_factor v_size_power v_size_infinite) s.heap.size = A at hD hX ⊢
  have hA : ∀ q : Nat, s.heap.size ≤ q → A q := fun q h => by rw [← hAe]; exact Or.inr h
  have hS : va_S A s.heap s.heap [] := va_S.rf
  have hl := lv_entry ([.ref h_this, .int p1]) (n := 4) (Nat.le_of_ble_eq_true rfl)
  rw [lg_entry_eq]
  generalize (lg_sl ([.ref h_this, .int p1]) ++ List.replicate (4 - (lg_sl ([.ref h_this, .int p1])).length) Slot.unset).toArray = ls at hl ⊢
  have hl : lv_has ls 4 [(0, .ref h_this), (1, .int p1)] := hl
  exact s_N_takeSize_e cx hK hA hX v_valueKind v_valueNumber v_valueExponent v_size_factor v_size_power v_size_infinite p1 s.heap [] ls hP hD hS hl hf
abbrev WS_N_takeNumeral (g_this_exact : Nat) (g_this_again : Nat) (g_this_page : Nat) (g_this_writer : Nat) (h_this : Nat) (h_this_numeral : Nat) (h_this_room : Nat) (h_this_size : Nat) (h_this_tape : Nat) (h_this_room_row : Nat) (h_this_tape_row : Nat) (c_this_room_row : ClassId) (c_this_tape_row : ClassId) (v_valueKind : Int32) (v_valueNumber : Int64) (v_valueExponent : Int32) (v_numeral_next : Int32) (v_numeral_negative : Int32) (v_numeral_sixteen : Int32) (v_numeral_hasPoint : Int32) (v_numeral_hasPower : Int32) (v_numeral_from : Int32) (v_numeral_to : Int32) (v_numeral_before : Int32) (v_numeral_digits : Int32) (v_numeral_power : Int32) (v_numeral_found : Int64) (v_room_first : Int32) (v_room_last : Int32) (v_size_factor : Int64) (v_size_power : Int32) (v_size_infinite : Int32) (v_tape_length : Int32) (a_room_row : (Nat → Int32)) (a_tape_row : (Nat → Int32)) : va_W := [(h_this, .inr (0, [.ref h_this_tape, .ref h_this_numeral, .ref h_this_room, .ref g_this_exact, .ref h_this_size, .ref g_this_again, .ref g_this_page, .ref g_this_writer, .int v_valueKind, .long v_valueNumber, .int v_valueExponent])), (h_this_numeral, .inr (2, [.ref h_this_tape, .int v_numeral_next, .int v_numeral_negative, .int v_numeral_sixteen, .int v_numeral_hasPoint, .int v_numeral_hasPower, .int v_numeral_from, .int v_numeral_to, .int v_numeral_before, .int v_numeral_digits, .int v_numeral_power, .long v_numeral_found])), (h_this_room, .inr (3, [.ref h_this_room_row, .int v_room_first, .int v_room_last])), (h_this_size, .inr (4, [.long v_size_factor, .int v_size_power, .int v_size_infinite])), (h_this_tape, .inr (1, [.ref h_this_tape_row, .int v_tape_length])), (h_this_room_row, .inl (c_this_room_row, 208, .inl a_room_row)), (h_this_tape_row, .inl (c_this_tape_row, 1200, .inl a_tape_row))]
def f_N_takeNumeral_38 (v_valueKind : Int32) (v_valueNumber : Int64) (v_valueExponent : Int32) (v_numeral_negative : Int32) (v_numeral_sixteen : Int32) (v_numeral_hasPoint : Int32) (v_numeral_hasPower : Int32) (v_numeral_from : Int32) (v_numeral_to : Int32) (v_numeral_before : Int32) (v_numeral_digits : Int32) (v_numeral_power : Int32) (v_numeral_found : Int64) (v_room_first : Int32) (v_room_last : Int32) (v_size_factor : Int64) (v_size_power : Int32) (v_size_infinite : Int32) (v_tape_length : Int32) (a_room_row : (Nat → Int32)) (a_tape_row : (Nat → Int32)) (z1 : Int32) (z2 : Int64) : Option (Int32 × Int64 × Int32 × Int64 × Int32 × Int32 × Int64 × Int32 × Int32 × (Nat → Int32)) :=
  bi3 (f_N_setValue v_valueKind v_valueNumber v_valueExponent z1 z2 (0 : Int32)) fun v1 v2 v3 =>
  some (v1, v2, v3, v_numeral_found, v_room_first, v_room_last, v_size_factor, v_size_power, v_size_infinite, a_room_row)
def f_N_takeNumeral (v_valueKind : Int32) (v_valueNumber : Int64) (v_valueExponent : Int32) (v_numeral_negative : Int32) (v_numeral_sixteen : Int32) (v_numeral_hasPoint : Int32) (v_numeral_hasPower : Int32) (v_numeral_from : Int32) (v_numeral_to : Int32) (v_numeral_before : Int32) (v_numeral_digits : Int32) (v_numeral_power : Int32) (v_numeral_found : Int64) (v_room_first : Int32) (v_room_last : Int32) (v_size_factor : Int64) (v_size_power : Int32) (v_size_infinite : Int32) (v_tape_length : Int32) (a_room_row : (Nat → Int32)) (a_tape_row : (Nat → Int32)) : Option (Int32 × Int64 × Int32 × Int64 × Int32 × Int32 × Int64 × Int32 × Int32 × (Nat → Int32)) :=
  bi1 (f_Numeral_isNegative v_numeral_negative) fun r4 =>
  bi2 (f_Numeral_findWhole v_numeral_sixteen v_numeral_hasPoint v_numeral_hasPower v_numeral_from v_numeral_to v_numeral_found v_tape_length a_tape_row) fun r5 v6 =>
  if r5 = 0 then
    bi6 (f_Numeral_findSize v_numeral_sixteen v_numeral_from v_numeral_to v_numeral_before v_numeral_digits v_numeral_power v_tape_length a_tape_row v_room_first v_room_last a_room_row v_size_factor v_size_power v_size_infinite) fun v8 v9 a10 v11 v12 v13 =>
    bi3 (f_N_takeSize v_valueKind v_valueNumber v_valueExponent v11 v12 v13 r4) fun v14 v15 v16 =>
    some (v14, v15, v16, v6, v8, v9, v11, v12, v13, a10)
  else
    bi1 (f_Numeral_foundWhole v6) fun r17 =>
    if r4 = 0 then
      f_N_takeNumeral_38 v_valueKind v_valueNumber v_valueExponent v_numeral_negative v_numeral_sixteen v_numeral_hasPoint v_numeral_hasPower v_numeral_from v_numeral_to v_numeral_before v_numeral_digits v_numeral_power v6 v_room_first v_room_last v_size_factor v_size_power v_size_infinite v_tape_length a_room_row a_tape_row (1 : Int32) r17
    else
      f_N_takeNumeral_38 v_valueKind v_valueNumber v_valueExponent v_numeral_negative v_numeral_sixteen v_numeral_hasPoint v_numeral_hasPower v_numeral_from v_numeral_to v_numeral_before v_numeral_digits v_numeral_power v6 v_room_first v_room_last v_size_factor v_size_power v_size_infinite v_tape_length a_room_row a_tape_row (1 : Int32) (-r17)
set_option maxHeartbeats 4000000 in
set_option maxRecDepth 100000 in
theorem s_N_takeNumeral_38 {p : Program} {l : Launch} {e : Env} {s : State} {m : MethodId} {args : Array Value} {below : List Frame} {meth : Method} {c : Code} {dC : Nat → ClassId} {dI : Nat → Nat → Nat} {A : Nat → Prop} {X : SXT} {g_this_exact : Nat} {g_this_again : Nat} {g_this_page : Nat} {g_this_writer : Nat} {h_this : Nat} {h_this_numeral : Nat} {h_this_room : Nat} {h_this_size : Nat} {h_this_tape : Nat} {h_this_room_row : Nat} {h_this_tape_row : Nat} {c_this_room_row : ClassId} {c_this_tape_row : ClassId} {v_numeral_next : Int32} {res : Int32 × Int64 × Int32 × Int64 × Int32 × Int32 × Int64 × Int32 × Int32 × (Nat → Int32)}  (cx : cxx p s m args meth c b_N_takeNumeral 4 none R_N) (hK : va_K (dC, dI) classes [(c_this_room_row, .int), (c_this_tape_row, .byte)] s) (hA : ∀ q, s.heap.size ≤ q → A q) (hX : SX X A s s.heap)  : ∀ (v_valueKind : Int32) (v_valueNumber : Int64) (v_valueExponent : Int32) (v_numeral_negative : Int32) (v_numeral_sixteen : Int32) (v_numeral_hasPoint : Int32) (v_numeral_hasPower : Int32) (v_numeral_from : Int32) (v_numeral_to : Int32) (v_numeral_before : Int32) (v_numeral_digits : Int32) (v_numeral_power : Int32) (v_numeral_found : Int64) (v_room_first : Int32) (v_room_last : Int32) (v_size_factor : Int64) (v_size_power : Int32) (v_size_infinite : Int32) (v_tape_length : Int32) (a_room_row : (Nat → Int32)) (a_tape_row : (Nat → Int32)) (z1 : Int32) (z2 : Int64) (H : Heap) (locs : List Loc) (ls : Array Slot), va_P (dC, dI) classes (WS_N_takeNumeral g_this_exact g_this_again g_this_page g_this_writer h_this h_this_numeral h_this_room h_this_size h_this_tape h_this_room_row h_this_tape_row c_this_room_row c_this_tape_row v_valueKind v_valueNumber v_valueExponent v_numeral_next v_numeral_negative v_numeral_sixteen v_numeral_hasPoint v_numeral_hasPower v_numeral_from v_numeral_to v_numeral_before v_numeral_digits v_numeral_power v_numeral_found v_room_first v_room_last v_size_factor v_size_power v_size_infinite v_tape_length a_room_row a_tape_row) H → va_D A (WS_N_takeNumeral g_this_exact g_this_again g_this_page g_this_writer h_this h_this_numeral h_this_room h_this_size h_this_tape h_this_room_row h_this_tape_row c_this_room_row c_this_tape_row v_valueKind v_valueNumber v_valueExponent v_numeral_next v_numeral_negative v_numeral_sixteen v_numeral_hasPoint v_numeral_hasPower v_numeral_from v_numeral_to v_numeral_before v_numeral_digits v_numeral_power v_numeral_found v_room_first v_room_last v_size_factor v_size_power v_size_infinite v_tape_length a_room_row a_tape_row) → va_S A s.heap H locs → lv_has ls 4 [(0, .ref h_this)] → f_N_takeNumeral_38 v_valueKind v_valueNumber v_valueExponent v_numeral_negative v_numeral_sixteen v_numeral_hasPoint v_numeral_hasPower v_numeral_from v_numeral_to v_numeral_before v_numeral_digits v_numeral_power v_numeral_found v_room_first v_room_last v_size_factor v_size_power v_size_infinite v_tape_length a_room_row a_tape_row z1 z2 = some res → W p l e ({ frames := 7, cells := 0, slots := 0, locals := 170 }) s m args below meth c H locs 0 0 (MQ below (va_Qv (fun (u : Int32 × Int64 × Int32 × Int64 × Int32 × Int32 × Int64 × Int32 × Int32 × (Nat → Int32)) => some u = some res) (gB (dC, dI) [(c_this_room_row, .int), (c_this_tape_row, .byte)] A (fun (u : Int32 × Int64 × Int32 × Int64 × Int32 × Int32 × Int64 × Int32 × Int32 × (Nat → Int32)) => (WS_N_takeNumeral g_this_exact g_this_again g_this_page g_this_writer h_this h_this_numeral h_this_room h_this_size h_this_tape h_this_room_row h_this_tape_row c_this_room_row c_this_tape_row u.1 u.2.1 u.2.2.1 v_numeral_next v_numeral_negative v_numeral_sixteen v_numeral_hasPoint v_numeral_hasPower v_numeral_from v_numeral_to v_numeral_before v_numeral_digits v_numeral_power u.2.2.2.1 u.2.2.2.2.1 u.2.2.2.2.2.1 u.2.2.2.2.2.2.1 u.2.2.2.2.2.2.2.1 u.2.2.2.2.2.2.2.2.1 v_tape_length u.2.2.2.2.2.2.2.2.2 a_tape_row))) A) args s 0 0 A) (F0 m 38 ls [.long z2, .int z1, .ref h_this]) := by
  intro v_valueKind v_valueNumber v_valueExponent v_numeral_negative v_numeral_sixteen v_numeral_hasPoint v_numeral_hasPower v_numeral_from v_numeral_to v_numeral_before v_numeral_digits v_numeral_power v_numeral_found v_room_first v_room_last v_size_factor v_size_power v_size_infinite v_tape_length a_room_row a_tape_row z1 z2 H locs ls hP hD hS hl h
  obtain ⟨hx, hb, hr, hml, hown, ht, hlk⟩ := id cx
  refine lv_iconst (v := 0) hx hb d_N_takeNumeral_38 (by decide) ?_
  obtain ⟨v1, v2, v3, hf, h⟩ := bi3_x h
  refine clVv (D := (dC, dI)) (n := 3) (As := [.int z1, .long z2, .int (0 : Int32)]) ⟨hx, hb, hml, hown, ht⟩ (c_N_setValue l dC dI X h_this_tape h_this_numeral h_this_room g_this_exact h_this_size g_this_again g_this_page g_this_writer h_this H.size v_valueKind v_valueNumber v_valueExponent z1 z2 (0 : Int32) (v1, v2, v3) hf) (gV q_181 q_182 q_183 q_86 q_184) (by decide +kernel) ⟨rfl, rfl, Nat.le_of_ble_eq_true rfl, Nat.le_of_ble_eq_true rfl⟩ hK hP hD hS hA hX [0] [1, 2, 3, 4, 5, 6] [] rfl (wr := [(h_this_numeral, .inr (2, [.ref h_this_tape, .int v_numeral_next, .int v_numeral_negative, .int v_numeral_sixteen, .int v_numeral_hasPoint, .int v_numeral_hasPower, .int v_numeral_from, .int v_numeral_to, .int v_numeral_before, .int v_numeral_digits, .int v_numeral_power, .long v_numeral_found])), (h_this_room, .inr (3, [.ref h_this_room_row, .int v_room_first, .int v_room_last])), (h_this_size, .inr (4, [.long v_size_factor, .int v_size_power, .int v_size_infinite])), (h_this_tape, .inr (1, [.ref h_this_tape_row, .int v_tape_length])), (h_this_room_row, .inl (c_this_room_row, 208, .inl a_room_row)), (h_this_tape_row, .inl (c_this_tape_row, 1200, .inl a_tape_row))]) rfl (by decide) (by decide) (by decide) rfl (va_recv hK hP (ci := 0) (q0 := 0) rfl rfl) rfl hl.1 rfl (lv_room (Nat.le_of_ble_eq_true rfl)) d_N_takeNumeral_39 ⟨Nat.zero_le _, Nat.zero_le _⟩ (fun u9 H locs h9 hP hD hS => ?_)
  cases h9
  have hP : va_P (dC, dI) classes (WS_N_takeNumeral g_this_exact g_this_again g_this_page g_this_writer h_this h_this_numeral h_this_room h_this_size h_this_tape h_this_room_row h_this_tape_row c_this_room_row c_this_tape_row v1 v2 v3 v_numeral_next v_numeral_negative v_numeral_sixteen v_numeral_hasPoint v_numeral_hasPower v_numeral_from v_numeral_to v_numeral_before v_numeral_digits v_numeral_power v_numeral_found v_room_first v_room_last v_size_factor v_size_power v_size_infinite v_tape_length a_room_row a_tape_row) H := hP.sub [6, 0, 1, 2, 3, 4, 5] rfl
  have hD : va_D A (WS_N_takeNumeral g_this_exact g_this_again g_this_page g_this_writer h_this h_this_numeral h_this_room h_this_size h_this_tape h_this_room_row h_this_tape_row c_this_room_row c_this_tape_row v1 v2 v3 v_numeral_next v_numeral_negative v_numeral_sixteen v_numeral_hasPoint v_numeral_hasPower v_numeral_from v_numeral_to v_numeral_before v_numeral_digits v_numeral_power v_numeral_found v_room_first v_room_last v_size_factor v_size_power v_size_infinite v_tape_length a_room_row a_tape_row) := hD.sub [6, 0, 1, 2, 3, 4, 5] (by decide) rfl
  exact W.vret hx hb hr (fun t ht9 hW => ⟨⟨(v1, v2, v3, v_numeral_found, v_room_first, v_room_last, v_size_factor, v_size_power, v_size_infinite, a_room_row), rfl, h, by rw [ht9]; exact hP, va_K.moved hW.alike hK, hD⟩, hS.F ht9⟩) hS.2.2 d_N_takeNumeral_42 hlk
set_option maxHeartbeats 4000000 in
set_option maxRecDepth 100000 in
theorem s_N_takeNumeral_e {p : Program} {l : Launch} {e : Env} {s : State} {m : MethodId} {args : Array Value} {below : List Frame} {meth : Method} {c : Code} {dC : Nat → ClassId} {dI : Nat → Nat → Nat} {A : Nat → Prop} {X : SXT} {g_this_exact : Nat} {g_this_again : Nat} {g_this_page : Nat} {g_this_writer : Nat} {h_this : Nat} {h_this_numeral : Nat} {h_this_room : Nat} {h_this_size : Nat} {h_this_tape : Nat} {h_this_room_row : Nat} {h_this_tape_row : Nat} {c_this_room_row : ClassId} {c_this_tape_row : ClassId} {v_numeral_next : Int32} {res : Int32 × Int64 × Int32 × Int64 × Int32 × Int32 × Int64 × Int32 × Int32 × (Nat → Int32)} (cx : cxx p s m args meth c b_N_takeNumeral 4 none R_N) (hK : va_K (dC, dI) classes [(c_this_room_row, .int), (c_this_tape_row, .byte)] s) (hA : ∀ q, s.heap.size ≤ q → A q) (hX : SX X A s s.heap) : ∀ (v_valueKind : Int32) (v_valueNumber : Int64) (v_valueExponent : Int32) (v_numeral_negative : Int32) (v_numeral_sixteen : Int32) (v_numeral_hasPoint : Int32) (v_numeral_hasPower : Int32) (v_numeral_from : Int32) (v_numeral_to : Int32) (v_numeral_before : Int32) (v_numeral_digits : Int32) (v_numeral_power : Int32) (v_numeral_found : Int64) (v_room_first : Int32) (v_room_last : Int32) (v_size_factor : Int64) (v_size_power : Int32) (v_size_infinite : Int32) (v_tape_length : Int32) (a_room_row : (Nat → Int32)) (a_tape_row : (Nat → Int32)) (H : Heap) (locs : List Loc) (ls : Array Slot), va_P (dC, dI) classes (WS_N_takeNumeral g_this_exact g_this_again g_this_page g_this_writer h_this h_this_numeral h_this_room h_this_size h_this_tape h_this_room_row h_this_tape_row c_this_room_row c_this_tape_row v_valueKind v_valueNumber v_valueExponent v_numeral_next v_numeral_negative v_numeral_sixteen v_numeral_hasPoint v_numeral_hasPower v_numeral_from v_numeral_to v_numeral_before v_numeral_digits v_numeral_power v_numeral_found v_room_first v_room_last v_size_factor v_size_power v_size_infinite v_tape_length a_room_row a_tape_row) H → va_D A (WS_N_takeNumeral g_this_exact g_this_again g_this_page g_this_writer h_this h_this_numeral h_this_room h_this_size h_this_tape h_this_room_row h_this_tape_row c_this_room_row c_this_tape_row v_valueKind v_valueNumber v_valueExponent v_numeral_next v_numeral_negative v_numeral_sixteen v_numeral_hasPoint v_numeral_hasPower v_numeral_from v_numeral_to v_numeral_before v_numeral_digits v_numeral_power v_numeral_found v_room_first v_room_last v_size_factor v_size_power v_size_infinite v_tape_length a_room_row a_tape_row) → va_S A s.heap H locs → lv_has ls 4 [(0, .ref h_this)] → f_N_takeNumeral v_valueKind v_valueNumber v_valueExponent v_numeral_negative v_numeral_sixteen v_numeral_hasPoint v_numeral_hasPower v_numeral_from v_numeral_to v_numeral_before v_numeral_digits v_numeral_power v_numeral_found v_room_first v_room_last v_size_factor v_size_power v_size_infinite v_tape_length a_room_row a_tape_row = some res → W p l e ({ frames := 7, cells := 0, slots := 0, locals := 170 }) s m args below meth c H locs 0 0 (MQ below (va_Qv (fun (u : Int32 × Int64 × Int32 × Int64 × Int32 × Int32 × Int64 × Int32 × Int32 × (Nat → Int32)) => some u = some res) (gB (dC, dI) [(c_this_room_row, .int), (c_this_tape_row, .byte)] A (fun (u : Int32 × Int64 × Int32 × Int64 × Int32 × Int32 × Int64 × Int32 × Int32 × (Nat → Int32)) => (WS_N_takeNumeral g_this_exact g_this_again g_this_page g_this_writer h_this h_this_numeral h_this_room h_this_size h_this_tape h_this_room_row h_this_tape_row c_this_room_row c_this_tape_row u.1 u.2.1 u.2.2.1 v_numeral_next v_numeral_negative v_numeral_sixteen v_numeral_hasPoint v_numeral_hasPower v_numeral_from v_numeral_to v_numeral_before v_numeral_digits v_numeral_power u.2.2.2.1 u.2.2.2.2.1 u.2.2.2.2.2.1 u.2.2.2.2.2.2.1 u.2.2.2.2.2.2.2.1 u.2.2.2.2.2.2.2.2.1 v_tape_length u.2.2.2.2.2.2.2.2.2 a_tape_row))) A) args s 0 0 A) (F0 m 0 ls []) := by
  intro v_valueKind v_valueNumber v_valueExponent v_numeral_negative v_numeral_sixteen v_numeral_hasPoint v_numeral_hasPower v_numeral_from v_numeral_to v_numeral_before v_numeral_digits v_numeral_power v_numeral_found v_room_first v_room_last v_size_factor v_size_power v_size_infinite v_tape_length a_room_row a_tape_row H locs ls hP hD hS hl h
  obtain ⟨hx, hb, hr, hml, hown, ht, hlk⟩ := id cx
  refine lv_aload_n hx hb d_N_takeNumeral_0 rfl (lv_at hl 0 rfl) ?_
  refine va_get (D := (dC, dI)) (ci := 0) (v := .ref h_this_numeral) (C := R_N) (T := F_N) (N := 11) hx hb ht i_N hown hK hP 0 rfl rfl 1 (by decide) (ht _ q_193) (fun _ h9 => h9) rfl d_N_takeNumeral_1 ?_
  obtain ⟨r4, hf, h⟩ := bi1_x h
  refine clVi (D := (dC, dI)) (n := 0) (As := []) ⟨hx, hb, hml, hown, ht⟩ (c_Numeral_isNegative l dC dI X h_this_tape h_this_numeral H.size v_numeral_next v_numeral_negative v_numeral_sixteen v_numeral_hasPoint v_numeral_hasPower v_numeral_from v_numeral_to v_numeral_before v_numeral_digits v_numeral_power v_numeral_found r4 hf) (gV q_194 q_195 q_196 q_24 q_197) (by decide +kernel) ⟨rfl, rfl, Nat.le_of_ble_eq_true rfl, Nat.le_of_ble_eq_true rfl⟩ hK hP hD hS hA hX [1] [0, 2, 3, 4, 5, 6] [] rfl (wr := [(h_this, .inr (0, [.ref h_this_tape, .ref h_this_numeral, .ref h_this_room, .ref g_this_exact, .ref h_this_size, .ref g_this_again, .ref g_this_page, .ref g_this_writer, .int v_valueKind, .long v_valueNumber, .int v_valueExponent])), (h_this_room, .inr (3, [.ref h_this_room_row, .int v_room_first, .int v_room_last])), (h_this_size, .inr (4, [.long v_size_factor, .int v_size_power, .int v_size_infinite])), (h_this_tape, .inr (1, [.ref h_this_tape_row, .int v_tape_length])), (h_this_room_row, .inl (c_this_room_row, 208, .inl a_room_row)), (h_this_tape_row, .inl (c_this_tape_row, 1200, .inl a_tape_row))]) rfl (by decide) (by decide) (by decide) rfl (va_recv hK hP (ci := 2) (q0 := 1) rfl rfl) rfl hl.1 rfl (lv_room (Nat.le_of_ble_eq_true rfl)) d_N_takeNumeral_4 ⟨Nat.zero_le _, Nat.zero_le _⟩ (fun r9 u9 H locs h9 hP hD hS => ?_)
  cases h9
  have hP : va_P (dC, dI) classes (WS_N_takeNumeral g_this_exact g_this_again g_this_page g_this_writer h_this h_this_numeral h_this_room h_this_size h_this_tape h_this_room_row h_this_tape_row c_this_room_row c_this_tape_row v_valueKind v_valueNumber v_valueExponent v_numeral_next v_numeral_negative v_numeral_sixteen v_numeral_hasPoint v_numeral_hasPower v_numeral_from v_numeral_to v_numeral_before v_numeral_digits v_numeral_power v_numeral_found v_room_first v_room_last v_size_factor v_size_power v_size_infinite v_tape_length a_room_row a_tape_row) H := hP.sub [0, 6, 1, 2, 3, 4, 5] rfl
  have hD : va_D A (WS_N_takeNumeral g_this_exact g_this_again g_this_page g_this_writer h_this h_this_numeral h_this_room h_this_size h_this_tape h_this_room_row h_this_tape_row c_this_room_row c_this_tape_row v_valueKind v_valueNumber v_valueExponent v_numeral_next v_numeral_negative v_numeral_sixteen v_numeral_hasPoint v_numeral_hasPower v_numeral_from v_numeral_to v_numeral_before v_numeral_digits v_numeral_power v_numeral_found v_room_first v_room_last v_size_factor v_size_power v_size_infinite v_tape_length a_room_row a_tape_row) := hD.sub [0, 6, 1, 2, 3, 4, 5] (by decide) rfl
  refine lv_istore_n (lv' := [(1, .int r4), (0, .ref h_this)]) hx hb d_N_takeNumeral_7 rfl hl (by decide) rfl (fun ls hl => ?_)
  refine lv_aload_n hx hb d_N_takeNumeral_8 rfl (lv_at hl 1 rfl) ?_
  refine va_get (D := (dC, dI)) (ci := 0) (v := .ref h_this_numeral) (C := R_N) (T := F_N) (N := 11) hx hb ht i_N hown hK hP 0 rfl rfl 1 (by decide) (ht _ q_193) (fun _ h9 => h9) rfl d_N_takeNumeral_9 ?_
  obtain ⟨r5, v6, hf, h⟩ := bi2_x h
  refine clVi (D := (dC, dI)) (n := 0) (As := []) ⟨hx, hb, hml, hown, ht⟩ (c_Numeral_findWhole l dC dI X h_this_numeral h_this_tape h_this_tape_row c_this_tape_row H.size v_numeral_next v_numeral_negative v_numeral_sixteen v_numeral_hasPoint v_numeral_hasPower v_numeral_from v_numeral_to v_numeral_before v_numeral_digits v_numeral_power v_numeral_found v_tape_length a_tape_row (r5, v6) hf) (gV q_198 q_199 q_200 q_24 q_201) (by decide +kernel) ⟨rfl, rfl, Nat.le_of_ble_eq_true rfl, Nat.le_of_ble_eq_true rfl⟩ hK hP hD hS hA hX [1, 4, 6] [0, 2, 3, 5] [1] rfl (wr := [(h_this, .inr (0, [.ref h_this_tape, .ref h_this_numeral, .ref h_this_room, .ref g_this_exact, .ref h_this_size, .ref g_this_again, .ref g_this_page, .ref g_this_writer, .int v_valueKind, .long v_valueNumber, .int v_valueExponent])), (h_this_room, .inr (3, [.ref h_this_room_row, .int v_room_first, .int v_room_last])), (h_this_size, .inr (4, [.long v_size_factor, .int v_size_power, .int v_size_infinite])), (h_this_room_row, .inl (c_this_room_row, 208, .inl a_room_row))]) rfl (by decide) (by decide) (by decide) rfl (va_recv hK hP (ci := 2) (q0 := 1) rfl rfl) rfl hl.1 rfl (lv_room (Nat.le_of_ble_eq_true rfl)) d_N_takeNumeral_12 ⟨Nat.zero_le _, Nat.zero_le _⟩ (fun r9 u9 H locs h9 hP hD hS => ?_)
  cases h9
  have hP : va_P (dC, dI) classes (WS_N_takeNumeral g_this_exact g_this_again g_this_page g_this_writer h_this h_this_numeral h_this_room h_this_size h_this_tape h_this_room_row h_this_tape_row c_this_room_row c_this_tape_row v_valueKind v_valueNumber v_valueExponent v_numeral_next v_numeral_negative v_numeral_sixteen v_numeral_hasPoint v_numeral_hasPower v_numeral_from v_numeral_to v_numeral_before v_numeral_digits v_numeral_power v6 v_room_first v_room_last v_size_factor v_size_power v_size_infinite v_tape_length a_room_row a_tape_row) H := hP.sub [0, 4, 1, 2, 5, 3, 6] rfl
  have hD : va_D A (WS_N_takeNumeral g_this_exact g_this_again g_this_page g_this_writer h_this h_this_numeral h_this_room h_this_size h_this_tape h_this_room_row h_this_tape_row c_this_room_row c_this_tape_row v_valueKind v_valueNumber v_valueExponent v_numeral_next v_numeral_negative v_numeral_sixteen v_numeral_hasPoint v_numeral_hasPower v_numeral_from v_numeral_to v_numeral_before v_numeral_digits v_numeral_power v6 v_room_first v_room_last v_size_factor v_size_power v_size_infinite v_tape_length a_room_row a_tape_row) := hD.sub [0, 4, 1, 2, 5, 3, 6] (by decide) rfl
  refine lv_if_eq (tgt := 43) hx hb d_N_takeNumeral_15 (by decide) (fun c7 => ?_) (fun c7 => ?_)
  · have h := if_t c7 h
    refine lv_aload_n hx hb d_N_takeNumeral_43 rfl (lv_at hl 1 rfl) ?_
    refine va_get (D := (dC, dI)) (ci := 0) (v := .ref h_this_numeral) (C := R_N) (T := F_N) (N := 11) hx hb ht i_N hown hK hP 0 rfl rfl 1 (by decide) (ht _ q_193) (fun _ h9 => h9) rfl d_N_takeNumeral_44 ?_
    refine lv_aload_n hx hb d_N_takeNumeral_47 rfl (lv_at hl 1 rfl) ?_
    refine va_get (D := (dC, dI)) (ci := 0) (v := .ref h_this_room) (C := R_N) (T := F_N) (N := 11) hx hb ht i_N hown hK hP 0 rfl rfl 2 (by decide) (ht _ q_202) (fun _ h9 => h9) rfl d_N_takeNumeral_48 ?_
    refine lv_aload_n hx hb d_N_takeNumeral_51 rfl (lv_at hl 1 rfl) ?_
    refine va_get (D := (dC, dI)) (ci := 0) (v := .ref h_this_size) (C := R_N) (T := F_N) (N := 11) hx hb ht i_N hown hK hP 0 rfl rfl 4 (by decide) (ht _ q_176) (fun _ h9 => h9) rfl d_N_takeNumeral_52 ?_
    obtain ⟨v8, v9, a10, v11, v12, v13, hf, h⟩ := bi6_x h
    refine clVv (D := (dC, dI)) (n := 2) (As := [.ref h_this_room, .ref h_this_size]) ⟨hx, hb, hml, hown, ht⟩ (c_Numeral_findSize l dC dI X h_this_numeral h_this_tape h_this_tape_row h_this_room h_this_room_row h_this_size c_this_tape_row c_this_room_row H.size v_numeral_next v_numeral_negative v_numeral_sixteen v_numeral_hasPoint v_numeral_hasPower v_numeral_from v_numeral_to v_numeral_before v_numeral_digits v_numeral_power v6 v_tape_length a_tape_row v_room_first v_room_last a_room_row v_size_factor v_size_power v_size_infinite (v8, v9, a10, v11, v12, v13) hf) (gV q_203 q_204 q_205 q_24 q_206) (by decide +kernel) ⟨rfl, rfl, Nat.le_of_ble_eq_true rfl, Nat.le_of_ble_eq_true rfl⟩ hK hP hD hS hA hX [1, 4, 6, 2, 5, 3] [0] [1, 0] rfl (wr := [(h_this, .inr (0, [.ref h_this_tape, .ref h_this_numeral, .ref h_this_room, .ref g_this_exact, .ref h_this_size, .ref g_this_again, .ref g_this_page, .ref g_this_writer, .int v_valueKind, .long v_valueNumber, .int v_valueExponent]))]) rfl (by decide) (by decide) (by decide) rfl (va_recv hK hP (ci := 2) (q0 := 1) rfl rfl) rfl hl.1 rfl (lv_room (Nat.le_of_ble_eq_true rfl)) d_N_takeNumeral_55 ⟨Nat.zero_le _, Nat.zero_le _⟩ (fun u9 H locs h9 hP hD hS => ?_)
    cases h9
    have hP : va_P (dC, dI) classes (WS_N_takeNumeral g_this_exact g_this_again g_this_page g_this_writer h_this h_this_numeral h_this_room h_this_size h_this_tape h_this_room_row h_this_tape_row c_this_room_row c_this_tape_row v_valueKind v_valueNumber v_valueExponent v_numeral_next v_numeral_negative v_numeral_sixteen v_numeral_hasPoint v_numeral_hasPower v_numeral_from v_numeral_to v_numeral_before v_numeral_digits v_numeral_power v6 v8 v9 v11 v12 v13 v_tape_length a10 a_tape_row) H := hP.sub [0, 1, 4, 6, 2, 5, 3] rfl
    have hD : va_D A (WS_N_takeNumeral g_this_exact g_this_again g_this_page g_this_writer h_this h_this_numeral h_this_room h_this_size h_this_tape h_this_room_row h_this_tape_row c_this_room_row c_this_tape_row v_valueKind v_valueNumber v_valueExponent v_numeral_next v_numeral_negative v_numeral_sixteen v_numeral_hasPoint v_numeral_hasPower v_numeral_from v_numeral_to v_numeral_before v_numeral_digits v_numeral_power v6 v8 v9 v11 v12 v13 v_tape_length a10 a_tape_row) := hD.sub [0, 1, 4, 6, 2, 5, 3] (by decide) rfl
    refine lv_aload_n hx hb d_N_takeNumeral_58 rfl (lv_at hl 1 rfl) ?_
    refine lv_iload_n hx hb d_N_takeNumeral_59 rfl (lv_at hl 0 rfl) ?_
    obtain ⟨v14, v15, v16, hf, h⟩ := bi3_x h
    refine clVv (D := (dC, dI)) (n := 1) (As := [.int r4]) ⟨hx, hb, hml, hown, ht⟩ (c_N_takeSize l dC dI X h_this_tape h_this_numeral h_this_room g_this_exact g_this_again g_this_page g_this_writer h_this h_this_size H.size v_valueKind v_valueNumber v_valueExponent v11 v12 v13 r4 (v14, v15, v16) hf) (gV q_207 q_208 q_209 q_86 q_210) (by decide +kernel) ⟨rfl, rfl, Nat.le_of_ble_eq_true rfl, Nat.le_of_ble_eq_true rfl⟩ hK hP hD hS hA hX [0, 3] [1, 2, 4, 5, 6] [] rfl (wr := [(h_this_numeral, .inr (2, [.ref h_this_tape, .int v_numeral_next, .int v_numeral_negative, .int v_numeral_sixteen, .int v_numeral_hasPoint, .int v_numeral_hasPower, .int v_numeral_from, .int v_numeral_to, .int v_numeral_before, .int v_numeral_digits, .int v_numeral_power, .long v6])), (h_this_room, .inr (3, [.ref h_this_room_row, .int v8, .int v9])), (h_this_tape, .inr (1, [.ref h_this_tape_row, .int v_tape_length])), (h_this_room_row, .inl (c_this_room_row, 208, .inl a10)), (h_this_tape_row, .inl (c_this_tape_row, 1200, .inl a_tape_row))]) rfl (by decide) (by decide) (by decide) rfl (va_recv hK hP (ci := 0) (q0 := 0) rfl rfl) rfl hl.1 rfl (lv_room (Nat.le_of_ble_eq_true rfl)) d_N_takeNumeral_60 ⟨Nat.zero_le _, Nat.zero_le _⟩ (fun u9 H locs h9 hP hD hS => ?_)
    cases h9
    have hP : va_P (dC, dI) classes (WS_N_takeNumeral g_this_exact g_this_again g_this_page g_this_writer h_this h_this_numeral h_this_room h_this_size h_this_tape h_this_room_row h_this_tape_row c_this_room_row c_this_tape_row v14 v15 v16 v_numeral_next v_numeral_negative v_numeral_sixteen v_numeral_hasPoint v_numeral_hasPower v_numeral_from v_numeral_to v_numeral_before v_numeral_digits v_numeral_power v6 v8 v9 v11 v12 v13 v_tape_length a10 a_tape_row) H := hP.sub [5, 0, 1, 6, 2, 3, 4] rfl
    have hD : va_D A (WS_N_takeNumeral g_this_exact g_this_again g_this_page g_this_writer h_this h_this_numeral h_this_room h_this_size h_this_tape h_this_room_row h_this_tape_row c_this_room_row c_this_tape_row v14 v15 v16 v_numeral_next v_numeral_negative v_numeral_sixteen v_numeral_hasPoint v_numeral_hasPower v_numeral_from v_numeral_to v_numeral_before v_numeral_digits v_numeral_power v6 v8 v9 v11 v12 v13 v_tape_length a10 a_tape_row) := hD.sub [5, 0, 1, 6, 2, 3, 4] (by decide) rfl
    exact W.vret hx hb hr (fun t ht9 hW => ⟨⟨(v14, v15, v16, v6, v8, v9, v11, v12, v13, a10), rfl, h, by rw [ht9]; exact hP, va_K.moved hW.alike hK, hD⟩, hS.F ht9⟩) hS.2.2 d_N_takeNumeral_63 hlk
  · have h := if_f c7 h
    refine lv_aload_n hx hb d_N_takeNumeral_18 rfl (lv_at hl 1 rfl) ?_
    refine va_get (D := (dC, dI)) (ci := 0) (v := .ref h_this_numeral) (C := R_N) (T := F_N) (N := 11) hx hb ht i_N hown hK hP 0 rfl rfl 1 (by decide) (ht _ q_193) (fun _ h9 => h9) rfl d_N_takeNumeral_19 ?_
    obtain ⟨r17, hf, h⟩ := bi1_x h
    refine clVl (D := (dC, dI)) (n := 0) (As := []) ⟨hx, hb, hml, hown, ht⟩ (c_Numeral_foundWhole l dC dI X h_this_tape h_this_numeral H.size v_numeral_next v_numeral_negative v_numeral_sixteen v_numeral_hasPoint v_numeral_hasPower v_numeral_from v_numeral_to v_numeral_before v_numeral_digits v_numeral_power v6 r17 hf) (gV q_211 q_212 q_213 q_24 q_214) (by decide +kernel) ⟨rfl, rfl, Nat.le_of_ble_eq_true rfl, Nat.le_of_ble_eq_true rfl⟩ hK hP hD hS hA hX [1] [0, 2, 3, 4, 5, 6] [] rfl (wr := [(h_this, .inr (0, [.ref h_this_tape, .ref h_this_numeral, .ref h_this_room, .ref g_this_exact, .ref h_this_size, .ref g_this_again, .ref g_this_page, .ref g_this_writer, .int v_valueKind, .long v_valueNumber, .int v_valueExponent])), (h_this_room, .inr (3, [.ref h_this_room_row, .int v_room_first, .int v_room_last])), (h_this_size, .inr (4, [.long v_size_factor, .int v_size_power, .int v_size_infinite])), (h_this_tape, .inr (1, [.ref h_this_tape_row, .int v_tape_length])), (h_this_room_row, .inl (c_this_room_row, 208, .inl a_room_row)), (h_this_tape_row, .inl (c_this_tape_row, 1200, .inl a_tape_row))]) rfl (by decide) (by decide) (by decide) rfl (va_recv hK hP (ci := 2) (q0 := 1) rfl rfl) rfl hl.1 rfl (lv_room (Nat.le_of_ble_eq_true rfl)) d_N_takeNumeral_22 ⟨Nat.zero_le _, Nat.zero_le _⟩ (fun r9 u9 H locs h9 hP hD hS => ?_)
    cases h9
    have hP : va_P (dC, dI) classes (WS_N_takeNumeral g_this_exact g_this_again g_this_page g_this_writer h_this h_this_numeral h_this_room h_this_size h_this_tape h_this_room_row h_this_tape_row c_this_room_row c_this_tape_row v_valueKind v_valueNumber v_valueExponent v_numeral_next v_numeral_negative v_numeral_sixteen v_numeral_hasPoint v_numeral_hasPower v_numeral_from v_numeral_to v_numeral_before v_numeral_digits v_numeral_power v6 v_room_first v_room_last v_size_factor v_size_power v_size_infinite v_tape_length a_room_row a_tape_row) H := hP.sub [0, 6, 1, 2, 3, 4, 5] rfl
    have hD : va_D A (WS_N_takeNumeral g_this_exact g_this_again g_this_page g_this_writer h_this h_this_numeral h_this_room h_this_size h_this_tape h_this_room_row h_this_tape_row c_this_room_row c_this_tape_row v_valueKind v_valueNumber v_valueExponent v_numeral_next v_numeral_negative v_numeral_sixteen v_numeral_hasPoint v_numeral_hasPower v_numeral_from v_numeral_to v_numeral_before v_numeral_digits v_numeral_power v6 v_room_first v_room_last v_size_factor v_size_power v_size_infinite v_tape_length a_room_row a_tape_row) := hD.sub [0, 6, 1, 2, 3, 4, 5] (by decide) rfl
    refine lv_lstore_n (lv' := [(2, .long r17), (1, .int r4), (0, .ref h_this)]) hx hb d_N_takeNumeral_25 rfl hl (by decide) rfl (fun ls hl => ?_)
    refine lv_aload_n hx hb d_N_takeNumeral_26 rfl (lv_at hl 2 rfl) ?_
    refine lv_iconst (v := 1) hx hb d_N_takeNumeral_27 (by decide) ?_
    refine lv_iload_n hx hb d_N_takeNumeral_28 rfl (lv_at hl 1 rfl) ?_
    refine lv_if_eq (tgt := 37) hx hb d_N_takeNumeral_29 (by decide) (fun c18 => ?_) (fun c18 => ?_)
    · have h := if_t c18 h
      refine lv_lload_n hx hb d_N_takeNumeral_37 rfl (lv_at hl 0 rfl) ?_
      exact s_N_takeNumeral_38 cx hK hA hX v_valueKind v_valueNumber v_valueExponent v_numeral_negative v_numeral_sixteen v_numeral_hasPoint v_numeral_hasPower v_numeral_from v_numeral_to v_numeral_before v_numeral_digits v_numeral_power v6 v_room_first v_room_last v_size_factor v_size_power v_size_infinite v_tape_length a_room_row a_tape_row (1 : Int32) r17 H locs ls hP hD hS (lv_sub hl [2] rfl) h
    · have h := if_f c18 h
      refine lv_lload_n hx hb d_N_takeNumeral_32 rfl (lv_at hl 0 rfl) ?_
      refine lv_lneg hx hb d_N_takeNumeral_33 ?_
      refine lv_goto (tgt := 38) hx hb d_N_takeNumeral_34 (by decide) ?_
      exact s_N_takeNumeral_38 cx hK hA hX v_valueKind v_valueNumber v_valueExponent v_numeral_negative v_numeral_sixteen v_numeral_hasPoint v_numeral_hasPower v_numeral_from v_numeral_to v_numeral_before v_numeral_digits v_numeral_power v6 v_room_first v_room_last v_size_factor v_size_power v_size_infinite v_tape_length a_room_row a_tape_row (1 : Int32) (-r17) H locs ls hP hD hS (lv_sub hl [2] rfl) h
set_option maxHeartbeats 4000000 in
set_option maxRecDepth 100000 in
theorem c_N_takeNumeral (l : Launch) (dC : Nat → ClassId) (dI : Nat → Nat → Nat) (X : SXT) (g_this_exact : Nat) (g_this_again : Nat) (g_this_page : Nat) (g_this_writer : Nat) (h_this : Nat) (h_this_numeral : Nat) (h_this_room : Nat) (h_this_size : Nat) (h_this_tape : Nat) (h_this_room_row : Nat) (h_this_tape_row : Nat) (c_this_room_row : ClassId) (c_this_tape_row : ClassId) (sz : Nat) (v_valueKind : Int32) (v_valueNumber : Int64) (v_valueExponent : Int32) (v_numeral_next : Int32) (v_numeral_negative : Int32) (v_numeral_sixteen : Int32) (v_numeral_hasPoint : Int32) (v_numeral_hasPower : Int32) (v_numeral_from : Int32) (v_numeral_to : Int32) (v_numeral_before : Int32) (v_numeral_digits : Int32) (v_numeral_power : Int32) (v_numeral_found : Int64) (v_room_first : Int32) (v_room_last : Int32) (v_size_factor : Int64) (v_size_power : Int32) (v_size_infinite : Int32) (v_tape_length : Int32) (a_room_row : (Nat → Int32)) (a_tape_row : (Nat → Int32)) (res : Int32 × Int64 × Int32 × Int64 × Int32 × Int32 × Int64 × Int32 × Int32 × (Nat → Int32)) (hf : f_N_takeNumeral v_valueKind v_valueNumber v_valueExponent v_numeral_negative v_numeral_sixteen v_numeral_hasPoint v_numeral_hasPower v_numeral_from v_numeral_to v_numeral_before v_numeral_digits v_numeral_power v_numeral_found v_room_first v_room_last v_size_factor v_size_power v_size_infinite v_tape_length a_room_row a_tape_row = some res) : Met l y_N_takeNumeral (.code y_N_takeNumeral b_N_takeNumeral 4 none :: w0) ({ frames := 7, cells := 0, slots := 0, locals := 170 }) (va_Pc [.ref h_this] (gP (dC, dI) (WS_N_takeNumeral g_this_exact g_this_again g_this_page g_this_writer h_this h_this_numeral h_this_room h_this_size h_this_tape h_this_room_row h_this_tape_row c_this_room_row c_this_tape_row v_valueKind v_valueNumber v_valueExponent v_numeral_next v_numeral_negative v_numeral_sixteen v_numeral_hasPoint v_numeral_hasPower v_numeral_from v_numeral_to v_numeral_before v_numeral_digits v_numeral_power v_numeral_found v_room_first v_room_last v_size_factor v_size_power v_size_infinite v_tape_length a_room_row a_tape_row) [(c_this_room_row, .int), (c_this_tape_row, .byte)] sz X)) (va_Qv (fun (u : Int32 × Int64 × Int32 × Int64 × Int32 × Int32 × Int64 × Int32 × Int32 × (Nat → Int32)) => some u = some res) (gB (dC, dI) [(c_this_room_row, .int), (c_this_tape_row, .byte)] (va_A (WS_N_takeNumeral g_this_exact g_this_again g_this_page g_this_writer h_this h_this_numeral h_this_room h_this_size h_this_tape h_this_room_row h_this_tape_row c_this_room_row c_this_tape_row v_valueKind v_valueNumber v_valueExponent v_numeral_next v_numeral_negative v_numeral_sixteen v_numeral_hasPoint v_numeral_hasPower v_numeral_from v_numeral_to v_numeral_before v_numeral_digits v_numeral_power v_numeral_found v_room_first v_room_last v_size_factor v_size_power v_size_infinite v_tape_length a_room_row a_tape_row) sz) (fun (u : Int32 × Int64 × Int32 × Int64 × Int32 × Int32 × Int64 × Int32 × Int32 × (Nat → Int32)) => (WS_N_takeNumeral g_this_exact g_this_again g_this_page g_this_writer h_this h_this_numeral h_this_room h_this_size h_this_tape h_this_room_row h_this_tape_row c_this_room_row c_this_tape_row u.1 u.2.1 u.2.2.1 v_numeral_next v_numeral_negative v_numeral_sixteen v_numeral_hasPoint v_numeral_hasPower v_numeral_from v_numeral_to v_numeral_before v_numeral_digits v_numeral_power u.2.2.2.1 u.2.2.2.2.1 u.2.2.2.2.2.1 u.2.2.2.2.2.2.1 u.2.2.2.2.2.2.2.1 u.2.2.2.2.2.2.2.2.1 v_tape_length u.2.2.2.2.2.2.2.2.2 a_tape_row))) (va_A (WS_N_takeNumeral g_this_exact g_this_again g_this_page g_this_writer h_this h_this_numeral h_this_room h_this_size h_this_tape h_this_room_row h_this_tape_row c_this_room_row c_this_tape_row v_valueKind v_valueNumber v_valueExponent v_numeral_next v_numeral_negative v_numeral_sixteen v_numeral_hasPoint v_numeral_hasPower v_numeral_from v_numeral_to v_numeral_before v_numeral_digits v_numeral_power v_numeral_found v_room_first v_room_last v_size_factor v_size_power v_size_infinite v_tape_length a_room_row a_tape_row) sz)) 0 0 (va_A (WS_N_takeNumeral g_this_exact g_this_again g_this_page g_this_writer h_this h_this_numeral h_this_room h_this_size h_this_tape h_this_room_row h_this_tape_row c_this_room_row c_this_tape_row v_valueKind v_valueNumber v_valueExponent v_numeral_next v_numeral_negative v_numeral_sixteen v_numeral_hasPoint v_numeral_hasPower v_numeral_from v_numeral_to v_numeral_before v_numeral_digits v_numeral_power v_numeral_found v_room_first v_room_last v_size_factor v_size_power v_size_infinite v_tape_length a_room_row a_tape_row) sz) := by
  refine Met.ofW (cc := b_N_takeNumeral) (maxL := 4) (ret := none) (by decide) rfl ?_
  intro p e s m args below meth c s₁ B hml hv
  obtain ⟨rfl, hsz, hP, hK, hD0, hX⟩ := hv
  subst hsz
  have cx : cxx p s m ([.ref h_this] : List Value).toArray meth c b_N_takeNumeral 4 none R_N := ⟨B.exec, B.bytes, B.returns, hml, findClass_of_methodNamed B.named, fun w9 hw => atoms_spec (ws := .code y_N_takeNumeral b_N_takeNumeral 4 none :: w0) B.pre w9 (List.mem_cons_of_mem _ hw), B.notSynchronized⟩
  have hD := hD0.self (sz := s.heap.size)
  generalize hAe : va_A (WS_N_takeNumeral g_this_exact g_this_again g_this_page g_this_writer h_this h_this_numeral h_this_room h_this_size h_this_tape h_this_room_row h_this_tape_row c_this_room_row c_this_tape_row v_valueKind v_valueNumber v_valueExponent v_numeral_next v_numeral_negative v_numeral_sixteen v_numeral_hasPoint v_numeral_hasPower v_numeral_from v_numeral_to v_numeral_before v_numeral_digits v_numeral_power v_numeral_found v_room_first v_room_last v_size_factor v_size_power v_size_infinite v_tape_length a_room_row a_tape_row) s.heap.size = A at hD hX ⊢
  have hA : ∀ q : Nat, s.heap.size ≤ q → A q := fun q h => by rw [← hAe]; exact Or.inr h
  have hS : va_S A s.heap s.heap [] := va_S.rf
  have hl := lv_entry ([.ref h_this]) (n := 4) (Nat.le_of_ble_eq_true rfl)
  rw [lg_entry_eq]
  generalize (lg_sl ([.ref h_this]) ++ List.replicate (4 - (lg_sl ([.ref h_this])).length) Slot.unset).toArray = ls at hl ⊢
  have hl : lv_has ls 4 [(0, .ref h_this)] := hl
  exact s_N_takeNumeral_e cx hK hA hX v_valueKind v_valueNumber v_valueExponent v_numeral_negative v_numeral_sixteen v_numeral_hasPoint v_numeral_hasPower v_numeral_from v_numeral_to v_numeral_before v_numeral_digits v_numeral_power v_numeral_found v_room_first v_room_last v_size_factor v_size_power v_size_infinite v_tape_length a_room_row a_tape_row s.heap [] ls hP hD hS hl hf

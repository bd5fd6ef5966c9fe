def f_M_hex_37 (y0 : Int32) : Option (Int32) :=
  if y0 < (65 : Int32) then
    some (-1 : Int32)
  else
    if (70 : Int32) < y0 then
      some (-1 : Int32)
    else
      some ((y0 - (65 : Int32)) + (10 : Int32))
def f_M_hex_17 (y0 : Int32) : Option (Int32) :=
  if y0 < (97 : Int32) then
    f_M_hex_37 y0
  else
    if (102 : Int32) < y0 then
      f_M_hex_37 y0
    else
      some ((y0 - (97 : Int32)) + (10 : Int32))
def f_M_hex (p0 : Int32) : Option (Int32) :=
  if p0 < (48 : Int32) then
    f_M_hex_17 p0
  else
    if (57 : Int32) < p0 then
      f_M_hex_17 p0
    else
      some (p0 - (48 : Int32))
set_option maxHeartbeats 4000000 in
set_option maxRecDepth 100000 in
theorem s_M_hex_37 {p : Program} {l : Launch} {e : Env} {s : State} {m : MethodId} {args : Array Value} {below : List Frame} {meth : Method} {c : Code} {dC : Nat → ClassId} {dI : Nat → Nat → Nat} {A : Nat → Prop} {X : SXT} {res : Int32}  (cx : cxx p s m args meth c b_M_hex 1 (some .int) R_M) (hK : va_K (dC, dI) classes [] s) (hA : ∀ q, s.heap.size ≤ q → A q) (hX : SX X A s s.heap)  : ∀ (y0 : Int32) (H : Heap) (locs : List Loc) (ls : Array Slot), va_P (dC, dI) classes [] H → va_D A [] → va_S A s.heap H locs → lv_has ls 1 [(0, .int y0)] → f_M_hex_37 y0 = some res → W p l e ({ frames := 0, cells := 0, slots := 0, locals := 0 }) s m args below meth c H locs 0 0 (MQ below (va_Qi (fun (r : Int32) (_ : Unit) => some r = some res) (gB (dC, dI) [] A (fun (u : Unit) => [])) A) args s 0 0 A) (F0 m 37 ls []) := by
  intro y0 H locs ls hP hD hS hl h
  obtain ⟨hx, hb, hr, hml, hown, ht, hlk⟩ := id cx
  refine lv_iload_n hx hb d_M_hex_37 rfl (lv_at hl 0 rfl) ?_
  refine lv_bipush (v := 65) hx hb d_M_hex_38 (by decide) ?_
  refine lv_icmp_lt (tgt := 59) hx hb d_M_hex_40 (by decide) (fun c1 => ?_) (fun c1 => ?_)
  · have h := if_t c1 h
    refine lv_iconst (v := -1) hx hb d_M_hex_59 (by decide) ?_
    exact W.iret (v := (-1 : Int32)) hx hb hr (fun t ht9 hW => ⟨⟨(-1 : Int32), (), rfl, h, by rw [ht9]; exact hP, va_K.moved hW.alike hK, hD⟩, hS.F ht9⟩) hS.2.2 d_M_hex_60 hlk
  · have h := if_f c1 h
    refine lv_iload_n hx hb d_M_hex_43 rfl (lv_at hl 0 rfl) ?_
    refine lv_bipush (v := 70) hx hb d_M_hex_44 (by decide) ?_
    refine lv_icmp_gt (tgt := 59) hx hb d_M_hex_46 (by decide) (fun c2 => ?_) (fun c2 => ?_)
    · have h := if_t c2 h
      refine lv_iconst (v := -1) hx hb d_M_hex_59 (by decide) ?_
      exact W.iret (v := (-1 : Int32)) hx hb hr (fun t ht9 hW => ⟨⟨(-1 : Int32), (), rfl, h, by rw [ht9]; exact hP, va_K.moved hW.alike hK, hD⟩, hS.F ht9⟩) hS.2.2 d_M_hex_60 hlk
    · have h := if_f c2 h
      refine lv_iload_n hx hb d_M_hex_49 rfl (lv_at hl 0 rfl) ?_
      refine lv_bipush (v := 65) hx hb d_M_hex_50 (by decide) ?_
      refine lv_isub hx hb d_M_hex_52 ?_
      refine lv_bipush (v := 10) hx hb d_M_hex_53 (by decide) ?_
      refine lv_iadd hx hb d_M_hex_55 ?_
      refine lv_goto (tgt := 60) hx hb d_M_hex_56 (by decide) ?_
      exact W.iret (v := ((y0 - (65 : Int32)) + (10 : Int32))) hx hb hr (fun t ht9 hW => ⟨⟨((y0 - (65 : Int32)) + (10 : Int32)), (), rfl, h, by rw [ht9]; exact hP, va_K.moved hW.alike hK, hD⟩, hS.F ht9⟩) hS.2.2 d_M_hex_60 hlk
set_option maxHeartbeats 4000000 in
set_option maxRecDepth 100000 in
theorem s_M_hex_17 {p : Program} {l : Launch} {e : Env} {s : State} {m : MethodId} {args : Array Value} {below : List Frame} {meth : Method} {c : Code} {dC : Nat → ClassId} {dI : Nat → Nat → Nat} {A : Nat → Prop} {X : SXT} {res : Int32}  (cx : cxx p s m args meth c b_M_hex 1 (some .int) R_M) (hK : va_K (dC, dI) classes [] s) (hA : ∀ q, s.heap.size ≤ q → A q) (hX : SX X A s s.heap)  : ∀ (y0 : Int32) (H : Heap) (locs : List Loc) (ls : Array Slot), va_P (dC, dI) classes [] H → va_D A [] → va_S A s.heap H locs → lv_has ls 1 [(0, .int y0)] → f_M_hex_17 y0 = some res → W p l e ({ frames := 0, cells := 0, slots := 0, locals := 0 }) s m args below meth c H locs 0 0 (MQ below (va_Qi (fun (r : Int32) (_ : Unit) => some r = some res) (gB (dC, dI) [] A (fun (u : Unit) => [])) A) args s 0 0 A) (F0 m 17 ls []) := by
  intro y0 H locs ls hP hD hS hl h
  obtain ⟨hx, hb, hr, hml, hown, ht, hlk⟩ := id cx
  refine lv_iload_n hx hb d_M_hex_17 rfl (lv_at hl 0 rfl) ?_
  refine lv_bipush (v := 97) hx hb d_M_hex_18 (by decide) ?_
  refine lv_icmp_lt (tgt := 37) hx hb d_M_hex_20 (by decide) (fun c3 => ?_) (fun c3 => ?_)
  · have h := if_t c3 h
    exact s_M_hex_37 cx hK hA hX y0 H locs ls hP hD hS (lv_sub hl [0] rfl) h
  · have h := if_f c3 h
    refine lv_iload_n hx hb d_M_hex_23 rfl (lv_at hl 0 rfl) ?_
    refine lv_bipush (v := 102) hx hb d_M_hex_24 (by decide) ?_
    refine lv_icmp_gt (tgt := 37) hx hb d_M_hex_26 (by decide) (fun c4 => ?_) (fun c4 => ?_)
    · have h := if_t c4 h
      exact s_M_hex_37 cx hK hA hX y0 H locs ls hP hD hS (lv_sub hl [0] rfl) h
    · have h := if_f c4 h
      refine lv_iload_n hx hb d_M_hex_29 rfl (lv_at hl 0 rfl) ?_
      refine lv_bipush (v := 97) hx hb d_M_hex_30 (by decide) ?_
      refine lv_isub hx hb d_M_hex_32 ?_
      refine lv_bipush (v := 10) hx hb d_M_hex_33 (by decide) ?_
      refine lv_iadd hx hb d_M_hex_35 ?_
      exact W.iret (v := ((y0 - (97 : Int32)) + (10 : Int32))) hx hb hr (fun t ht9 hW => ⟨⟨((y0 - (97 : Int32)) + (10 : Int32)), (), rfl, h, by rw [ht9]; exact hP, va_K.moved hW.alike hK, hD⟩, hS.F ht9⟩) hS.2.2 d_M_hex_36 hlk
set_option maxHeartbeats 4000000 in
set_option maxRecDepth 100000 in
theorem s_M_hex_e {p : Program} {l : Launch} {e : Env} {s : State} {m : MethodId} {args : Array Value} {below : List Frame} {meth : Method} {c : Code} {dC : Nat → ClassId} {dI : Nat → Nat → Nat} {A : Nat → Prop} {X : SXT} {res : Int32} (cx : cxx p s m args meth c b_M_hex 1 (some .int) R_M) (hK : va_K (dC, dI) classes [] s) (hA : ∀ q, s.heap.size ≤ q → A q) (hX : SX X A s s.heap) : ∀ (p0 : Int32) (H : Heap) (locs : List Loc) (ls : Array Slot), va_P (dC, dI) classes [] H → va_D A [] → va_S A s.heap H locs → lv_has ls 1 [(0, .int p0)] → f_M_hex p0 = some res → W p l e ({ frames := 0, cells := 0, slots := 0, locals := 0 }) s m args below meth c H locs 0 0 (MQ below (va_Qi (fun (r : Int32) (_ : Unit) => some r = some res) (gB (dC, dI) [] A (fun (u : Unit) => [])) A) args s 0 0 A) (F0 m 0 ls []) := by
  intro p0 H locs ls hP hD hS hl h
  obtain ⟨hx, hb, hr, hml, hown, ht, hlk⟩ := id cx
  refine lv_iload_n hx hb d_M_hex_0 rfl (lv_at hl 0 rfl) ?_
  refine lv_bipush (v := 48) hx hb d_M_hex_1 (by decide) ?_
  refine lv_icmp_lt (tgt := 17) hx hb d_M_hex_3 (by decide) (fun c5 => ?_) (fun c5 => ?_)
  · have h := if_t c5 h
    exact s_M_hex_17 cx hK hA hX p0 H locs ls hP hD hS (lv_sub hl [0] rfl) h
  · have h := if_f c5 h
    refine lv_iload_n hx hb d_M_hex_6 rfl (lv_at hl 0 rfl) ?_
    refine lv_bipush (v := 57) hx hb d_M_hex_7 (by decide) ?_
    refine lv_icmp_gt (tgt := 17) hx hb d_M_hex_9 (by decide) (fun c6 => ?_) (fun c6 => ?_)
    · have h := if_t c6 h
      exact s_M_hex_17 cx hK hA hX p0 H locs ls hP hD hS (lv_sub hl [0] rfl) h
    · have h := if_f c6 h
      refine lv_iload_n hx hb d_M_hex_12 rfl (lv_at hl 0 rfl) ?_
      refine lv_bipush (v := 48) hx hb d_M_hex_13 (by decide) ?_
      refine lv_isub hx hb d_M_hex_15 ?_
      exact W.iret (v := (p0 - (48 : Int32))) hx hb hr (fun t ht9 hW => ⟨⟨(p0 - (48 : Int32)), (), rfl, h, by rw [ht9]; exact hP, va_K.moved hW.alike hK, hD⟩, hS.F ht9⟩) hS.2.2 d_M_hex_16 hlk
set_option maxHeartbeats 4000000 in
set_option maxRecDepth 100000 in
theorem c_M_hex (l : Launch) (dC : Nat → ClassId) (dI : Nat → Nat → Nat) (X : SXT) (sz : Nat) (p0 : Int32) (res : Int32) (hf : f_M_hex p0 = some res) : Met l y_M_hex (.code y_M_hex b_M_hex 1 (some .int) :: w0) ({ frames := 0, cells := 0, slots := 0, locals := 0 }) (va_Pc [.int p0] (gP (dC, dI) [] [] sz X)) (va_Qi (fun (r : Int32) (_ : Unit) => some r = some res) (gB (dC, dI) [] (va_A [] sz) (fun (u : Unit) => [])) (va_A [] sz)) 0 0 (va_A [] sz) := by
  refine Met.ofW (cc := b_M_hex) (maxL := 1) (ret := (some .int)) (by decide) rfl ?_
  intro p e s m args below meth c s₁ B hml hv
  obtain ⟨rfl, hsz, hP, hK, hD0, hX⟩ := hv
  subst hsz
  have cx : cxx p s m ([.int p0] : List Value).toArray meth c b_M_hex 1 (some .int) R_M := ⟨B.exec, B.bytes, B.returns, hml, findClass_of_methodNamed B.named, fun w9 hw => atoms_spec (ws := .code y_M_hex b_M_hex 1 (some .int) :: w0) B.pre w9 (List.mem_cons_of_mem _ hw), B.notSynchronized⟩
  have hD := hD0.self (sz := s.heap.size)
  generalize hAe : va_A [] s.heap.size = A at hD hX ⊢
  have hA : ∀ q : Nat, s.heap.size ≤ q → A q := fun q h => by rw [← hAe]; exact Or.inr h
  have hS : va_S A s.heap s.heap [] := va_S.rf
  have hl := lv_entry ([.int p0]) (n := 1) (Nat.le_of_ble_eq_true rfl)
  rw [lg_entry_eq]
  generalize (lg_sl ([.int p0]) ++ List.replicate (1 - (lg_sl ([.int p0])).length) Slot.unset).toArray = ls at hl ⊢
  have hl : lv_has ls 1 [(0, .int p0)] := hl
  exact s_M_hex_e cx hK hA hX p0 s.heap [] ls hP hD hS hl hf
def f_M_isDigit (p0 : Int32) : Option (Int32) :=
  if p0 < (48 : Int32) then
    some (0 : Int32)
  else
    if (57 : Int32) < p0 then
      some (0 : Int32)
    else
      some (1 : Int32)
set_option maxHeartbeats 4000000 in
set_option maxRecDepth 100000 in
theorem s_M_isDigit_e {p : Program} {l : Launch} {e : Env} {s : State} {m : MethodId} {args : Array Value} {below : List Frame} {meth : Method} {c : Code} {dC : Nat → ClassId} {dI : Nat → Nat → Nat} {A : Nat → Prop} {X : SXT} {res : Int32} (cx : cxx p s m args meth c b_M_isDigit 1 (some .boolean) R_M) (hK : va_K (dC, dI) classes [] s) (hA : ∀ q, s.heap.size ≤ q → A q) (hX : SX X A s s.heap) : ∀ (p0 : Int32) (H : Heap) (locs : List Loc) (ls : Array Slot), va_P (dC, dI) classes [] H → va_D A [] → va_S A s.heap H locs → lv_has ls 1 [(0, .int p0)] → f_M_isDigit p0 = some res → W p l e ({ frames := 0, cells := 0, slots := 0, locals := 0 }) s m args below meth c H locs 0 0 (MQ below (va_Qi (fun (r : Int32) (_ : Unit) => some r = some res) (gB (dC, dI) [] A (fun (u : Unit) => [])) A) args s 0 0 A) (F0 m 0 ls []) := by
  intro p0 H locs ls hP hD hS hl h
  obtain ⟨hx, hb, hr, hml, hown, ht, hlk⟩ := id cx
  refine lv_iload_n hx hb d_M_isDigit_0 rfl (lv_at hl 0 rfl) ?_
  refine lv_bipush (v := 48) hx hb d_M_isDigit_1 (by decide) ?_
  refine lv_icmp_lt (tgt := 16) hx hb d_M_isDigit_3 (by decide) (fun c1 => ?_) (fun c1 => ?_)
  · have h := if_t c1 h
    refine lv_iconst (v := 0) hx hb d_M_isDigit_16 (by decide) ?_
    exact W.zret (v := (0 : Int32)) hx hb hr rfl (fun t ht9 hW => ⟨⟨(0 : Int32), (), rfl, h, by rw [ht9]; exact hP, va_K.moved hW.alike hK, hD⟩, hS.F ht9⟩) hS.2.2 d_M_isDigit_17 hlk
  · have h := if_f c1 h
    refine lv_iload_n hx hb d_M_isDigit_6 rfl (lv_at hl 0 rfl) ?_
    refine lv_bipush (v := 57) hx hb d_M_isDigit_7 (by decide) ?_
    refine lv_icmp_gt (tgt := 16) hx hb d_M_isDigit_9 (by decide) (fun c2 => ?_) (fun c2 => ?_)
    · have h := if_t c2 h
      refine lv_iconst (v := 0) hx hb d_M_isDigit_16 (by decide) ?_
      exact W.zret (v := (0 : Int32)) hx hb hr rfl (fun t ht9 hW => ⟨⟨(0 : Int32), (), rfl, h, by rw [ht9]; exact hP, va_K.moved hW.alike hK, hD⟩, hS.F ht9⟩) hS.2.2 d_M_isDigit_17 hlk
    · have h := if_f c2 h
      refine lv_iconst (v := 1) hx hb d_M_isDigit_12 (by decide) ?_
      refine lv_goto (tgt := 17) hx hb d_M_isDigit_13 (by decide) ?_
      exact W.zret (v := (1 : Int32)) hx hb hr rfl (fun t ht9 hW => ⟨⟨(1 : Int32), (), rfl, h, by rw [ht9]; exact hP, va_K.moved hW.alike hK, hD⟩, hS.F ht9⟩) hS.2.2 d_M_isDigit_17 hlk
set_option maxHeartbeats 4000000 in
set_option maxRecDepth 100000 in
theorem c_M_isDigit (l : Launch) (dC : Nat → ClassId) (dI : Nat → Nat → Nat) (X : SXT) (sz : Nat) (p0 : Int32) (res : Int32) (hf : f_M_isDigit p0 = some res) : Met l y_M_isDigit (.code y_M_isDigit b_M_isDigit 1 (some .boolean) :: w0) ({ frames := 0, cells := 0, slots := 0, locals := 0 }) (va_Pc [.int p0] (gP (dC, dI) [] [] sz X)) (va_Qi (fun (r : Int32) (_ : Unit) => some r = some res) (gB (dC, dI) [] (va_A [] sz) (fun (u : Unit) => [])) (va_A [] sz)) 0 0 (va_A [] sz) := by
  refine Met.ofW (cc := b_M_isDigit) (maxL := 1) (ret := (some .boolean)) (by decide) rfl ?_
  intro p e s m args below meth c s₁ B hml hv
  obtain ⟨rfl, hsz, hP, hK, hD0, hX⟩ := hv
  subst hsz
  have cx : cxx p s m ([.int p0] : List Value).toArray meth c b_M_isDigit 1 (some .boolean) R_M := ⟨B.exec, B.bytes, B.returns, hml, findClass_of_methodNamed B.named, fun w9 hw => atoms_spec (ws := .code y_M_isDigit b_M_isDigit 1 (some .boolean) :: w0) B.pre w9 (List.mem_cons_of_mem _ hw), B.notSynchronized⟩
  have hD := hD0.self (sz := s.heap.size)
  generalize hAe : va_A [] s.heap.size = A at hD hX ⊢
  have hA : ∀ q : Nat, s.heap.size ≤ q → A q := fun q h => by rw [← hAe]; exact Or.inr h
  have hS : va_S A s.heap s.heap [] := va_S.rf
  have hl := lv_entry ([.int p0]) (n := 1) (Nat.le_of_ble_eq_true rfl)
  rw [lg_entry_eq]
  generalize (lg_sl ([.int p0]) ++ List.replicate (1 - (lg_sl ([.int p0])).length) Slot.unset).toArray = ls at hl ⊢
  have hl : lv_has ls 1 [(0, .int p0)] := hl
  exact s_M_isDigit_e cx hK hA hX p0 s.heap [] ls hP hD hS hl hf
def f_M_isSign_12  : Option (Int32) :=
  some (1 : Int32)
def f_M_isSign (p0 : Int32) : Option (Int32) :=
  if p0 = (43 : Int32) then
    f_M_isSign_12
  else
    if p0 = (45 : Int32) then
      f_M_isSign_12
    else
      some (0 : Int32)
set_option maxHeartbeats 4000000 in
set_option maxRecDepth 100000 in
theorem s_M_isSign_12 {p : Program} {l : Launch} {e : Env} {s : State} {m : MethodId} {args : Array Value} {below : List Frame} {meth : Method} {c : Code} {dC : Nat → ClassId} {dI : Nat → Nat → Nat} {A : Nat → Prop} {X : SXT} {res : Int32}  (cx : cxx p s m args meth c b_M_isSign 1 (some .boolean) R_M) (hK : va_K (dC, dI) classes [] s) (hA : ∀ q, s.heap.size ≤ q → A q) (hX : SX X A s s.heap)  : ∀  (H : Heap) (locs : List Loc) (ls : Array Slot), va_P (dC, dI) classes [] H → va_D A [] → va_S A s.heap H locs → lv_has ls 1 [] → f_M_isSign_12  = some res → W p l e ({ frames := 0, cells := 0, slots := 0, locals := 0 }) s m args below meth c H locs 0 0 (MQ below (va_Qi (fun (r : Int32) (_ : Unit) => some r = some res) (gB (dC, dI) [] A (fun (u : Unit) => [])) A) args s 0 0 A) (F0 m 12 ls []) := by
  intro  H locs ls hP hD hS hl h
  obtain ⟨hx, hb, hr, hml, hown, ht, hlk⟩ := id cx
  refine lv_iconst (v := 1) hx hb d_M_isSign_12 (by decide) ?_
  refine lv_goto (tgt := 17) hx hb d_M_isSign_13 (by decide) ?_
  exact W.zret (v := (1 : Int32)) hx hb hr rfl (fun t ht9 hW => ⟨⟨(1 : Int32), (), rfl, h, by rw [ht9]; exact hP, va_K.moved hW.alike hK, hD⟩, hS.F ht9⟩) hS.2.2 d_M_isSign_17 hlk
set_option maxHeartbeats 4000000 in
set_option maxRecDepth 100000 in
theorem s_M_isSign_e {p : Program} {l : Launch} {e : Env} {s : State} {m : MethodId} {args : Array Value} {below : List Frame} {meth : Method} {c : Code} {dC : Nat → ClassId} {dI : Nat → Nat → Nat} {A : Nat → Prop} {X : SXT} {res : Int32} (cx : cxx p s m args meth c b_M_isSign 1 (some .boolean) R_M) (hK : va_K (dC, dI) classes [] s) (hA : ∀ q, s.heap.size ≤ q → A q) (hX : SX X A s s.heap) : ∀ (p0 : Int32) (H : Heap) (locs : List Loc) (ls : Array Slot), va_P (dC, dI) classes [] H → va_D A [] → va_S A s.heap H locs → lv_has ls 1 [(0, .int p0)] → f_M_isSign p0 = some res → W p l e ({ frames := 0, cells := 0, slots := 0, locals := 0 }) s m args below meth c H locs 0 0 (MQ below (va_Qi (fun (r : Int32) (_ : Unit) => some r = some res) (gB (dC, dI) [] A (fun (u : Unit) => [])) A) args s 0 0 A) (F0 m 0 ls []) := by
  intro p0 H locs ls hP hD hS hl h
  obtain ⟨hx, hb, hr, hml, hown, ht, hlk⟩ := id cx
  refine lv_iload_n hx hb d_M_isSign_0 rfl (lv_at hl 0 rfl) ?_
  refine lv_bipush (v := 43) hx hb d_M_isSign_1 (by decide) ?_
  refine lv_icmp_eq (tgt := 12) hx hb d_M_isSign_3 (by decide) (fun c1 => ?_) (fun c1 => ?_)
  · have h := if_t c1 h
    exact s_M_isSign_12 cx hK hA hX  H locs ls hP hD hS (lv_sub hl [] rfl) h
  · have h := if_f c1 h
    refine lv_iload_n hx hb d_M_isSign_6 rfl (lv_at hl 0 rfl) ?_
    refine lv_bipush (v := 45) hx hb d_M_isSign_7 (by decide) ?_
    refine lv_icmp_ne (tgt := 16) hx hb d_M_isSign_9 (by decide) (fun c2 => ?_) (fun c2 => ?_)
    · have h := if_f c2 h
      refine lv_iconst (v := 0) hx hb d_M_isSign_16 (by decide) ?_
      exact W.zret (v := (0 : Int32)) hx hb hr rfl (fun t ht9 hW => ⟨⟨(0 : Int32), (), rfl, h, by rw [ht9]; exact hP, va_K.moved hW.alike hK, hD⟩, hS.F ht9⟩) hS.2.2 d_M_isSign_17 hlk
    · have h := if_t c2 h
      exact s_M_isSign_12 cx hK hA hX  H locs ls hP hD hS (lv_sub hl [] rfl) h
set_option maxHeartbeats 4000000 in
set_option maxRecDepth 100000 in
theorem c_M_isSign (l : Launch) (dC : Nat → ClassId) (dI : Nat → Nat → Nat) (X : SXT) (sz : Nat) (p0 : Int32) (res : Int32) (hf : f_M_isSign p0 = some res) : Met l y_M_isSign (.code y_M_isSign b_M_isSign 1 (some .boolean) :: w0) ({ frames := 0, cells := 0, slots := 0, locals := 0 }) (va_Pc [.int p0] (gP (dC, dI) [] [] sz X)) (va_Qi (fun (r : Int32) (_ : Unit) => some r = some res) (gB (dC, dI) [] (va_A [] sz) (fun (u : Unit) => [])) (va_A [] sz)) 0 0 (va_A [] sz) := by
  refine Met.ofW (cc := b_M_isSign) (maxL := 1) (ret := (some .boolean)) (by decide) rfl ?_
  intro p e s m args below meth c s₁ B hml hv
  obtain ⟨rfl, hsz, hP, hK, hD0, hX⟩ := hv
  subst hsz
  have cx : cxx p s m ([.int p0] : List Value).toArray meth c b_M_isSign 1 (some .boolean) R_M := ⟨B.exec, B.bytes, B.returns, hml, findClass_of_methodNamed B.named, fun w9 hw => atoms_spec (ws := .code y_M_isSign b_M_isSign 1 (some .boolean) :: w0) B.pre w9 (List.mem_cons_of_mem _ hw), B.notSynchronized⟩
  have hD := hD0.self (sz := s.heap.size)
  generalize hAe : va_A [] s.heap.size = A at hD hX ⊢
  have hA : ∀ q : Nat, s.heap.size ≤ q → A q := fun q h => by rw [← hAe]; exact Or.inr h
  have hS : va_S A s.heap s.heap [] := va_S.rf
  have hl := lv_entry ([.int p0]) (n := 1) (Nat.le_of_ble_eq_true rfl)
  rw [lg_entry_eq]
  generalize (lg_sl ([.int p0]) ++ List.replicate (1 - (lg_sl ([.int p0])).length) Slot.unset).toArray = ls at hl ⊢
  have hl : lv_has ls 1 [(0, .int p0)] := hl
  exact s_M_isSign_e cx hK hA hX p0 s.heap [] ls hP hD hS hl hf
def f_M_next3_33  : Option (Int32) :=
  some (6 : Int32)
def f_M_next3 (p0 : Int32) (p1 : Int32) : Option (Int32) :=
  bi1 (f_M_isDigit p0) fun r1 =>
  if r1 = 0 then
    if p0 = (46 : Int32) then
      some (5 : Int32)
    else
      if p0 = (101 : Int32) then
        f_M_next3_33
      else
        if p0 = (69 : Int32) then
          f_M_next3_33
        else
          if p1 = 0 then
            some (-1 : Int32)
          else
            some (9 : Int32)
  else
    some (3 : Int32)
set_option maxHeartbeats 4000000 in
set_option maxRecDepth 100000 in
theorem s_M_next3_33 {p : Program} {l : Launch} {e : Env} {s : State} {m : MethodId} {args : Array Value} {below : List Frame} {meth : Method} {c : Code} {dC : Nat → ClassId} {dI : Nat → Nat → Nat} {A : Nat → Prop} {X : SXT} {res : Int32}  (cx : cxx p s m args meth c b_M_next3 2 (some .int) R_M) (hK : va_K (dC, dI) classes [] s) (hA : ∀ q, s.heap.size ≤ q → A q) (hX : SX X A s s.heap)  : ∀  (H : Heap) (locs : List Loc) (ls : Array Slot), va_P (dC, dI) classes [] H → va_D A [] → va_S A s.heap H locs → lv_has ls 2 [] → f_M_next3_33  = some res → W p l e ({ frames := 1, cells := 0, slots := 0, locals := 20 }) s m args below meth c H locs 0 0 (MQ below (va_Qi (fun (r : Int32) (_ : Unit) => some r = some res) (gB (dC, dI) [] A (fun (u : Unit) => [])) A) args s 0 0 A) (F0 m 33 ls []) := by
  intro  H locs ls hP hD hS hl h
  obtain ⟨hx, hb, hr, hml, hown, ht, hlk⟩ := id cx
  refine lv_bipush (v := 6) hx hb d_M_next3_33 (by decide) ?_
  refine lv_goto (tgt := 48) hx hb d_M_next3_35 (by decide) ?_
  exact W.iret (v := (6 : Int32)) hx hb hr (fun t ht9 hW => ⟨⟨(6 : Int32), (), rfl, h, by rw [ht9]; exact hP, va_K.moved hW.alike hK, hD⟩, hS.F ht9⟩) hS.2.2 d_M_next3_48 hlk
set_option maxHeartbeats 4000000 in
set_option maxRecDepth 100000 in
theorem s_M_next3_e {p : Program} {l : Launch} {e : Env} {s : State} {m : MethodId} {args : Array Value} {below : List Frame} {meth : Method} {c : Code} {dC : Nat → ClassId} {dI : Nat → Nat → Nat} {A : Nat → Prop} {X : SXT} {res : Int32} (cx : cxx p s m args meth c b_M_next3 2 (some .int) R_M) (hK : va_K (dC, dI) classes [] s) (hA : ∀ q, s.heap.size ≤ q → A q) (hX : SX X A s s.heap) : ∀ (p0 : Int32) (p1 : Int32) (H : Heap) (locs : List Loc) (ls : Array Slot), va_P (dC, dI) classes [] H → va_D A [] → va_S A s.heap H locs → lv_has ls 2 [(0, .int p0), (1, .int p1)] → f_M_next3 p0 p1 = some res → W p l e ({ frames := 1, cells := 0, slots := 0, locals := 20 }) s m args below meth c H locs 0 0 (MQ below (va_Qi (fun (r : Int32) (_ : Unit) => some r = some res) (gB (dC, dI) [] A (fun (u : Unit) => [])) A) args s 0 0 A) (F0 m 0 ls []) := by
  intro p0 p1 H locs ls hP hD hS hl h
  obtain ⟨hx, hb, hr, hml, hown, ht, hlk⟩ := id cx
  refine lv_iload_n hx hb d_M_next3_0 rfl (lv_at hl 0 rfl) ?_
  obtain ⟨r1, hf, h⟩ := bi1_x h
  refine clSi (D := (dC, dI)) (n := 1) (As := [.int p0]) ⟨hx, hb, hml, hown, ht⟩ (c_M_isDigit l dC dI X  H.size p0 r1 hf) (gS q_507 q_508 q_490 q_509) (by decide +kernel) ⟨rfl, rfl, Nat.le_of_ble_eq_true rfl, Nat.le_of_ble_eq_true rfl⟩ hK hP hD hS hA hX [] [] [] rfl (wr := []) rfl (by decide) (by decide) (by decide) rfl rfl hl.1 rfl (lv_room (Nat.le_of_ble_eq_true rfl)) d_M_next3_1 ⟨Nat.zero_le _, Nat.zero_le _⟩ (fun r9 u9 H locs h9 hP hD hS => ?_)
  cases h9
  refine lv_if_eq (tgt := 11) hx hb d_M_next3_4 (by decide) (fun c2 => ?_) (fun c2 => ?_)
  · have h := if_t c2 h
    refine lv_iload_n hx hb d_M_next3_11 rfl (lv_at hl 0 rfl) ?_
    refine lv_bipush (v := 46) hx hb d_M_next3_12 (by decide) ?_
    refine lv_icmp_ne (tgt := 21) hx hb d_M_next3_14 (by decide) (fun c3 => ?_) (fun c3 => ?_)
    · have h := if_f c3 h
      refine lv_iload_n hx hb d_M_next3_21 rfl (lv_at hl 0 rfl) ?_
      refine lv_bipush (v := 101) hx hb d_M_next3_22 (by decide) ?_
      refine lv_icmp_eq (tgt := 33) hx hb d_M_next3_24 (by decide) (fun c4 => ?_) (fun c4 => ?_)
      · have h := if_t c4 h
        exact s_M_next3_33 cx hK hA hX  H locs ls hP hD hS (lv_sub hl [] rfl) h
      · have h := if_f c4 h
        refine lv_iload_n hx hb d_M_next3_27 rfl (lv_at hl 0 rfl) ?_
        refine lv_bipush (v := 69) hx hb d_M_next3_28 (by decide) ?_
        refine lv_icmp_ne (tgt := 38) hx hb d_M_next3_30 (by decide) (fun c5 => ?_) (fun c5 => ?_)
        · have h := if_f c5 h
          refine lv_iload_n hx hb d_M_next3_38 rfl (lv_at hl 1 rfl) ?_
          refine lv_if_eq (tgt := 47) hx hb d_M_next3_39 (by decide) (fun c6 => ?_) (fun c6 => ?_)
          · have h := if_t c6 h
            refine lv_iconst (v := -1) hx hb d_M_next3_47 (by decide) ?_
            exact W.iret (v := (-1 : Int32)) hx hb hr (fun t ht9 hW => ⟨⟨(-1 : Int32), (), rfl, h, by rw [ht9]; exact hP, va_K.moved hW.alike hK, hD⟩, hS.F ht9⟩) hS.2.2 d_M_next3_48 hlk
          · have h := if_f c6 h
            refine lv_bipush (v := 9) hx hb d_M_next3_42 (by decide) ?_
            refine lv_goto (tgt := 48) hx hb d_M_next3_44 (by decide) ?_
            exact W.iret (v := (9 : Int32)) hx hb hr (fun t ht9 hW => ⟨⟨(9 : Int32), (), rfl, h, by rw [ht9]; exact hP, va_K.moved hW.alike hK, hD⟩, hS.F ht9⟩) hS.2.2 d_M_next3_48 hlk
        · have h := if_t c5 h
          exact s_M_next3_33 cx hK hA hX  H locs ls hP hD hS (lv_sub hl [] rfl) h
    · have h := if_t c3 h
      refine lv_iconst (v := 5) hx hb d_M_next3_17 (by decide) ?_
      refine lv_goto (tgt := 48) hx hb d_M_next3_18 (by decide) ?_
      exact W.iret (v := (5 : Int32)) hx hb hr (fun t ht9 hW => ⟨⟨(5 : Int32), (), rfl, h, by rw [ht9]; exact hP, va_K.moved hW.alike hK, hD⟩, hS.F ht9⟩) hS.2.2 d_M_next3_48 hlk
  · have h := if_f c2 h
    refine lv_iconst (v := 3) hx hb d_M_next3_7 (by decide) ?_
    refine lv_goto (tgt := 48) hx hb d_M_next3_8 (by decide) ?_
    exact W.iret (v := (3 : Int32)) hx hb hr (fun t ht9 hW => ⟨⟨(3 : Int32), (), rfl, h, by rw [ht9]; exact hP, va_K.moved hW.alike hK, hD⟩, hS.F ht9⟩) hS.2.2 d_M_next3_48 hlk
set_option maxHeartbeats 4000000 in
set_option maxRecDepth 100000 in
theorem c_M_next3 (l : Launch) (dC : Nat → ClassId) (dI : Nat → Nat → Nat) (X : SXT) (sz : Nat) (p0 : Int32) (p1 : Int32) (res : Int32) (hf : f_M_next3 p0 p1 = some res) : Met l y_M_next3 (.code y_M_next3 b_M_next3 2 (some .int) :: w0) ({ frames := 1, cells := 0, slots := 0, locals := 20 }) (va_Pc [.int p0, .int p1] (gP (dC, dI) [] [] sz X)) (va_Qi (fun (r : Int32) (_ : Unit) => some r = some res) (gB (dC, dI) [] (va_A [] sz) (fun (u : Unit) => [])) (va_A [] sz)) 0 0 (va_A [] sz) := by
  refine Met.ofW (cc := b_M_next3) (maxL := 2) (ret := (some .int)) (by decide) rfl ?_
  intro p e s m args below meth c s₁ B hml hv
  obtain ⟨rfl, hsz, hP, hK, hD0, hX⟩ := hv
  subst hsz
  have cx : cxx p s m ([.int p0, .int p1] : List Value).toArray meth c b_M_next3 2 (some .int) R_M := ⟨B.exec, B.bytes, B.returns, hml, findClass_of_methodNamed B.named, fun w9 hw => atoms_spec (ws := .code y_M_next3 b_M_next3 2 (some .int) :: w0) B.pre w9 (List.mem_cons_of_mem _ hw), B.notSynchronized⟩
  have hD := hD0.self (sz := s.heap.size)
  generalize hAe : va_A [] s.heap.size = A at hD hX ⊢
  have hA : ∀ q : Nat, s.heap.size ≤ q → A q := fun q h => by rw [← hAe]; exact Or.inr h
  have hS : va_S A s.heap s.heap [] := va_S.rf
  have hl := lv_entry ([.int p0, .int p1]) (n := 2) (Nat.le_of_ble_eq_true rfl)
  rw [lg_entry_eq]
  generalize (lg_sl ([.int p0, .int p1]) ++ List.replicate (2 - (lg_sl ([.int p0, .int p1])).length) Slot.unset).toArray = ls at hl ⊢
  have hl : lv_has ls 2 [(0, .int p0), (1, .int p1)] := hl
  exact s_M_next3_e cx hK hA hX p0 p1 s.heap [] ls hP hD hS hl hf
def f_M_next_446  : Option (Int32) :=
  some (16 : Int32)
def f_M_next_392  : Option (Int32) :=
  some (16 : Int32)
def f_M_next_242  : Option (Int32) :=
  some (6 : Int32)
def f_M_next_189  : Option (Int32) :=
  some (12 : Int32)
def f_M_next (p0 : Int32) (p1 : Int32) : Option (Int32) :=
  bi1 (f_M_isBlank p1) fun r1 =>
  if p0 = (0 : Int32) then
    if r1 = 0 then
      bi1 (f_M_isSign p1) fun r4 =>
      if r4 = 0 then
        if p1 = (48 : Int32) then
          some (2 : Int32)
        else
          bi1 (f_M_isDigit p1) fun r7 =>
          if r7 = 0 then
            if p1 = (46 : Int32) then
              some (4 : Int32)
            else
              some (-1 : Int32)
          else
            some (3 : Int32)
      else
        some (1 : Int32)
    else
      some (0 : Int32)
  else
    if p0 = (1 : Int32) then
      if p1 = (48 : Int32) then
        some (2 : Int32)
      else
        bi1 (f_M_isDigit p1) fun r12 =>
        if r12 = 0 then
          if p1 = (46 : Int32) then
            some (4 : Int32)
          else
            some (-1 : Int32)
        else
          some (3 : Int32)
    else
      if p0 = (2 : Int32) then
        if p1 = (120 : Int32) then
          f_M_next_189
        else
          if p1 = (88 : Int32) then
            f_M_next_189
          else
            bi1 (f_M_next3 p1 r1) fun r18 =>
            some r18
      else
        if p0 = (3 : Int32) then
          bi1 (f_M_next3 p1 r1) fun r20 =>
          some r20
        else
          if p0 = (4 : Int32) then
            bi1 (f_M_isDigit p1) fun r22 =>
            if r22 = 0 then
              some (-1 : Int32)
            else
              some (5 : Int32)
          else
            if p0 = (5 : Int32) then
              bi1 (f_M_isDigit p1) fun r25 =>
              if r25 = 0 then
                if p1 = (101 : Int32) then
                  f_M_next_242
                else
                  if p1 = (69 : Int32) then
                    f_M_next_242
                  else
                    if r1 = 0 then
                      some (-1 : Int32)
                    else
                      some (9 : Int32)
              else
                some (5 : Int32)
            else
              if p0 = (6 : Int32) then
                bi1 (f_M_isSign p1) fun r31 =>
                if r31 = 0 then
                  bi1 (f_M_isDigit p1) fun r33 =>
                  if r33 = 0 then
                    some (-1 : Int32)
                  else
                    some (8 : Int32)
                else
                  some (7 : Int32)
              else
                if p0 = (7 : Int32) then
                  bi1 (f_M_isDigit p1) fun r36 =>
                  if r36 = 0 then
                    some (-1 : Int32)
                  else
                    some (8 : Int32)
                else
                  if p0 = (8 : Int32) then
                    bi1 (f_M_isDigit p1) fun r39 =>
                    if r39 = 0 then
                      if r1 = 0 then
                        some (-1 : Int32)
                      else
                        some (9 : Int32)
                    else
                      some (8 : Int32)
                  else
                    if p0 = (9 : Int32) then
                      if r1 = 0 then
                        some (-1 : Int32)
                      else
                        some (9 : Int32)
                    else
                      if p0 = (10 : Int32) then
                        bi1 (f_M_isDigit p1) fun r45 =>
                        if r45 = 0 then
                          if r1 = 0 then
                            some (-1 : Int32)
                          else
                            some (9 : Int32)
                        else
                          some (18 : Int32)
                      else
                        if p0 = (11 : Int32) then
                          bi1 (f_M_isDigit p1) fun r49 =>
                          if r49 = 0 then
                            if r1 = 0 then
                              some (-1 : Int32)
                            else
                              some (9 : Int32)
                          else
                            some (18 : Int32)
                        else
                          if p0 = (12 : Int32) then
                            bi1 (f_M_hex p1) fun r53 =>
                            if r53 < 0 then
                              if p1 = (46 : Int32) then
                                some (14 : Int32)
                              else
                                some (-1 : Int32)
                            else
                              some (13 : Int32)
                          else
                            if p0 = (13 : Int32) then
                              bi1 (f_M_hex p1) fun r57 =>
                              if r57 < 0 then
                                if p1 = (46 : Int32) then
                                  some (15 : Int32)
                                else
                                  if p1 = (112 : Int32) then
                                    f_M_next_392
                                  else
                                    if p1 = (80 : Int32) then
                                      f_M_next_392
                                    else
                                      if r1 = 0 then
                                        some (-1 : Int32)
                                      else
                                        some (9 : Int32)
                              else
                                some (13 : Int32)
                            else
                              if p0 = (14 : Int32) then
                                bi1 (f_M_hex p1) fun r64 =>
                                if r64 < 0 then
                                  some (-1 : Int32)
                                else
                                  some (15 : Int32)
                              else
                                if p0 = (15 : Int32) then
                                  bi1 (f_M_hex p1) fun r67 =>
                                  if r67 < 0 then
                                    if p1 = (112 : Int32) then
                                      f_M_next_446
                                    else
                                      if p1 = (80 : Int32) then
                                        f_M_next_446
                                      else
                                        if r1 = 0 then
                                          some (-1 : Int32)
                                        else
                                          some (9 : Int32)
                                  else
                                    some (15 : Int32)
                                else
                                  if p0 = (16 : Int32) then
                                    bi1 (f_M_isSign p1) fun r73 =>
                                    if r73 = 0 then
                                      bi1 (f_M_isDigit p1) fun r75 =>
                                      if r75 = 0 then
                                        some (-1 : Int32)
                                      else
                                        some (18 : Int32)
                                    else
                                      some (17 : Int32)
                                  else
                                    if p0 = (17 : Int32) then
                                      bi1 (f_M_isDigit p1) fun r78 =>
                                      if r78 = 0 then
                                        some (-1 : Int32)
                                      else
                                        some (18 : Int32)
                                    else
                                      bi1 (f_M_isDigit p1) fun r80 =>
                                      if r80 = 0 then
                                        if r1 = 0 then
                                          some (-1 : Int32)
                                        else
                                          some (9 : Int32)
                                      else
                                        some (18 : Int32)
set_option maxHeartbeats 4000000 in
set_option maxRecDepth 100000 in
theorem s_M_next_446 {p : Program} {l : Launch} {e : Env} {s : State} {m : MethodId} {args : Array Value} {below : List Frame} {meth : Method} {c : Code} {dC : Nat → ClassId} {dI : Nat → Nat → Nat} {A : Nat → Prop} {X : SXT} {res : Int32}  (cx : cxx p s m args meth c b_M_next 3 (some .int) R_M) (hK : va_K (dC, dI) classes [] s) (hA : ∀ q, s.heap.size ≤ q → A q) (hX : SX X A s s.heap)  : ∀  (H : Heap) (locs : List Loc) (ls : Array Slot), va_P (dC, dI) classes [] H → va_D A [] → va_S A s.heap H locs → lv_has ls 3 [] → f_M_next_446  = some res → W p l e ({ frames := 2, cells := 0, slots := 0, locals := 41 }) s m args below meth c H locs 0 0 (MQ below (va_Qi (fun (r : Int32) (_ : Unit) => some r = some res) (gB (dC, dI) [] A (fun (u : Unit) => [])) A) args s 0 0 A) (F0 m 446 ls []) := by
  intro  H locs ls hP hD hS hl h
  obtain ⟨hx, hb, hr, hml, hown, ht, hlk⟩ := id cx
  refine lv_bipush (v := 16) hx hb d_M_next_446 (by decide) ?_
  refine lv_goto (tgt := 461) hx hb d_M_next_448 (by decide) ?_
  exact W.iret (v := (16 : Int32)) hx hb hr (fun t ht9 hW => ⟨⟨(16 : Int32), (), rfl, h, by rw [ht9]; exact hP, va_K.moved hW.alike hK, hD⟩, hS.F ht9⟩) hS.2.2 d_M_next_461 hlk
set_option maxHeartbeats 4000000 in
set_option maxRecDepth 100000 in
theorem s_M_next_392 {p : Program} {l : Launch} {e : Env} {s : State} {m : MethodId} {args : Array Value} {below : List Frame} {meth : Method} {c : Code} {dC : Nat → ClassId} {dI : Nat → Nat → Nat} {A : Nat → Prop} {X : SXT} {res : Int32}  (cx : cxx p s m args meth c b_M_next 3 (some .int) R_M) (hK : va_K (dC, dI) classes [] s) (hA : ∀ q, s.heap.size ≤ q → A q) (hX : SX X A s s.heap)  : ∀  (H : Heap) (locs : List Loc) (ls : Array Slot), va_P (dC, dI) classes [] H → va_D A [] → va_S A s.heap H locs → lv_has ls 3 [] → f_M_next_392  = some res → W p l e ({ frames := 2, cells := 0, slots := 0, locals := 41 }) s m args below meth c H locs 0 0 (MQ below (va_Qi (fun (r : Int32) (_ : Unit) => some r = some res) (gB (dC, dI) [] A (fun (u : Unit) => [])) A) args s 0 0 A) (F0 m 392 ls []) := by
  intro  H locs ls hP hD hS hl h
  obtain ⟨hx, hb, hr, hml, hown, ht, hlk⟩ := id cx
  refine lv_bipush (v := 16) hx hb d_M_next_392 (by decide) ?_
  refine lv_goto (tgt := 407) hx hb d_M_next_394 (by decide) ?_
  exact W.iret (v := (16 : Int32)) hx hb hr (fun t ht9 hW => ⟨⟨(16 : Int32), (), rfl, h, by rw [ht9]; exact hP, va_K.moved hW.alike hK, hD⟩, hS.F ht9⟩) hS.2.2 d_M_next_407 hlk
set_option maxHeartbeats 4000000 in
set_option maxRecDepth 100000 in
theorem s_M_next_242 {p : Program} {l : Launch} {e : Env} {s : State} {m : MethodId} {args : Array Value} {below : List Frame} {meth : Method} {c : Code} {dC : Nat → ClassId} {dI : Nat → Nat → Nat} {A : Nat → Prop} {X : SXT} {res : Int32}  (cx : cxx p s m args meth c b_M_next 3 (some .int) R_M) (hK : va_K (dC, dI) classes [] s) (hA : ∀ q, s.heap.size ≤ q → A q) (hX : SX X A s s.heap)  : ∀  (H : Heap) (locs : List Loc) (ls : Array Slot), va_P (dC, dI) classes [] H → va_D A [] → va_S A s.heap H locs → lv_has ls 3 [] → f_M_next_242  = some res → W p l e ({ frames := 2, cells := 0, slots := 0, locals := 41 }) s m args below meth c H locs 0 0 (MQ below (va_Qi (fun (r : Int32) (_ : Unit) => some r = some res) (gB (dC, dI) [] A (fun (u : Unit) => [])) A) args s 0 0 A) (F0 m 242 ls []) := by
  intro  H locs ls hP hD hS hl h
  obtain ⟨hx, hb, hr, hml, hown, ht, hlk⟩ := id cx
  refine lv_bipush (v := 6) hx hb d_M_next_242 (by decide) ?_
  refine lv_goto (tgt := 257) hx hb d_M_next_244 (by decide) ?_
  exact W.iret (v := (6 : Int32)) hx hb hr (fun t ht9 hW => ⟨⟨(6 : Int32), (), rfl, h, by rw [ht9]; exact hP, va_K.moved hW.alike hK, hD⟩, hS.F ht9⟩) hS.2.2 d_M_next_257 hlk
set_option maxHeartbeats 4000000 in
set_option maxRecDepth 100000 in
theorem s_M_next_189 {p : Program} {l : Launch} {e : Env} {s : State} {m : MethodId} {args : Array Value} {below : List Frame} {meth : Method} {c : Code} {dC : Nat → ClassId} {dI : Nat → Nat → Nat} {A : Nat → Prop} {X : SXT} {res : Int32}  (cx : cxx p s m args meth c b_M_next 3 (some .int) R_M) (hK : va_K (dC, dI) classes [] s) (hA : ∀ q, s.heap.size ≤ q → A q) (hX : SX X A s s.heap)  : ∀  (H : Heap) (locs : List Loc) (ls : Array Slot), va_P (dC, dI) classes [] H → va_D A [] → va_S A s.heap H locs → lv_has ls 3 [] → f_M_next_189  = some res → W p l e ({ frames := 2, cells := 0, slots := 0, locals := 41 }) s m args below meth c H locs 0 0 (MQ below (va_Qi (fun (r : Int32) (_ : Unit) => some r = some res) (gB (dC, dI) [] A (fun (u : Unit) => [])) A) args s 0 0 A) (F0 m 189 ls []) := by
  intro  H locs ls hP hD hS hl h
  obtain ⟨hx, hb, hr, hml, hown, ht, hlk⟩ := id cx
  refine lv_bipush (v := 12) hx hb d_M_next_189 (by decide) ?_
  refine lv_goto (tgt := 199) hx hb d_M_next_191 (by decide) ?_
  exact W.iret (v := (12 : Int32)) hx hb hr (fun t ht9 hW => ⟨⟨(12 : Int32), (), rfl, h, by rw [ht9]; exact hP, va_K.moved hW.alike hK, hD⟩, hS.F ht9⟩) hS.2.2 d_M_next_199 hlk
set_option maxHeartbeats 4000000 in
set_option maxRecDepth 100000 in
theorem s_M_next_e {p : Program} {l : Launch} {e : Env} {s : State} {m : MethodId} {args : Array Value} {below : List Frame} {meth : Method} {c : Code} {dC : Nat → ClassId} {dI : Nat → Nat → Nat} {A : Nat → Prop} {X : SXT} {res : Int32} (cx : cxx p s m args meth c b_M_next 3 (some .int) R_M) (hK : va_K (dC, dI) classes [] s) (hA : ∀ q, s.heap.size ≤ q → A q) (hX : SX X A s s.heap) : ∀ (p0 : Int32) (p1 : Int32) (H : Heap) (locs : List Loc) (ls : Array Slot), va_P (dC, dI) classes [] H → va_D A [] → va_S A s.heap H locs → lv_has ls 3 [(0, .int p0), (1, .int p1)] → f_M_next p0 p1 = some res → W p l e ({ frames := 2, cells := 0, slots := 0, locals := 41 }) s m args below meth c H locs 0 0 (MQ below (va_Qi (fun (r : Int32) (_ : Unit) => some r = some res) (gB (dC, dI) [] A (fun (u : Unit) => [])) A) args s 0 0 A) (F0 m 0 ls []) := by
  intro p0 p1 H locs ls hP hD hS hl h
  obtain ⟨hx, hb, hr, hml, hown, ht, hlk⟩ := id cx
  refine lv_iload_n hx hb d_M_next_0 rfl (lv_at hl 1 rfl) ?_
  obtain ⟨r1, hf, h⟩ := bi1_x h
  refine clSi (D := (dC, dI)) (n := 1) (As := [.int p1]) ⟨hx, hb, hml, hown, ht⟩ (c_M_isBlank l dC dI X  H.size p1 r1 hf) (gS q_510 q_511 q_490 q_512) (by decide +kernel) ⟨rfl, rfl, Nat.le_of_ble_eq_true rfl, Nat.le_of_ble_eq_true rfl⟩ hK hP hD hS hA hX [] [] [] rfl (wr := []) rfl (by decide) (by decide) (by decide) rfl rfl hl.1 rfl (lv_room (Nat.le_of_ble_eq_true rfl)) d_M_next_1 ⟨Nat.zero_le _, Nat.zero_le _⟩ (fun r9 u9 H locs h9 hP hD hS => ?_)
  cases h9
  refine lv_istore_n (lv' := [(2, .int r1), (0, .int p0), (1, .int p1)]) hx hb d_M_next_4 rfl hl (by decide) rfl (fun ls hl => ?_)
  refine lv_iload_n hx hb d_M_next_5 rfl (lv_at hl 1 rfl) ?_
  by_cases c2 : p0 = (0 : Int32)
  · have h := if_t c2 h
    refine lv_tableIn (tgt := 92) (off := 86) hx hb d_M_next_6 (by rw [c2]; decide) (by rw [c2]; decide) (by rw [c2]; rfl) (by decide) ?_
    refine lv_iload_n hx hb d_M_next_92 rfl (lv_at hl 0 rfl) ?_
    refine lv_if_eq (tgt := 100) hx hb d_M_next_93 (by decide) (fun c3 => ?_) (fun c3 => ?_)
    · have h := if_t c3 h
      refine lv_iload_n hx hb d_M_next_100 rfl (lv_at hl 2 rfl) ?_
      obtain ⟨r4, hf, h⟩ := bi1_x h
      refine clSi (D := (dC, dI)) (n := 1) (As := [.int p1]) ⟨hx, hb, hml, hown, ht⟩ (c_M_isSign l dC dI X  H.size p1 r4 hf) (gS q_513 q_514 q_490 q_515) (by decide +kernel) ⟨rfl, rfl, Nat.le_of_ble_eq_true rfl, Nat.le_of_ble_eq_true rfl⟩ hK hP hD hS hA hX [] [] [] rfl (wr := []) rfl (by decide) (by decide) (by decide) rfl rfl hl.1 rfl (lv_room (Nat.le_of_ble_eq_true rfl)) d_M_next_101 ⟨Nat.zero_le _, Nat.zero_le _⟩ (fun r9 u9 H locs h9 hP hD hS => ?_)
      cases h9
      refine lv_if_eq (tgt := 111) hx hb d_M_next_104 (by decide) (fun c5 => ?_) (fun c5 => ?_)
      · have h := if_t c5 h
        refine lv_iload_n hx hb d_M_next_111 rfl (lv_at hl 2 rfl) ?_
        refine lv_bipush (v := 48) hx hb d_M_next_112 (by decide) ?_
        refine lv_icmp_ne (tgt := 121) hx hb d_M_next_114 (by decide) (fun c6 => ?_) (fun c6 => ?_)
        · have h := if_f c6 h
          refine lv_iload_n hx hb d_M_next_121 rfl (lv_at hl 2 rfl) ?_
          obtain ⟨r7, hf, h⟩ := bi1_x h
          refine clSi (D := (dC, dI)) (n := 1) (As := [.int p1]) ⟨hx, hb, hml, hown, ht⟩ (c_M_isDigit l dC dI X  H.size p1 r7 hf) (gS q_507 q_508 q_490 q_509) (by decide +kernel) ⟨rfl, rfl, Nat.le_of_ble_eq_true rfl, Nat.le_of_ble_eq_true rfl⟩ hK hP hD hS hA hX [] [] [] rfl (wr := []) rfl (by decide) (by decide) (by decide) rfl rfl hl.1 rfl (lv_room (Nat.le_of_ble_eq_true rfl)) d_M_next_122 ⟨Nat.zero_le _, Nat.zero_le _⟩ (fun r9 u9 H locs h9 hP hD hS => ?_)
          cases h9
          refine lv_if_eq (tgt := 132) hx hb d_M_next_125 (by decide) (fun c8 => ?_) (fun c8 => ?_)
          · have h := if_t c8 h
            refine lv_iload_n hx hb d_M_next_132 rfl (lv_at hl 2 rfl) ?_
            refine lv_bipush (v := 46) hx hb d_M_next_133 (by decide) ?_
            refine lv_icmp_ne (tgt := 142) hx hb d_M_next_135 (by decide) (fun c9 => ?_) (fun c9 => ?_)
            · have h := if_f c9 h
              refine lv_iconst (v := -1) hx hb d_M_next_142 (by decide) ?_
              exact W.iret (v := (-1 : Int32)) hx hb hr (fun t ht9 hW => ⟨⟨(-1 : Int32), (), rfl, h, by rw [ht9]; exact hP, va_K.moved hW.alike hK, hD⟩, hS.F ht9⟩) hS.2.2 d_M_next_143 hlk
            · have h := if_t c9 h
              refine lv_iconst (v := 4) hx hb d_M_next_138 (by decide) ?_
              refine lv_goto (tgt := 143) hx hb d_M_next_139 (by decide) ?_
              exact W.iret (v := (4 : Int32)) hx hb hr (fun t ht9 hW => ⟨⟨(4 : Int32), (), rfl, h, by rw [ht9]; exact hP, va_K.moved hW.alike hK, hD⟩, hS.F ht9⟩) hS.2.2 d_M_next_143 hlk
          · have h := if_f c8 h
            refine lv_iconst (v := 3) hx hb d_M_next_128 (by decide) ?_
            refine lv_goto (tgt := 143) hx hb d_M_next_129 (by decide) ?_
            exact W.iret (v := (3 : Int32)) hx hb hr (fun t ht9 hW => ⟨⟨(3 : Int32), (), rfl, h, by rw [ht9]; exact hP, va_K.moved hW.alike hK, hD⟩, hS.F ht9⟩) hS.2.2 d_M_next_143 hlk
        · have h := if_t c6 h
          refine lv_iconst (v := 2) hx hb d_M_next_117 (by decide) ?_
          refine lv_goto (tgt := 143) hx hb d_M_next_118 (by decide) ?_
          exact W.iret (v := (2 : Int32)) hx hb hr (fun t ht9 hW => ⟨⟨(2 : Int32), (), rfl, h, by rw [ht9]; exact hP, va_K.moved hW.alike hK, hD⟩, hS.F ht9⟩) hS.2.2 d_M_next_143 hlk
      · have h := if_f c5 h
        refine lv_iconst (v := 1) hx hb d_M_next_107 (by decide) ?_
        refine lv_goto (tgt := 143) hx hb d_M_next_108 (by decide) ?_
        exact W.iret (v := (1 : Int32)) hx hb hr (fun t ht9 hW => ⟨⟨(1 : Int32), (), rfl, h, by rw [ht9]; exact hP, va_K.moved hW.alike hK, hD⟩, hS.F ht9⟩) hS.2.2 d_M_next_143 hlk
    · have h := if_f c3 h
      refine lv_iconst (v := 0) hx hb d_M_next_96 (by decide) ?_
      refine lv_goto (tgt := 143) hx hb d_M_next_97 (by decide) ?_
      exact W.iret (v := (0 : Int32)) hx hb hr (fun t ht9 hW => ⟨⟨(0 : Int32), (), rfl, h, by rw [ht9]; exact hP, va_K.moved hW.alike hK, hD⟩, hS.F ht9⟩) hS.2.2 d_M_next_143 hlk
  · have h := if_f c2 h
    by_cases c10 : p0 = (1 : Int32)
    · have h := if_t c10 h
      refine lv_tableIn (tgt := 144) (off := 138) hx hb d_M_next_6 (by rw [c10]; decide) (by rw [c10]; decide) (by rw [c10]; rfl) (by decide) ?_
      refine lv_iload_n hx hb d_M_next_144 rfl (lv_at hl 2 rfl) ?_
      refine lv_bipush (v := 48) hx hb d_M_next_145 (by decide) ?_
      refine lv_icmp_ne (tgt := 154) hx hb d_M_next_147 (by decide) (fun c11 => ?_) (fun c11 => ?_)
      · have h := if_f c11 h
        refine lv_iload_n hx hb d_M_next_154 rfl (lv_at hl 2 rfl) ?_
        obtain ⟨r12, hf, h⟩ := bi1_x h
        refine clSi (D := (dC, dI)) (n := 1) (As := [.int p1]) ⟨hx, hb, hml, hown, ht⟩ (c_M_isDigit l dC dI X  H.size p1 r12 hf) (gS q_507 q_508 q_490 q_509) (by decide +kernel) ⟨rfl, rfl, Nat.le_of_ble_eq_true rfl, Nat.le_of_ble_eq_true rfl⟩ hK hP hD hS hA hX [] [] [] rfl (wr := []) rfl (by decide) (by decide) (by decide) rfl rfl hl.1 rfl (lv_room (Nat.le_of_ble_eq_true rfl)) d_M_next_155 ⟨Nat.zero_le _, Nat.zero_le _⟩ (fun r9 u9 H locs h9 hP hD hS => ?_)
        cases h9
        refine lv_if_eq (tgt := 165) hx hb d_M_next_158 (by decide) (fun c13 => ?_) (fun c13 => ?_)
        · have h := if_t c13 h
          refine lv_iload_n hx hb d_M_next_165 rfl (lv_at hl 2 rfl) ?_
          refine lv_bipush (v := 46) hx hb d_M_next_166 (by decide) ?_
          refine lv_icmp_ne (tgt := 175) hx hb d_M_next_168 (by decide) (fun c14 => ?_) (fun c14 => ?_)
          · have h := if_f c14 h
            refine lv_iconst (v := -1) hx hb d_M_next_175 (by decide) ?_
            exact W.iret (v := (-1 : Int32)) hx hb hr (fun t ht9 hW => ⟨⟨(-1 : Int32), (), rfl, h, by rw [ht9]; exact hP, va_K.moved hW.alike hK, hD⟩, hS.F ht9⟩) hS.2.2 d_M_next_176 hlk
          · have h := if_t c14 h
            refine lv_iconst (v := 4) hx hb d_M_next_171 (by decide) ?_
            refine lv_goto (tgt := 176) hx hb d_M_next_172 (by decide) ?_
            exact W.iret (v := (4 : Int32)) hx hb hr (fun t ht9 hW => ⟨⟨(4 : Int32), (), rfl, h, by rw [ht9]; exact hP, va_K.moved hW.alike hK, hD⟩, hS.F ht9⟩) hS.2.2 d_M_next_176 hlk
        · have h := if_f c13 h
          refine lv_iconst (v := 3) hx hb d_M_next_161 (by decide) ?_
          refine lv_goto (tgt := 176) hx hb d_M_next_162 (by decide) ?_
          exact W.iret (v := (3 : Int32)) hx hb hr (fun t ht9 hW => ⟨⟨(3 : Int32), (), rfl, h, by rw [ht9]; exact hP, va_K.moved hW.alike hK, hD⟩, hS.F ht9⟩) hS.2.2 d_M_next_176 hlk
      · have h := if_t c11 h
        refine lv_iconst (v := 2) hx hb d_M_next_150 (by decide) ?_
        refine lv_goto (tgt := 176) hx hb d_M_next_151 (by decide) ?_
        exact W.iret (v := (2 : Int32)) hx hb hr (fun t ht9 hW => ⟨⟨(2 : Int32), (), rfl, h, by rw [ht9]; exact hP, va_K.moved hW.alike hK, hD⟩, hS.F ht9⟩) hS.2.2 d_M_next_176 hlk
    · have h := if_f c10 h
      by_cases c15 : p0 = (2 : Int32)
      · have h := if_t c15 h
        refine lv_tableIn (tgt := 177) (off := 171) hx hb d_M_next_6 (by rw [c15]; decide) (by rw [c15]; decide) (by rw [c15]; rfl) (by decide) ?_
        refine lv_iload_n hx hb d_M_next_177 rfl (lv_at hl 2 rfl) ?_
        refine lv_bipush (v := 120) hx hb d_M_next_178 (by decide) ?_
        refine lv_icmp_eq (tgt := 189) hx hb d_M_next_180 (by decide) (fun c16 => ?_) (fun c16 => ?_)
        · have h := if_t c16 h
          exact s_M_next_189 cx hK hA hX  H locs ls hP hD hS (lv_sub hl [] rfl) h
        · have h := if_f c16 h
          refine lv_iload_n hx hb d_M_next_183 rfl (lv_at hl 2 rfl) ?_
          refine lv_bipush (v := 88) hx hb d_M_next_184 (by decide) ?_
          refine lv_icmp_ne (tgt := 194) hx hb d_M_next_186 (by decide) (fun c17 => ?_) (fun c17 => ?_)
          · have h := if_f c17 h
            refine lv_iload_n hx hb d_M_next_194 rfl (lv_at hl 2 rfl) ?_
            refine lv_iload_n hx hb d_M_next_195 rfl (lv_at hl 0 rfl) ?_
            obtain ⟨r18, hf, h⟩ := bi1_x h
            refine clSi (D := (dC, dI)) (n := 2) (As := [.int p1, .int r1]) ⟨hx, hb, hml, hown, ht⟩ (c_M_next3 l dC dI X  H.size p1 r1 r18 hf) (gS q_516 q_517 q_490 q_518) (by decide +kernel) ⟨rfl, rfl, Nat.le_of_ble_eq_true rfl, Nat.le_of_ble_eq_true rfl⟩ hK hP hD hS hA hX [] [] [] rfl (wr := []) rfl (by decide) (by decide) (by decide) rfl rfl hl.1 rfl (lv_room (Nat.le_of_ble_eq_true rfl)) d_M_next_196 ⟨Nat.zero_le _, Nat.zero_le _⟩ (fun r9 u9 H locs h9 hP hD hS => ?_)
            cases h9
            exact W.iret (v := r18) hx hb hr (fun t ht9 hW => ⟨⟨r18, (), rfl, h, by rw [ht9]; exact hP, va_K.moved hW.alike hK, hD⟩, hS.F ht9⟩) hS.2.2 d_M_next_199 hlk
          · have h := if_t c17 h
            exact s_M_next_189 cx hK hA hX  H locs ls hP hD hS (lv_sub hl [] rfl) h
      · have h := if_f c15 h
        by_cases c19 : p0 = (3 : Int32)
        · have h := if_t c19 h
          refine lv_tableIn (tgt := 200) (off := 194) hx hb d_M_next_6 (by rw [c19]; decide) (by rw [c19]; decide) (by rw [c19]; rfl) (by decide) ?_
          refine lv_iload_n hx hb d_M_next_200 rfl (lv_at hl 2 rfl) ?_
          refine lv_iload_n hx hb d_M_next_201 rfl (lv_at hl 0 rfl) ?_
          obtain ⟨r20, hf, h⟩ := bi1_x h
          refine clSi (D := (dC, dI)) (n := 2) (As := [.int p1, .int r1]) ⟨hx, hb, hml, hown, ht⟩ (c_M_next3 l dC dI X  H.size p1 r1 r20 hf) (gS q_516 q_517 q_490 q_518) (by decide +kernel) ⟨rfl, rfl, Nat.le_of_ble_eq_true rfl, Nat.le_of_ble_eq_true rfl⟩ hK hP hD hS hA hX [] [] [] rfl (wr := []) rfl (by decide) (by decide) (by decide) rfl rfl hl.1 rfl (lv_room (Nat.le_of_ble_eq_true rfl)) d_M_next_202 ⟨Nat.zero_le _, Nat.zero_le _⟩ (fun r9 u9 H locs h9 hP hD hS => ?_)
          cases h9
          exact W.iret (v := r20) hx hb hr (fun t ht9 hW => ⟨⟨r20, (), rfl, h, by rw [ht9]; exact hP, va_K.moved hW.alike hK, hD⟩, hS.F ht9⟩) hS.2.2 d_M_next_205 hlk
        · have h := if_f c19 h
          by_cases c21 : p0 = (4 : Int32)
          · have h := if_t c21 h
            refine lv_tableIn (tgt := 206) (off := 200) hx hb d_M_next_6 (by rw [c21]; decide) (by rw [c21]; decide) (by rw [c21]; rfl) (by decide) ?_
            refine lv_iload_n hx hb d_M_next_206 rfl (lv_at hl 2 rfl) ?_
            obtain ⟨r22, hf, h⟩ := bi1_x h
            refine clSi (D := (dC, dI)) (n := 1) (As := [.int p1]) ⟨hx, hb, hml, hown, ht⟩ (c_M_isDigit l dC dI X  H.size p1 r22 hf) (gS q_507 q_508 q_490 q_509) (by decide +kernel) ⟨rfl, rfl, Nat.le_of_ble_eq_true rfl, Nat.le_of_ble_eq_true rfl⟩ hK hP hD hS hA hX [] [] [] rfl (wr := []) rfl (by decide) (by decide) (by decide) rfl rfl hl.1 rfl (lv_room (Nat.le_of_ble_eq_true rfl)) d_M_next_207 ⟨Nat.zero_le _, Nat.zero_le _⟩ (fun r9 u9 H locs h9 hP hD hS => ?_)
            cases h9
            refine lv_if_eq (tgt := 217) hx hb d_M_next_210 (by decide) (fun c23 => ?_) (fun c23 => ?_)
            · have h := if_t c23 h
              refine lv_iconst (v := -1) hx hb d_M_next_217 (by decide) ?_
              exact W.iret (v := (-1 : Int32)) hx hb hr (fun t ht9 hW => ⟨⟨(-1 : Int32), (), rfl, h, by rw [ht9]; exact hP, va_K.moved hW.alike hK, hD⟩, hS.F ht9⟩) hS.2.2 d_M_next_218 hlk
            · have h := if_f c23 h
              refine lv_iconst (v := 5) hx hb d_M_next_213 (by decide) ?_
              refine lv_goto (tgt := 218) hx hb d_M_next_214 (by decide) ?_
              exact W.iret (v := (5 : Int32)) hx hb hr (fun t ht9 hW => ⟨⟨(5 : Int32), (), rfl, h, by rw [ht9]; exact hP, va_K.moved hW.alike hK, hD⟩, hS.F ht9⟩) hS.2.2 d_M_next_218 hlk
          · have h := if_f c21 h
            by_cases c24 : p0 = (5 : Int32)
            · have h := if_t c24 h
              refine lv_tableIn (tgt := 219) (off := 213) hx hb d_M_next_6 (by rw [c24]; decide) (by rw [c24]; decide) (by rw [c24]; rfl) (by decide) ?_
              refine lv_iload_n hx hb d_M_next_219 rfl (lv_at hl 2 rfl) ?_
              obtain ⟨r25, hf, h⟩ := bi1_x h
              refine clSi (D := (dC, dI)) (n := 1) (As := [.int p1]) ⟨hx, hb, hml, hown, ht⟩ (c_M_isDigit l dC dI X  H.size p1 r25 hf) (gS q_507 q_508 q_490 q_509) (by decide +kernel) ⟨rfl, rfl, Nat.le_of_ble_eq_true rfl, Nat.le_of_ble_eq_true rfl⟩ hK hP hD hS hA hX [] [] [] rfl (wr := []) rfl (by decide) (by decide) (by decide) rfl rfl hl.1 rfl (lv_room (Nat.le_of_ble_eq_true rfl)) d_M_next_220 ⟨Nat.zero_le _, Nat.zero_le _⟩ (fun r9 u9 H locs h9 hP hD hS => ?_)
              cases h9
              refine lv_if_eq (tgt := 230) hx hb d_M_next_223 (by decide) (fun c26 => ?_) (fun c26 => ?_)
              · have h := if_t c26 h
                refine lv_iload_n hx hb d_M_next_230 rfl (lv_at hl 2 rfl) ?_
                refine lv_bipush (v := 101) hx hb d_M_next_231 (by decide) ?_
                refine lv_icmp_eq (tgt := 242) hx hb d_M_next_233 (by decide) (fun c27 => ?_) (fun c27 => ?_)
                · have h := if_t c27 h
                  exact s_M_next_242 cx hK hA hX  H locs ls hP hD hS (lv_sub hl [] rfl) h
                · have h := if_f c27 h
                  refine lv_iload_n hx hb d_M_next_236 rfl (lv_at hl 2 rfl) ?_
                  refine lv_bipush (v := 69) hx hb d_M_next_237 (by decide) ?_
                  refine lv_icmp_ne (tgt := 247) hx hb d_M_next_239 (by decide) (fun c28 => ?_) (fun c28 => ?_)
                  · have h := if_f c28 h
                    refine lv_iload_n hx hb d_M_next_247 rfl (lv_at hl 0 rfl) ?_
                    refine lv_if_eq (tgt := 256) hx hb d_M_next_248 (by decide) (fun c29 => ?_) (fun c29 => ?_)
                    · have h := if_t c29 h
                      refine lv_iconst (v := -1) hx hb d_M_next_256 (by decide) ?_
                      exact W.iret (v := (-1 : Int32)) hx hb hr (fun t ht9 hW => ⟨⟨(-1 : Int32), (), rfl, h, by rw [ht9]; exact hP, va_K.moved hW.alike hK, hD⟩, hS.F ht9⟩) hS.2.2 d_M_next_257 hlk
                    · have h := if_f c29 h
                      refine lv_bipush (v := 9) hx hb d_M_next_251 (by decide) ?_
                      refine lv_goto (tgt := 257) hx hb d_M_next_253 (by decide) ?_
                      exact W.iret (v := (9 : Int32)) hx hb hr (fun t ht9 hW => ⟨⟨(9 : Int32), (), rfl, h, by rw [ht9]; exact hP, va_K.moved hW.alike hK, hD⟩, hS.F ht9⟩) hS.2.2 d_M_next_257 hlk
                  · have h := if_t c28 h
                    exact s_M_next_242 cx hK hA hX  H locs ls hP hD hS (lv_sub hl [] rfl) h
              · have h := if_f c26 h
                refine lv_iconst (v := 5) hx hb d_M_next_226 (by decide) ?_
                refine lv_goto (tgt := 257) hx hb d_M_next_227 (by decide) ?_
                exact W.iret (v := (5 : Int32)) hx hb hr (fun t ht9 hW => ⟨⟨(5 : Int32), (), rfl, h, by rw [ht9]; exact hP, va_K.moved hW.alike hK, hD⟩, hS.F ht9⟩) hS.2.2 d_M_next_257 hlk
            · have h := if_f c24 h
              by_cases c30 : p0 = (6 : Int32)
              · have h := if_t c30 h
                refine lv_tableIn (tgt := 258) (off := 252) hx hb d_M_next_6 (by rw [c30]; decide) (by rw [c30]; decide) (by rw [c30]; rfl) (by decide) ?_
                refine lv_iload_n hx hb d_M_next_258 rfl (lv_at hl 2 rfl) ?_
                obtain ⟨r31, hf, h⟩ := bi1_x h
                refine clSi (D := (dC, dI)) (n := 1) (As := [.int p1]) ⟨hx, hb, hml, hown, ht⟩ (c_M_isSign l dC dI X  H.size p1 r31 hf) (gS q_513 q_514 q_490 q_515) (by decide +kernel) ⟨rfl, rfl, Nat.le_of_ble_eq_true rfl, Nat.le_of_ble_eq_true rfl⟩ hK hP hD hS hA hX [] [] [] rfl (wr := []) rfl (by decide) (by decide) (by decide) rfl rfl hl.1 rfl (lv_room (Nat.le_of_ble_eq_true rfl)) d_M_next_259 ⟨Nat.zero_le _, Nat.zero_le _⟩ (fun r9 u9 H locs h9 hP hD hS => ?_)
                cases h9
                refine lv_if_eq (tgt := 270) hx hb d_M_next_262 (by decide) (fun c32 => ?_) (fun c32 => ?_)
                · have h := if_t c32 h
                  refine lv_iload_n hx hb d_M_next_270 rfl (lv_at hl 2 rfl) ?_
                  obtain ⟨r33, hf, h⟩ := bi1_x h
                  refine clSi (D := (dC, dI)) (n := 1) (As := [.int p1]) ⟨hx, hb, hml, hown, ht⟩ (c_M_isDigit l dC dI X  H.size p1 r33 hf) (gS q_507 q_508 q_490 q_509) (by decide +kernel) ⟨rfl, rfl, Nat.le_of_ble_eq_true rfl, Nat.le_of_ble_eq_true rfl⟩ hK hP hD hS hA hX [] [] [] rfl (wr := []) rfl (by decide) (by decide) (by decide) rfl rfl hl.1 rfl (lv_room (Nat.le_of_ble_eq_true rfl)) d_M_next_271 ⟨Nat.zero_le _, Nat.zero_le _⟩ (fun r9 u9 H locs h9 hP hD hS => ?_)
                  cases h9
                  refine lv_if_eq (tgt := 282) hx hb d_M_next_274 (by decide) (fun c34 => ?_) (fun c34 => ?_)
                  · have h := if_t c34 h
                    refine lv_iconst (v := -1) hx hb d_M_next_282 (by decide) ?_
                    exact W.iret (v := (-1 : Int32)) hx hb hr (fun t ht9 hW => ⟨⟨(-1 : Int32), (), rfl, h, by rw [ht9]; exact hP, va_K.moved hW.alike hK, hD⟩, hS.F ht9⟩) hS.2.2 d_M_next_283 hlk
                  · have h := if_f c34 h
                    refine lv_bipush (v := 8) hx hb d_M_next_277 (by decide) ?_
                    refine lv_goto (tgt := 283) hx hb d_M_next_279 (by decide) ?_
                    exact W.iret (v := (8 : Int32)) hx hb hr (fun t ht9 hW => ⟨⟨(8 : Int32), (), rfl, h, by rw [ht9]; exact hP, va_K.moved hW.alike hK, hD⟩, hS.F ht9⟩) hS.2.2 d_M_next_283 hlk
                · have h := if_f c32 h
                  refine lv_bipush (v := 7) hx hb d_M_next_265 (by decide) ?_
                  refine lv_goto (tgt := 283) hx hb d_M_next_267 (by decide) ?_
                  exact W.iret (v := (7 : Int32)) hx hb hr (fun t ht9 hW => ⟨⟨(7 : Int32), (), rfl, h, by rw [ht9]; exact hP, va_K.moved hW.alike hK, hD⟩, hS.F ht9⟩) hS.2.2 d_M_next_283 hlk
              · have h := if_f c30 h
                by_cases c35 : p0 = (7 : Int32)
                · have h := if_t c35 h
                  refine lv_tableIn (tgt := 284) (off := 278) hx hb d_M_next_6 (by rw [c35]; decide) (by rw [c35]; decide) (by rw [c35]; rfl) (by decide) ?_
                  refine lv_iload_n hx hb d_M_next_284 rfl (lv_at hl 2 rfl) ?_
                  obtain ⟨r36, hf, h⟩ := bi1_x h
                  refine clSi (D := (dC, dI)) (n := 1) (As := [.int p1]) ⟨hx, hb, hml, hown, ht⟩ (c_M_isDigit l dC dI X  H.size p1 r36 hf) (gS q_507 q_508 q_490 q_509) (by decide +kernel) ⟨rfl, rfl, Nat.le_of_ble_eq_true rfl, Nat.le_of_ble_eq_true rfl⟩ hK hP hD hS hA hX [] [] [] rfl (wr := []) rfl (by decide) (by decide) (by decide) rfl rfl hl.1 rfl (lv_room (Nat.le_of_ble_eq_true rfl)) d_M_next_285 ⟨Nat.zero_le _, Nat.zero_le _⟩ (fun r9 u9 H locs h9 hP hD hS => ?_)
                  cases h9
                  refine lv_if_eq (tgt := 296) hx hb d_M_next_288 (by decide) (fun c37 => ?_) (fun c37 => ?_)
                  · have h := if_t c37 h
                    refine lv_iconst (v := -1) hx hb d_M_next_296 (by decide) ?_
                    exact W.iret (v := (-1 : Int32)) hx hb hr (fun t ht9 hW => ⟨⟨(-1 : Int32), (), rfl, h, by rw [ht9]; exact hP, va_K.moved hW.alike hK, hD⟩, hS.F ht9⟩) hS.2.2 d_M_next_297 hlk
                  · have h := if_f c37 h
                    refine lv_bipush (v := 8) hx hb d_M_next_291 (by decide) ?_
                    refine lv_goto (tgt := 297) hx hb d_M_next_293 (by decide) ?_
                    exact W.iret (v := (8 : Int32)) hx hb hr (fun t ht9 hW => ⟨⟨(8 : Int32), (), rfl, h, by rw [ht9]; exact hP, va_K.moved hW.alike hK, hD⟩, hS.F ht9⟩) hS.2.2 d_M_next_297 hlk
                · have h := if_f c35 h
                  by_cases c38 : p0 = (8 : Int32)
                  · have h := if_t c38 h
                    refine lv_tableIn (tgt := 298) (off := 292) hx hb d_M_next_6 (by rw [c38]; decide) (by rw [c38]; decide) (by rw [c38]; rfl) (by decide) ?_
                    refine lv_iload_n hx hb d_M_next_298 rfl (lv_at hl 2 rfl) ?_
                    obtain ⟨r39, hf, h⟩ := bi1_x h
                    refine clSi (D := (dC, dI)) (n := 1) (As := [.int p1]) ⟨hx, hb, hml, hown, ht⟩ (c_M_isDigit l dC dI X  H.size p1 r39 hf) (gS q_507 q_508 q_490 q_509) (by decide +kernel) ⟨rfl, rfl, Nat.le_of_ble_eq_true rfl, Nat.le_of_ble_eq_true rfl⟩ hK hP hD hS hA hX [] [] [] rfl (wr := []) rfl (by decide) (by decide) (by decide) rfl rfl hl.1 rfl (lv_room (Nat.le_of_ble_eq_true rfl)) d_M_next_299 ⟨Nat.zero_le _, Nat.zero_le _⟩ (fun r9 u9 H locs h9 hP hD hS => ?_)
                    cases h9
                    refine lv_if_eq (tgt := 310) hx hb d_M_next_302 (by decide) (fun c40 => ?_) (fun c40 => ?_)
                    · have h := if_t c40 h
                      refine lv_iload_n hx hb d_M_next_310 rfl (lv_at hl 0 rfl) ?_
                      refine lv_if_eq (tgt := 319) hx hb d_M_next_311 (by decide) (fun c41 => ?_) (fun c41 => ?_)
                      · have h := if_t c41 h
                        refine lv_iconst (v := -1) hx hb d_M_next_319 (by decide) ?_
                        exact W.iret (v := (-1 : Int32)) hx hb hr (fun t ht9 hW => ⟨⟨(-1 : Int32), (), rfl, h, by rw [ht9]; exact hP, va_K.moved hW.alike hK, hD⟩, hS.F ht9⟩) hS.2.2 d_M_next_320 hlk
                      · have h := if_f c41 h
                        refine lv_bipush (v := 9) hx hb d_M_next_314 (by decide) ?_
                        refine lv_goto (tgt := 320) hx hb d_M_next_316 (by decide) ?_
                        exact W.iret (v := (9 : Int32)) hx hb hr (fun t ht9 hW => ⟨⟨(9 : Int32), (), rfl, h, by rw [ht9]; exact hP, va_K.moved hW.alike hK, hD⟩, hS.F ht9⟩) hS.2.2 d_M_next_320 hlk
                    · have h := if_f c40 h
                      refine lv_bipush (v := 8) hx hb d_M_next_305 (by decide) ?_
                      refine lv_goto (tgt := 320) hx hb d_M_next_307 (by decide) ?_
                      exact W.iret (v := (8 : Int32)) hx hb hr (fun t ht9 hW => ⟨⟨(8 : Int32), (), rfl, h, by rw [ht9]; exact hP, va_K.moved hW.alike hK, hD⟩, hS.F ht9⟩) hS.2.2 d_M_next_320 hlk
                  · have h := if_f c38 h
                    by_cases c42 : p0 = (9 : Int32)
                    · have h := if_t c42 h
                      refine lv_tableIn (tgt := 321) (off := 315) hx hb d_M_next_6 (by rw [c42]; decide) (by rw [c42]; decide) (by rw [c42]; rfl) (by decide) ?_
                      refine lv_iload_n hx hb d_M_next_321 rfl (lv_at hl 0 rfl) ?_
                      refine lv_if_eq (tgt := 330) hx hb d_M_next_322 (by decide) (fun c43 => ?_) (fun c43 => ?_)
                      · have h := if_t c43 h
                        refine lv_iconst (v := -1) hx hb d_M_next_330 (by decide) ?_
                        exact W.iret (v := (-1 : Int32)) hx hb hr (fun t ht9 hW => ⟨⟨(-1 : Int32), (), rfl, h, by rw [ht9]; exact hP, va_K.moved hW.alike hK, hD⟩, hS.F ht9⟩) hS.2.2 d_M_next_331 hlk
                      · have h := if_f c43 h
                        refine lv_bipush (v := 9) hx hb d_M_next_325 (by decide) ?_
                        refine lv_goto (tgt := 331) hx hb d_M_next_327 (by decide) ?_
                        exact W.iret (v := (9 : Int32)) hx hb hr (fun t ht9 hW => ⟨⟨(9 : Int32), (), rfl, h, by rw [ht9]; exact hP, va_K.moved hW.alike hK, hD⟩, hS.F ht9⟩) hS.2.2 d_M_next_331 hlk
                    · have h := if_f c42 h
                      by_cases c44 : p0 = (10 : Int32)
                      · have h := if_t c44 h
                        refine lv_tableIn (tgt := 502) (off := 496) hx hb d_M_next_6 (by rw [c44]; decide) (by rw [c44]; decide) (by rw [c44]; rfl) (by decide) ?_
                        refine lv_iload_n hx hb d_M_next_502 rfl (lv_at hl 2 rfl) ?_
                        obtain ⟨r45, hf, h⟩ := bi1_x h
                        refine clSi (D := (dC, dI)) (n := 1) (As := [.int p1]) ⟨hx, hb, hml, hown, ht⟩ (c_M_isDigit l dC dI X  H.size p1 r45 hf) (gS q_507 q_508 q_490 q_509) (by decide +kernel) ⟨rfl, rfl, Nat.le_of_ble_eq_true rfl, Nat.le_of_ble_eq_true rfl⟩ hK hP hD hS hA hX [] [] [] rfl (wr := []) rfl (by decide) (by decide) (by decide) rfl rfl hl.1 rfl (lv_room (Nat.le_of_ble_eq_true rfl)) d_M_next_503 ⟨Nat.zero_le _, Nat.zero_le _⟩ (fun r9 u9 H locs h9 hP hD hS => ?_)
                        cases h9
                        refine lv_if_eq (tgt := 514) hx hb d_M_next_506 (by decide) (fun c46 => ?_) (fun c46 => ?_)
                        · have h := if_t c46 h
                          refine lv_iload_n hx hb d_M_next_514 rfl (lv_at hl 0 rfl) ?_
                          refine lv_if_eq (tgt := 523) hx hb d_M_next_515 (by decide) (fun c47 => ?_) (fun c47 => ?_)
                          · have h := if_t c47 h
                            refine lv_iconst (v := -1) hx hb d_M_next_523 (by decide) ?_
                            exact W.iret (v := (-1 : Int32)) hx hb hr (fun t ht9 hW => ⟨⟨(-1 : Int32), (), rfl, h, by rw [ht9]; exact hP, va_K.moved hW.alike hK, hD⟩, hS.F ht9⟩) hS.2.2 d_M_next_524 hlk
                          · have h := if_f c47 h
                            refine lv_bipush (v := 9) hx hb d_M_next_518 (by decide) ?_
                            refine lv_goto (tgt := 524) hx hb d_M_next_520 (by decide) ?_
                            exact W.iret (v := (9 : Int32)) hx hb hr (fun t ht9 hW => ⟨⟨(9 : Int32), (), rfl, h, by rw [ht9]; exact hP, va_K.moved hW.alike hK, hD⟩, hS.F ht9⟩) hS.2.2 d_M_next_524 hlk
                        · have h := if_f c46 h
                          refine lv_bipush (v := 18) hx hb d_M_next_509 (by decide) ?_
                          refine lv_goto (tgt := 524) hx hb d_M_next_511 (by decide) ?_
                          exact W.iret (v := (18 : Int32)) hx hb hr (fun t ht9 hW => ⟨⟨(18 : Int32), (), rfl, h, by rw [ht9]; exact hP, va_K.moved hW.alike hK, hD⟩, hS.F ht9⟩) hS.2.2 d_M_next_524 hlk
                      · have h := if_f c44 h
                        by_cases c48 : p0 = (11 : Int32)
                        · have h := if_t c48 h
                          refine lv_tableIn (tgt := 502) (off := 496) hx hb d_M_next_6 (by rw [c48]; decide) (by rw [c48]; decide) (by rw [c48]; rfl) (by decide) ?_
                          refine lv_iload_n hx hb d_M_next_502 rfl (lv_at hl 2 rfl) ?_
                          obtain ⟨r49, hf, h⟩ := bi1_x h
                          refine clSi (D := (dC, dI)) (n := 1) (As := [.int p1]) ⟨hx, hb, hml, hown, ht⟩ (c_M_isDigit l dC dI X  H.size p1 r49 hf) (gS q_507 q_508 q_490 q_509) (by decide +kernel) ⟨rfl, rfl, Nat.le_of_ble_eq_true rfl, Nat.le_of_ble_eq_true rfl⟩ hK hP hD hS hA hX [] [] [] rfl (wr := []) rfl (by decide) (by decide) (by decide) rfl rfl hl.1 rfl (lv_room (Nat.le_of_ble_eq_true rfl)) d_M_next_503 ⟨Nat.zero_le _, Nat.zero_le _⟩ (fun r9 u9 H locs h9 hP hD hS => ?_)
                          cases h9
                          refine lv_if_eq (tgt := 514) hx hb d_M_next_506 (by decide) (fun c50 => ?_) (fun c50 => ?_)
                          · have h := if_t c50 h
                            refine lv_iload_n hx hb d_M_next_514 rfl (lv_at hl 0 rfl) ?_
                            refine lv_if_eq (tgt := 523) hx hb d_M_next_515 (by decide) (fun c51 => ?_) (fun c51 => ?_)
                            · have h := if_t c51 h
                              refine lv_iconst (v := -1) hx hb d_M_next_523 (by decide) ?_
                              exact W.iret (v := (-1 : Int32)) hx hb hr (fun t ht9 hW => ⟨⟨(-1 : Int32), (), rfl, h, by rw [ht9]; exact hP, va_K.moved hW.alike hK, hD⟩, hS.F ht9⟩) hS.2.2 d_M_next_524 hlk
                            · have h := if_f c51 h
                              refine lv_bipush (v := 9) hx hb d_M_next_518 (by decide) ?_
                              refine lv_goto (tgt := 524) hx hb d_M_next_520 (by decide) ?_
                              exact W.iret (v := (9 : Int32)) hx hb hr (fun t ht9 hW => ⟨⟨(9 : Int32), (), rfl, h, by rw [ht9]; exact hP, va_K.moved hW.alike hK, hD⟩, hS.F ht9⟩) hS.2.2 d_M_next_524 hlk
                          · have h := if_f c50 h
                            refine lv_bipush (v := 18) hx hb d_M_next_509 (by decide) ?_
                            refine lv_goto (tgt := 524) hx hb d_M_next_511 (by decide) ?_
                            exact W.iret (v := (18 : Int32)) hx hb hr (fun t ht9 hW => ⟨⟨(18 : Int32), (), rfl, h, by rw [ht9]; exact hP, va_K.moved hW.alike hK, hD⟩, hS.F ht9⟩) hS.2.2 d_M_next_524 hlk
                        · have h := if_f c48 h
                          by_cases c52 : p0 = (12 : Int32)
                          · have h := if_t c52 h
                            refine lv_tableIn (tgt := 332) (off := 326) hx hb d_M_next_6 (by rw [c52]; decide) (by rw [c52]; decide) (by rw [c52]; rfl) (by decide) ?_
                            refine lv_iload_n hx hb d_M_next_332 rfl (lv_at hl 2 rfl) ?_
                            obtain ⟨r53, hf, h⟩ := bi1_x h
                            refine clSi (D := (dC, dI)) (n := 1) (As := [.int p1]) ⟨hx, hb, hml, hown, ht⟩ (c_M_hex l dC dI X  H.size p1 r53 hf) (gS q_519 q_520 q_490 q_521) (by decide +kernel) ⟨rfl, rfl, Nat.le_of_ble_eq_true rfl, Nat.le_of_ble_eq_true rfl⟩ hK hP hD hS hA hX [] [] [] rfl (wr := []) rfl (by decide) (by decide) (by decide) rfl rfl hl.1 rfl (lv_room (Nat.le_of_ble_eq_true rfl)) d_M_next_333 ⟨Nat.zero_le _, Nat.zero_le _⟩ (fun r9 u9 H locs h9 hP hD hS => ?_)
                            cases h9
                            refine lv_if_lt (tgt := 344) hx hb d_M_next_336 (by decide) (fun c54 => ?_) (fun c54 => ?_)
                            · have h := if_t c54 h
                              refine lv_iload_n hx hb d_M_next_344 rfl (lv_at hl 2 rfl) ?_
                              refine lv_bipush (v := 46) hx hb d_M_next_345 (by decide) ?_
                              refine lv_icmp_ne (tgt := 355) hx hb d_M_next_347 (by decide) (fun c55 => ?_) (fun c55 => ?_)
                              · have h := if_f c55 h
                                refine lv_iconst (v := -1) hx hb d_M_next_355 (by decide) ?_
                                exact W.iret (v := (-1 : Int32)) hx hb hr (fun t ht9 hW => ⟨⟨(-1 : Int32), (), rfl, h, by rw [ht9]; exact hP, va_K.moved hW.alike hK, hD⟩, hS.F ht9⟩) hS.2.2 d_M_next_356 hlk
                              · have h := if_t c55 h
                                refine lv_bipush (v := 14) hx hb d_M_next_350 (by decide) ?_
                                refine lv_goto (tgt := 356) hx hb d_M_next_352 (by decide) ?_
                                exact W.iret (v := (14 : Int32)) hx hb hr (fun t ht9 hW => ⟨⟨(14 : Int32), (), rfl, h, by rw [ht9]; exact hP, va_K.moved hW.alike hK, hD⟩, hS.F ht9⟩) hS.2.2 d_M_next_356 hlk
                            · have h := if_f c54 h
                              refine lv_bipush (v := 13) hx hb d_M_next_339 (by decide) ?_
                              refine lv_goto (tgt := 356) hx hb d_M_next_341 (by decide) ?_
                              exact W.iret (v := (13 : Int32)) hx hb hr (fun t ht9 hW => ⟨⟨(13 : Int32), (), rfl, h, by rw [ht9]; exact hP, va_K.moved hW.alike hK, hD⟩, hS.F ht9⟩) hS.2.2 d_M_next_356 hlk
                          · have h := if_f c52 h
                            by_cases c56 : p0 = (13 : Int32)
                            · have h := if_t c56 h
                              refine lv_tableIn (tgt := 357) (off := 351) hx hb d_M_next_6 (by rw [c56]; decide) (by rw [c56]; decide) (by rw [c56]; rfl) (by decide) ?_
                              refine lv_iload_n hx hb d_M_next_357 rfl (lv_at hl 2 rfl) ?_
                              obtain ⟨r57, hf, h⟩ := bi1_x h
                              refine clSi (D := (dC, dI)) (n := 1) (As := [.int p1]) ⟨hx, hb, hml, hown, ht⟩ (c_M_hex l dC dI X  H.size p1 r57 hf) (gS q_519 q_520 q_490 q_521) (by decide +kernel) ⟨rfl, rfl, Nat.le_of_ble_eq_true rfl, Nat.le_of_ble_eq_true rfl⟩ hK hP hD hS hA hX [] [] [] rfl (wr := []) rfl (by decide) (by decide) (by decide) rfl rfl hl.1 rfl (lv_room (Nat.le_of_ble_eq_true rfl)) d_M_next_358 ⟨Nat.zero_le _, Nat.zero_le _⟩ (fun r9 u9 H locs h9 hP hD hS => ?_)
                              cases h9
                              refine lv_if_lt (tgt := 369) hx hb d_M_next_361 (by decide) (fun c58 => ?_) (fun c58 => ?_)
                              · have h := if_t c58 h
                                refine lv_iload_n hx hb d_M_next_369 rfl (lv_at hl 2 rfl) ?_
                                refine lv_bipush (v := 46) hx hb d_M_next_370 (by decide) ?_
                                refine lv_icmp_ne (tgt := 380) hx hb d_M_next_372 (by decide) (fun c59 => ?_) (fun c59 => ?_)
                                · have h := if_f c59 h
                                  refine lv_iload_n hx hb d_M_next_380 rfl (lv_at hl 2 rfl) ?_
                                  refine lv_bipush (v := 112) hx hb d_M_next_381 (by decide) ?_
                                  refine lv_icmp_eq (tgt := 392) hx hb d_M_next_383 (by decide) (fun c60 => ?_) (fun c60 => ?_)
                                  · have h := if_t c60 h
                                    exact s_M_next_392 cx hK hA hX  H locs ls hP hD hS (lv_sub hl [] rfl) h
                                  · have h := if_f c60 h
                                    refine lv_iload_n hx hb d_M_next_386 rfl (lv_at hl 2 rfl) ?_
                                    refine lv_bipush (v := 80) hx hb d_M_next_387 (by decide) ?_
                                    refine lv_icmp_ne (tgt := 397) hx hb d_M_next_389 (by decide) (fun c61 => ?_) (fun c61 => ?_)
                                    · have h := if_f c61 h
                                      refine lv_iload_n hx hb d_M_next_397 rfl (lv_at hl 0 rfl) ?_
                                      refine lv_if_eq (tgt := 406) hx hb d_M_next_398 (by decide) (fun c62 => ?_) (fun c62 => ?_)
                                      · have h := if_t c62 h
                                        refine lv_iconst (v := -1) hx hb d_M_next_406 (by decide) ?_
                                        exact W.iret (v := (-1 : Int32)) hx hb hr (fun t ht9 hW => ⟨⟨(-1 : Int32), (), rfl, h, by rw [ht9]; exact hP, va_K.moved hW.alike hK, hD⟩, hS.F ht9⟩) hS.2.2 d_M_next_407 hlk
                                      · have h := if_f c62 h
                                        refine lv_bipush (v := 9) hx hb d_M_next_401 (by decide) ?_
                                        refine lv_goto (tgt := 407) hx hb d_M_next_403 (by decide) ?_
                                        exact W.iret (v := (9 : Int32)) hx hb hr (fun t ht9 hW => ⟨⟨(9 : Int32), (), rfl, h, by rw [ht9]; exact hP, va_K.moved hW.alike hK, hD⟩, hS.F ht9⟩) hS.2.2 d_M_next_407 hlk
                                    · have h := if_t c61 h
                                      exact s_M_next_392 cx hK hA hX  H locs ls hP hD hS (lv_sub hl [] rfl) h
                                · have h := if_t c59 h
                                  refine lv_bipush (v := 15) hx hb d_M_next_375 (by decide) ?_
                                  refine lv_goto (tgt := 407) hx hb d_M_next_377 (by decide) ?_
                                  exact W.iret (v := (15 : Int32)) hx hb hr (fun t ht9 hW => ⟨⟨(15 : Int32), (), rfl, h, by rw [ht9]; exact hP, va_K.moved hW.alike hK, hD⟩, hS.F ht9⟩) hS.2.2 d_M_next_407 hlk
                              · have h := if_f c58 h
                                refine lv_bipush (v := 13) hx hb d_M_next_364 (by decide) ?_
                                refine lv_goto (tgt := 407) hx hb d_M_next_366 (by decide) ?_
                                exact W.iret (v := (13 : Int32)) hx hb hr (fun t ht9 hW => ⟨⟨(13 : Int32), (), rfl, h, by rw [ht9]; exact hP, va_K.moved hW.alike hK, hD⟩, hS.F ht9⟩) hS.2.2 d_M_next_407 hlk
                            · have h := if_f c56 h
                              by_cases c63 : p0 = (14 : Int32)
                              · have h := if_t c63 h
                                refine lv_tableIn (tgt := 408) (off := 402) hx hb d_M_next_6 (by rw [c63]; decide) (by rw [c63]; decide) (by rw [c63]; rfl) (by decide) ?_
                                refine lv_iload_n hx hb d_M_next_408 rfl (lv_at hl 2 rfl) ?_
                                obtain ⟨r64, hf, h⟩ := bi1_x h
                                refine clSi (D := (dC, dI)) (n := 1) (As := [.int p1]) ⟨hx, hb, hml, hown, ht⟩ (c_M_hex l dC dI X  H.size p1 r64 hf) (gS q_519 q_520 q_490 q_521) (by decide +kernel) ⟨rfl, rfl, Nat.le_of_ble_eq_true rfl, Nat.le_of_ble_eq_true rfl⟩ hK hP hD hS hA hX [] [] [] rfl (wr := []) rfl (by decide) (by decide) (by decide) rfl rfl hl.1 rfl (lv_room (Nat.le_of_ble_eq_true rfl)) d_M_next_409 ⟨Nat.zero_le _, Nat.zero_le _⟩ (fun r9 u9 H locs h9 hP hD hS => ?_)
                                cases h9
                                refine lv_if_lt (tgt := 420) hx hb d_M_next_412 (by decide) (fun c65 => ?_) (fun c65 => ?_)
                                · have h := if_t c65 h
                                  refine lv_iconst (v := -1) hx hb d_M_next_420 (by decide) ?_
                                  exact W.iret (v := (-1 : Int32)) hx hb hr (fun t ht9 hW => ⟨⟨(-1 : Int32), (), rfl, h, by rw [ht9]; exact hP, va_K.moved hW.alike hK, hD⟩, hS.F ht9⟩) hS.2.2 d_M_next_421 hlk
                                · have h := if_f c65 h
                                  refine lv_bipush (v := 15) hx hb d_M_next_415 (by decide) ?_
                                  refine lv_goto (tgt := 421) hx hb d_M_next_417 (by decide) ?_
                                  exact W.iret (v := (15 : Int32)) hx hb hr (fun t ht9 hW => ⟨⟨(15 : Int32), (), rfl, h, by rw [ht9]; exact hP, va_K.moved hW.alike hK, hD⟩, hS.F ht9⟩) hS.2.2 d_M_next_421 hlk
                              · have h := if_f c63 h
                                by_cases c66 : p0 = (15 : Int32)
                                · have h := if_t c66 h
                                  refine lv_tableIn (tgt := 422) (off := 416) hx hb d_M_next_6 (by rw [c66]; decide) (by rw [c66]; decide) (by rw [c66]; rfl) (by decide) ?_
                                  refine lv_iload_n hx hb d_M_next_422 rfl (lv_at hl 2 rfl) ?_
                                  obtain ⟨r67, hf, h⟩ := bi1_x h
                                  refine clSi (D := (dC, dI)) (n := 1) (As := [.int p1]) ⟨hx, hb, hml, hown, ht⟩ (c_M_hex l dC dI X  H.size p1 r67 hf) (gS q_519 q_520 q_490 q_521) (by decide +kernel) ⟨rfl, rfl, Nat.le_of_ble_eq_true rfl, Nat.le_of_ble_eq_true rfl⟩ hK hP hD hS hA hX [] [] [] rfl (wr := []) rfl (by decide) (by decide) (by decide) rfl rfl hl.1 rfl (lv_room (Nat.le_of_ble_eq_true rfl)) d_M_next_423 ⟨Nat.zero_le _, Nat.zero_le _⟩ (fun r9 u9 H locs h9 hP hD hS => ?_)
                                  cases h9
                                  refine lv_if_lt (tgt := 434) hx hb d_M_next_426 (by decide) (fun c68 => ?_) (fun c68 => ?_)
                                  · have h := if_t c68 h
                                    refine lv_iload_n hx hb d_M_next_434 rfl (lv_at hl 2 rfl) ?_
                                    refine lv_bipush (v := 112) hx hb d_M_next_435 (by decide) ?_
                                    refine lv_icmp_eq (tgt := 446) hx hb d_M_next_437 (by decide) (fun c69 => ?_) (fun c69 => ?_)
                                    · have h := if_t c69 h
                                      exact s_M_next_446 cx hK hA hX  H locs ls hP hD hS (lv_sub hl [] rfl) h
                                    · have h := if_f c69 h
                                      refine lv_iload_n hx hb d_M_next_440 rfl (lv_at hl 2 rfl) ?_
                                      refine lv_bipush (v := 80) hx hb d_M_next_441 (by decide) ?_
                                      refine lv_icmp_ne (tgt := 451) hx hb d_M_next_443 (by decide) (fun c70 => ?_) (fun c70 => ?_)
                                      · have h := if_f c70 h
                                        refine lv_iload_n hx hb d_M_next_451 rfl (lv_at hl 0 rfl) ?_
                                        refine lv_if_eq (tgt := 460) hx hb d_M_next_452 (by decide) (fun c71 => ?_) (fun c71 => ?_)
                                        · have h := if_t c71 h
                                          refine lv_iconst (v := -1) hx hb d_M_next_460 (by decide) ?_
                                          exact W.iret (v := (-1 : Int32)) hx hb hr (fun t ht9 hW => ⟨⟨(-1 : Int32), (), rfl, h, by rw [ht9]; exact hP, va_K.moved hW.alike hK, hD⟩, hS.F ht9⟩) hS.2.2 d_M_next_461 hlk
                                        · have h := if_f c71 h
                                          refine lv_bipush (v := 9) hx hb d_M_next_455 (by decide) ?_
                                          refine lv_goto (tgt := 461) hx hb d_M_next_457 (by decide) ?_
                                          exact W.iret (v := (9 : Int32)) hx hb hr (fun t ht9 hW => ⟨⟨(9 : Int32), (), rfl, h, by rw [ht9]; exact hP, va_K.moved hW.alike hK, hD⟩, hS.F ht9⟩) hS.2.2 d_M_next_461 hlk
                                      · have h := if_t c70 h
                                        exact s_M_next_446 cx hK hA hX  H locs ls hP hD hS (lv_sub hl [] rfl) h
                                  · have h := if_f c68 h
                                    refine lv_bipush (v := 15) hx hb d_M_next_429 (by decide) ?_
                                    refine lv_goto (tgt := 461) hx hb d_M_next_431 (by decide) ?_
                                    exact W.iret (v := (15 : Int32)) hx hb hr (fun t ht9 hW => ⟨⟨(15 : Int32), (), rfl, h, by rw [ht9]; exact hP, va_K.moved hW.alike hK, hD⟩, hS.F ht9⟩) hS.2.2 d_M_next_461 hlk
                                · have h := if_f c66 h
                                  by_cases c72 : p0 = (16 : Int32)
                                  · have h := if_t c72 h
                                    refine lv_tableIn (tgt := 462) (off := 456) hx hb d_M_next_6 (by rw [c72]; decide) (by rw [c72]; decide) (by rw [c72]; rfl) (by decide) ?_
                                    refine lv_iload_n hx hb d_M_next_462 rfl (lv_at hl 2 rfl) ?_
                                    obtain ⟨r73, hf, h⟩ := bi1_x h
                                    refine clSi (D := (dC, dI)) (n := 1) (As := [.int p1]) ⟨hx, hb, hml, hown, ht⟩ (c_M_isSign l dC dI X  H.size p1 r73 hf) (gS q_513 q_514 q_490 q_515) (by decide +kernel) ⟨rfl, rfl, Nat.le_of_ble_eq_true rfl, Nat.le_of_ble_eq_true rfl⟩ hK hP hD hS hA hX [] [] [] rfl (wr := []) rfl (by decide) (by decide) (by decide) rfl rfl hl.1 rfl (lv_room (Nat.le_of_ble_eq_true rfl)) d_M_next_463 ⟨Nat.zero_le _, Nat.zero_le _⟩ (fun r9 u9 H locs h9 hP hD hS => ?_)
                                    cases h9
                                    refine lv_if_eq (tgt := 474) hx hb d_M_next_466 (by decide) (fun c74 => ?_) (fun c74 => ?_)
                                    · have h := if_t c74 h
                                      refine lv_iload_n hx hb d_M_next_474 rfl (lv_at hl 2 rfl) ?_
                                      obtain ⟨r75, hf, h⟩ := bi1_x h
                                      refine clSi (D := (dC, dI)) (n := 1) (As := [.int p1]) ⟨hx, hb, hml, hown, ht⟩ (c_M_isDigit l dC dI X  H.size p1 r75 hf) (gS q_507 q_508 q_490 q_509) (by decide +kernel) ⟨rfl, rfl, Nat.le_of_ble_eq_true rfl, Nat.le_of_ble_eq_true rfl⟩ hK hP hD hS hA hX [] [] [] rfl (wr := []) rfl (by decide) (by decide) (by decide) rfl rfl hl.1 rfl (lv_room (Nat.le_of_ble_eq_true rfl)) d_M_next_475 ⟨Nat.zero_le _, Nat.zero_le _⟩ (fun r9 u9 H locs h9 hP hD hS => ?_)
                                      cases h9
                                      refine lv_if_eq (tgt := 486) hx hb d_M_next_478 (by decide) (fun c76 => ?_) (fun c76 => ?_)
                                      · have h := if_t c76 h
                                        refine lv_iconst (v := -1) hx hb d_M_next_486 (by decide) ?_
                                        exact W.iret (v := (-1 : Int32)) hx hb hr (fun t ht9 hW => ⟨⟨(-1 : Int32), (), rfl, h, by rw [ht9]; exact hP, va_K.moved hW.alike hK, hD⟩, hS.F ht9⟩) hS.2.2 d_M_next_487 hlk
                                      · have h := if_f c76 h
                                        refine lv_bipush (v := 18) hx hb d_M_next_481 (by decide) ?_
                                        refine lv_goto (tgt := 487) hx hb d_M_next_483 (by decide) ?_
                                        exact W.iret (v := (18 : Int32)) hx hb hr (fun t ht9 hW => ⟨⟨(18 : Int32), (), rfl, h, by rw [ht9]; exact hP, va_K.moved hW.alike hK, hD⟩, hS.F ht9⟩) hS.2.2 d_M_next_487 hlk
                                    · have h := if_f c74 h
                                      refine lv_bipush (v := 17) hx hb d_M_next_469 (by decide) ?_
                                      refine lv_goto (tgt := 487) hx hb d_M_next_471 (by decide) ?_
                                      exact W.iret (v := (17 : Int32)) hx hb hr (fun t ht9 hW => ⟨⟨(17 : Int32), (), rfl, h, by rw [ht9]; exact hP, va_K.moved hW.alike hK, hD⟩, hS.F ht9⟩) hS.2.2 d_M_next_487 hlk
                                  · have h := if_f c72 h
                                    by_cases c77 : p0 = (17 : Int32)
                                    · have h := if_t c77 h
                                      refine lv_tableIn (tgt := 488) (off := 482) hx hb d_M_next_6 (by rw [c77]; decide) (by rw [c77]; decide) (by rw [c77]; rfl) (by decide) ?_
                                      refine lv_iload_n hx hb d_M_next_488 rfl (lv_at hl 2 rfl) ?_
                                      obtain ⟨r78, hf, h⟩ := bi1_x h
                                      refine clSi (D := (dC, dI)) (n := 1) (As := [.int p1]) ⟨hx, hb, hml, hown, ht⟩ (c_M_isDigit l dC dI X  H.size p1 r78 hf) (gS q_507 q_508 q_490 q_509) (by decide +kernel) ⟨rfl, rfl, Nat.le_of_ble_eq_true rfl, Nat.le_of_ble_eq_true rfl⟩ hK hP hD hS hA hX [] [] [] rfl (wr := []) rfl (by decide) (by decide) (by decide) rfl rfl hl.1 rfl (lv_room (Nat.le_of_ble_eq_true rfl)) d_M_next_489 ⟨Nat.zero_le _, Nat.zero_le _⟩ (fun r9 u9 H locs h9 hP hD hS => ?_)
                                      cases h9
                                      refine lv_if_eq (tgt := 500) hx hb d_M_next_492 (by decide) (fun c79 => ?_) (fun c79 => ?_)
                                      · have h := if_t c79 h
                                        refine lv_iconst (v := -1) hx hb d_M_next_500 (by decide) ?_
                                        exact W.iret (v := (-1 : Int32)) hx hb hr (fun t ht9 hW => ⟨⟨(-1 : Int32), (), rfl, h, by rw [ht9]; exact hP, va_K.moved hW.alike hK, hD⟩, hS.F ht9⟩) hS.2.2 d_M_next_501 hlk
                                      · have h := if_f c79 h
                                        refine lv_bipush (v := 18) hx hb d_M_next_495 (by decide) ?_
                                        refine lv_goto (tgt := 501) hx hb d_M_next_497 (by decide) ?_
                                        exact W.iret (v := (18 : Int32)) hx hb hr (fun t ht9 hW => ⟨⟨(18 : Int32), (), rfl, h, by rw [ht9]; exact hP, va_K.moved hW.alike hK, hD⟩, hS.F ht9⟩) hS.2.2 d_M_next_501 hlk
                                    · have h := if_f c77 h
                                      refine lv_tableOut (tgt := 502) hx hb d_M_next_6 (by have a0 := lv_neT (k := 0) (a := 0) c2 (by decide); have a1 := lv_neT (k := 1) (a := 1) c10 (by decide); have a2 := lv_neT (k := 2) (a := 2) c15 (by decide); have a3 := lv_neT (k := 3) (a := 3) c19 (by decide); have a4 := lv_neT (k := 4) (a := 4) c21 (by decide); have a5 := lv_neT (k := 5) (a := 5) c24 (by decide); have a6 := lv_neT (k := 6) (a := 6) c30 (by decide); have a7 := lv_neT (k := 7) (a := 7) c35 (by decide); have a8 := lv_neT (k := 8) (a := 8) c38 (by decide); have a9 := lv_neT (k := 9) (a := 9) c42 (by decide); have a10 := lv_neT (k := 10) (a := 10) c44 (by decide); have a11 := lv_neT (k := 11) (a := 11) c48 (by decide); have a12 := lv_neT (k := 12) (a := 12) c52 (by decide); have a13 := lv_neT (k := 13) (a := 13) c56 (by decide); have a14 := lv_neT (k := 14) (a := 14) c63 (by decide); have a15 := lv_neT (k := 15) (a := 15) c66 (by decide); have a16 := lv_neT (k := 16) (a := 16) c72 (by decide); have a17 := lv_neT (k := 17) (a := 17) c77 (by decide); omega) (by decide) ?_
                                      refine lv_iload_n hx hb d_M_next_502 rfl (lv_at hl 2 rfl) ?_
                                      obtain ⟨r80, hf, h⟩ := bi1_x h
                                      refine clSi (D := (dC, dI)) (n := 1) (As := [.int p1]) ⟨hx, hb, hml, hown, ht⟩ (c_M_isDigit l dC dI X  H.size p1 r80 hf) (gS q_507 q_508 q_490 q_509) (by decide +kernel) ⟨rfl, rfl, Nat.le_of_ble_eq_true rfl, Nat.le_of_ble_eq_true rfl⟩ hK hP hD hS hA hX [] [] [] rfl (wr := []) rfl (by decide) (by decide) (by decide) rfl rfl hl.1 rfl (lv_room (Nat.le_of_ble_eq_true rfl)) d_M_next_503 ⟨Nat.zero_le _, Nat.zero_le _⟩ (fun r9 u9 H locs h9 hP hD hS => ?_)
                                      cases h9
                                      refine lv_if_eq (tgt := 514) hx hb d_M_next_506 (by decide) (fun c81 => ?_) (fun c81 => ?_)
                                      · have h := if_t c81 h
                                        refine lv_iload_n hx hb d_M_next_514 rfl (lv_at hl 0 rfl) ?_
                                        refine lv_if_eq (tgt := 523) hx hb d_M_next_515 (by decide) (fun c82 => ?_) (fun c82 => ?_)
                                        · have h := if_t c82 h
                                          refine lv_iconst (v := -1) hx hb d_M_next_523 (by decide) ?_
                                          exact W.iret (v := (-1 : Int32)) hx hb hr (fun t ht9 hW => ⟨⟨(-1 : Int32), (), rfl, h, by rw [ht9]; exact hP, va_K.moved hW.alike hK, hD⟩, hS.F ht9⟩) hS.2.2 d_M_next_524 hlk
                                        · have h := if_f c82 h
                                          refine lv_bipush (v := 9) hx hb d_M_next_518 (by decide) ?_
                                          refine lv_goto (tgt := 524) hx hb d_M_next_520 (by decide) ?_
                                          exact W.iret (v := (9 : Int32)) hx hb hr (fun t ht9 hW => ⟨⟨(9 : Int32), (), rfl, h, by rw [ht9]; exact hP, va_K.moved hW.alike hK, hD⟩, hS.F ht9⟩) hS.2.2 d_M_next_524 hlk
                                      · have h := if_f c81 h
                                        refine lv_bipush (v := 18) hx hb d_M_next_509 (by decide) ?_
                                        refine lv_goto (tgt := 524) hx hb d_M_next_511 (by decide) ?_
                                        exact W.iret (v := (18 : Int32)) hx hb hr (fun t ht9 hW => ⟨⟨(18 : Int32), (), rfl, h, by rw [ht9]; exact hP, va_K.moved hW.alike hK, hD⟩, hS.F ht9⟩) hS.2.2 d_M_next_524 hlk
set_option maxHeartbeats 4000000 in
set_option maxRecDepth 100000 in
theorem c_M_next (l : Launch) (dC : Nat → ClassId) (dI : Nat → Nat → Nat) (X : SXT) (sz : Nat) (p0 : Int32) (p1 : Int32) (res : Int32) (hf : f_M_next p0 p1 = some res) : Met l y_M_next (.code y_M_next b_M_next 3 (some .int) :: w0) ({ frames := 2, cells := 0, slots := 0, locals := 41 }) (va_Pc [.int p0, .int p1] (gP (dC, dI) [] [] sz X)) (va_Qi (fun (r : Int32) (_ : Unit) => some r = some res) (gB (dC, dI) [] (va_A [] sz) (fun (u : Unit) => [])) (va_A [] sz)) 0 0 (va_A [] sz) := by
  refine Met.ofW (cc := b_M_next) (maxL := 3) (ret := (some .int)) (by decide) rfl ?_
  intro p e s m args below meth c s₁ B hml hv
  obtain ⟨rfl, hsz, hP, hK, hD0, hX⟩ := hv
  subst hsz
  have cx : cxx p s m ([.int p0, .int p1] : List Value).toArray meth c b_M_next 3 (some .int) R_M := ⟨B.exec, B.bytes, B.returns, hml, findClass_of_methodNamed B.named, fun w9 hw => atoms_spec (ws := .code y_M_next b_M_next 3 (some .int) :: w0) B.pre w9 (List.mem_cons_of_mem _ hw), B.notSynchronized⟩
  have hD := hD0.self (sz := s.heap.size)
  generalize hAe : va_A [] s.heap.size = A at hD hX ⊢
  have hA : ∀ q : Nat, s.heap.size ≤ q → A q := fun q h => by rw [← hAe]; exact Or.inr h
  have hS : va_S A s.heap s.heap [] := va_S.rf
  have hl := lv_entry ([.int p0, .int p1]) (n := 3) (Nat.le_of_ble_eq_true rfl)
  rw [lg_entry_eq]
  generalize (lg_sl ([.int p0, .int p1]) ++ List.replicate (3 - (lg_sl ([.int p0, .int p1])).length) Slot.unset).toArray = ls at hl ⊢
  have hl : lv_has ls 3 [(0, .int p0), (1, .int p1)] := hl
  exact s_M_next_e cx hK hA hX p0 p1 s.heap [] ls hP hD hS hl hf
def f_M_isWhole_45  : Option (Int32) :=
  some (1 : Int32)
def f_M_isWhole (p0 : Int32) : Option (Int32) :=
  if p0 = (2 : Int32) then
    f_M_isWhole_45
  else
    if p0 = (3 : Int32) then
      f_M_isWhole_45
    else
      if p0 = (5 : Int32) then
        f_M_isWhole_45
      else
        if p0 = (8 : Int32) then
          f_M_isWhole_45
        else
          if p0 = (9 : Int32) then
            f_M_isWhole_45
          else
            if p0 = (13 : Int32) then
              f_M_isWhole_45
            else
              if p0 = (15 : Int32) then
                f_M_isWhole_45
              else
                if p0 = (18 : Int32) then
                  f_M_isWhole_45
                else
                  some (0 : Int32)
set_option maxHeartbeats 4000000 in
set_option maxRecDepth 100000 in
theorem s_M_isWhole_45 {p : Program} {l : Launch} {e : Env} {s : State} {m : MethodId} {args : Array Value} {below : List Frame} {meth : Method} {c : Code} {dC : Nat → ClassId} {dI : Nat → Nat → Nat} {A : Nat → Prop} {X : SXT} {res : Int32}  (cx : cxx p s m args meth c b_M_isWhole 1 (some .boolean) R_M) (hK : va_K (dC, dI) classes [] s) (hA : ∀ q, s.heap.size ≤ q → A q) (hX : SX X A s s.heap)  : ∀  (H : Heap) (locs : List Loc) (ls : Array Slot), va_P (dC, dI) classes [] H → va_D A [] → va_S A s.heap H locs → lv_has ls 1 [] → f_M_isWhole_45  = some res → W p l e ({ frames := 0, cells := 0, slots := 0, locals := 0 }) s m args below meth c H locs 0 0 (MQ below (va_Qi (fun (r : Int32) (_ : Unit) => some r = some res) (gB (dC, dI) [] A (fun (u : Unit) => [])) A) args s 0 0 A) (F0 m 45 ls []) := by
  intro  H locs ls hP hD hS hl h
  obtain ⟨hx, hb, hr, hml, hown, ht, hlk⟩ := id cx
  refine lv_iconst (v := 1) hx hb d_M_isWhole_45 (by decide) ?_
  refine lv_goto (tgt := 50) hx hb d_M_isWhole_46 (by decide) ?_
  exact W.zret (v := (1 : Int32)) hx hb hr rfl (fun t ht9 hW => ⟨⟨(1 : Int32), (), rfl, h, by rw [ht9]; exact hP, va_K.moved hW.alike hK, hD⟩, hS.F ht9⟩) hS.2.2 d_M_isWhole_50 hlk
set_option maxHeartbeats 4000000 in
set_option maxRecDepth 100000 in
theorem s_M_isWhole_e {p : Program} {l : Launch} {e : Env} {s : State} {m : MethodId} {args : Array Value} {below : List Frame} {meth : Method} {c : Code} {dC : Nat → ClassId} {dI : Nat → Nat → Nat} {A : Nat → Prop} {X : SXT} {res : Int32} (cx : cxx p s m args meth c b_M_isWhole 1 (some .boolean) R_M) (hK : va_K (dC, dI) classes [] s) (hA : ∀ q, s.heap.size ≤ q → A q) (hX : SX X A s s.heap) : ∀ (p0 : Int32) (H : Heap) (locs : List Loc) (ls : Array Slot), va_P (dC, dI) classes [] H → va_D A [] → va_S A s.heap H locs → lv_has ls 1 [(0, .int p0)] → f_M_isWhole p0 = some res → W p l e ({ frames := 0, cells := 0, slots := 0, locals := 0 }) s m args below meth c H locs 0 0 (MQ below (va_Qi (fun (r : Int32) (_ : Unit) => some r = some res) (gB (dC, dI) [] A (fun (u : Unit) => [])) A) args s 0 0 A) (F0 m 0 ls []) := by
  intro p0 H locs ls hP hD hS hl h
  obtain ⟨hx, hb, hr, hml, hown, ht, hlk⟩ := id cx
  refine lv_iload_n hx hb d_M_isWhole_0 rfl (lv_at hl 0 rfl) ?_
  refine lv_iconst (v := 2) hx hb d_M_isWhole_1 (by decide) ?_
  refine lv_icmp_eq (tgt := 45) hx hb d_M_isWhole_2 (by decide) (fun c1 => ?_) (fun c1 => ?_)
  · have h := if_t c1 h
    exact s_M_isWhole_45 cx hK hA hX  H locs ls hP hD hS (lv_sub hl [] rfl) h
  · have h := if_f c1 h
    refine lv_iload_n hx hb d_M_isWhole_5 rfl (lv_at hl 0 rfl) ?_
    refine lv_iconst (v := 3) hx hb d_M_isWhole_6 (by decide) ?_
    refine lv_icmp_eq (tgt := 45) hx hb d_M_isWhole_7 (by decide) (fun c2 => ?_) (fun c2 => ?_)
    · have h := if_t c2 h
      exact s_M_isWhole_45 cx hK hA hX  H locs ls hP hD hS (lv_sub hl [] rfl) h
    · have h := if_f c2 h
      refine lv_iload_n hx hb d_M_isWhole_10 rfl (lv_at hl 0 rfl) ?_
      refine lv_iconst (v := 5) hx hb d_M_isWhole_11 (by decide) ?_
      refine lv_icmp_eq (tgt := 45) hx hb d_M_isWhole_12 (by decide) (fun c3 => ?_) (fun c3 => ?_)
      · have h := if_t c3 h
        exact s_M_isWhole_45 cx hK hA hX  H locs ls hP hD hS (lv_sub hl [] rfl) h
      · have h := if_f c3 h
        refine lv_iload_n hx hb d_M_isWhole_15 rfl (lv_at hl 0 rfl) ?_
        refine lv_bipush (v := 8) hx hb d_M_isWhole_16 (by decide) ?_
        refine lv_icmp_eq (tgt := 45) hx hb d_M_isWhole_18 (by decide) (fun c4 => ?_) (fun c4 => ?_)
        · have h := if_t c4 h
          exact s_M_isWhole_45 cx hK hA hX  H locs ls hP hD hS (lv_sub hl [] rfl) h
        · have h := if_f c4 h
          refine lv_iload_n hx hb d_M_isWhole_21 rfl (lv_at hl 0 rfl) ?_
          refine lv_bipush (v := 9) hx hb d_M_isWhole_22 (by decide) ?_
          refine lv_icmp_eq (tgt := 45) hx hb d_M_isWhole_24 (by decide) (fun c5 => ?_) (fun c5 => ?_)
          · have h := if_t c5 h
            exact s_M_isWhole_45 cx hK hA hX  H locs ls hP hD hS (lv_sub hl [] rfl) h
          · have h := if_f c5 h
            refine lv_iload_n hx hb d_M_isWhole_27 rfl (lv_at hl 0 rfl) ?_
            refine lv_bipush (v := 13) hx hb d_M_isWhole_28 (by decide) ?_
            refine lv_icmp_eq (tgt := 45) hx hb d_M_isWhole_30 (by decide) (fun c6 => ?_) (fun c6 => ?_)
            · have h := if_t c6 h
              exact s_M_isWhole_45 cx hK hA hX  H locs ls hP hD hS (lv_sub hl [] rfl) h
            · have h := if_f c6 h
              refine lv_iload_n hx hb d_M_isWhole_33 rfl (lv_at hl 0 rfl) ?_
              refine lv_bipush (v := 15) hx hb d_M_isWhole_34 (by decide) ?_
              refine lv_icmp_eq (tgt := 45) hx hb d_M_isWhole_36 (by decide) (fun c7 => ?_) (fun c7 => ?_)
              · have h := if_t c7 h
                exact s_M_isWhole_45 cx hK hA hX  H locs ls hP hD hS (lv_sub hl [] rfl) h
              · have h := if_f c7 h
                refine lv_iload_n hx hb d_M_isWhole_39 rfl (lv_at hl 0 rfl) ?_
                refine lv_bipush (v := 18) hx hb d_M_isWhole_40 (by decide) ?_
                refine lv_icmp_ne (tgt := 49) hx hb d_M_isWhole_42 (by decide) (fun c8 => ?_) (fun c8 => ?_)
                · have h := if_f c8 h
                  refine lv_iconst (v := 0) hx hb d_M_isWhole_49 (by decide) ?_
                  exact W.zret (v := (0 : Int32)) hx hb hr rfl (fun t ht9 hW => ⟨⟨(0 : Int32), (), rfl, h, by rw [ht9]; exact hP, va_K.moved hW.alike hK, hD⟩, hS.F ht9⟩) hS.2.2 d_M_isWhole_50 hlk
                · have h := if_t c8 h
                  exact s_M_isWhole_45 cx hK hA hX  H locs ls hP hD hS (lv_sub hl [] rfl) h
set_option maxHeartbeats 4000000 in
set_option maxRecDepth 100000 in
theorem c_M_isWhole (l : Launch) (dC : Nat → ClassId) (dI : Nat → Nat → Nat) (X : SXT) (sz : Nat) (p0 : Int32) (res : Int32) (hf : f_M_isWhole p0 = some res) : Met l y_M_isWhole (.code y_M_isWhole b_M_isWhole 1 (some .boolean) :: w0) ({ frames := 0, cells := 0, slots := 0, locals := 0 }) (va_Pc [.int p0] (gP (dC, dI) [] [] sz X)) (va_Qi (fun (r : Int32) (_ : Unit) => some r = some res) (gB (dC, dI) [] (va_A [] sz) (fun (u : Unit) => [])) (va_A [] sz)) 0 0 (va_A [] sz) := by
  refine Met.ofW (cc := b_M_isWhole) (maxL := 1) (ret := (some .boolean)) (by decide) rfl ?_
  intro p e s m args below meth c s₁ B hml hv
  obtain ⟨rfl, hsz, hP, hK, hD0, hX⟩ := hv
  subst hsz
  have cx : cxx p s m ([.int p0] : List Value).toArray meth c b_M_isWhole 1 (some .boolean) R_M := ⟨B.exec, B.bytes, B.returns, hml, findClass_of_methodNamed B.named, fun w9 hw => atoms_spec (ws := .code y_M_isWhole b_M_isWhole 1 (some .boolean) :: w0) B.pre w9 (List.mem_cons_of_mem _ hw), B.notSynchronized⟩
  have hD := hD0.self (sz := s.heap.size)
  generalize hAe : va_A [] s.heap.size = A at hD hX ⊢
  have hA : ∀ q : Nat, s.heap.size ≤ q → A q := fun q h => by rw [← hAe]; exact Or.inr h
  have hS : va_S A s.heap s.heap [] := va_S.rf
  have hl := lv_entry ([.int p0]) (n := 1) (Nat.le_of_ble_eq_true rfl)
  rw [lg_entry_eq]
  generalize (lg_sl ([.int p0]) ++ List.replicate (1 - (lg_sl ([.int p0])).length) Slot.unset).toArray = ls at hl ⊢
  have hl : lv_has ls 1 [(0, .int p0)] := hl
  exact s_M_isWhole_e cx hK hA hX p0 s.heap [] ls hP hD hS hl hf
abbrev WS_M_note (g_this_tape : Nat) (g_this_above : Nat) (g_this_below : Nat) (g_this_limbs : Nat) (g_this_exact : Nat) (g_this_round : Nat) (g_this_out : Nat) (g_this_body : Nat) (h_this : Nat) (h_this_digit : Nat) (c_this_digit : ClassId) (v_size : Int32) (v_kind : Int32) (v_number : Int64) (v_exponent : Int32) (v_aboveSize : Int32) (v_belowSize : Int32) (v_state : Int32) (v_digits : Int32) (v_behind : Int32) (v_power : Int32) (v_powerLess : Int32) (v_less : Int32) (v_plainDigits : Int32) (v_sixteen : Int32) (v_limbCount : Int32) (v_length : Int32) (v_point : Int32) (v_roundLength : Int32) (v_roundPoint : Int32) (v_written : Int32) (v_bodySize : Int32) (a_digit : (Nat → Int32)) : va_W := [(h_this, .inr (7, [.ref g_this_tape, .int v_size, .int v_kind, .long v_number, .int v_exponent, .ref g_this_above, .int v_aboveSize, .ref g_this_below, .int v_belowSize, .int v_state, .int v_digits, .ref h_this_digit, .int v_behind, .int v_power, .int v_powerLess, .int v_less, .int v_plainDigits, .int v_sixteen, .ref g_this_limbs, .int v_limbCount, .ref g_this_exact, .int v_length, .int v_point, .ref g_this_round, .int v_roundLength, .int v_roundPoint, .ref g_this_out, .int v_written, .ref g_this_body, .int v_bodySize])), (h_this_digit, .inl (c_this_digit, 1200, .inl a_digit))]
def f_M_note_285 (v_digits : Int32) (v_behind : Int32) (v_power : Int32) (v_powerLess : Int32) (v_less : Int32) (v_plainDigits : Int32) (v_sixteen : Int32) (a_digit : (Nat → Int32)) (z1 : Int32) : Option (Int32 × Int32 × Int32 × Int32 × Int32 × Int32 × Int32 × (Nat → Int32)) :=
  some (v_digits, v_behind, z1, v_powerLess, v_less, v_plainDigits, v_sixteen, a_digit)
def f_M_note_256 (v_digits : Int32) (v_behind : Int32) (v_power : Int32) (v_powerLess : Int32) (v_less : Int32) (v_plainDigits : Int32) (v_sixteen : Int32) (a_digit : (Nat → Int32)) (y2 : Int32) : Option (Int32 × Int32 × Int32 × Int32 × Int32 × Int32 × Int32 × (Nat → Int32)) :=
  if v_power ≤ (99999 : Int32) then
    f_M_note_285 v_digits v_behind v_power v_powerLess v_less v_plainDigits v_sixteen a_digit ((((10 : Int32) * v_power) + y2) - (48 : Int32))
  else
    f_M_note_285 v_digits v_behind v_power v_powerLess v_less v_plainDigits v_sixteen a_digit v_power
def f_M_note_244 (v_digits : Int32) (v_behind : Int32) (v_power : Int32) (v_powerLess : Int32) (v_less : Int32) (v_plainDigits : Int32) (v_sixteen : Int32) (a_digit : (Nat → Int32)) (y1 : Int32) (y2 : Int32) : Option (Int32 × Int32 × Int32 × Int32 × Int32 × Int32 × Int32 × (Nat → Int32)) :=
  if y1 = (8 : Int32) then
    f_M_note_256 v_digits v_behind v_power v_powerLess v_less v_plainDigits v_sixteen a_digit y2
  else
    if y1 = (18 : Int32) then
      f_M_note_256 v_digits v_behind v_power v_powerLess v_less v_plainDigits v_sixteen a_digit y2
    else
      some (v_digits, v_behind, v_power, v_powerLess, v_less, v_plainDigits, v_sixteen, a_digit)
def f_M_note_240 (v_digits : Int32) (v_behind : Int32) (v_power : Int32) (v_powerLess : Int32) (v_less : Int32) (v_plainDigits : Int32) (v_sixteen : Int32) (a_digit : (Nat → Int32)) (y1 : Int32) (y2 : Int32) (z1 : Int32) (z2 : Int32) : Option (Int32 × Int32 × Int32 × Int32 × Int32 × Int32 × Int32 × (Nat → Int32)) :=
  bd (z1 + z2) fun x4 =>
  f_M_note_244 v_digits x4 v_power v_powerLess v_less v_plainDigits v_sixteen a_digit y1 y2
def f_M_note_235 (v_digits : Int32) (v_behind : Int32) (v_power : Int32) (v_powerLess : Int32) (v_less : Int32) (v_plainDigits : Int32) (v_sixteen : Int32) (a_digit : (Nat → Int32)) (y1 : Int32) (y2 : Int32) (z1 : Int32) : Option (Int32 × Int32 × Int32 × Int32 × Int32 × Int32 × Int32 × (Nat → Int32)) :=
  f_M_note_240 v_digits v_behind v_power v_powerLess v_less v_plainDigits v_sixteen a_digit y1 y2 z1 (1 : Int32)
def f_M_note_191 (v_digits : Int32) (v_behind : Int32) (v_power : Int32) (v_powerLess : Int32) (v_less : Int32) (v_plainDigits : Int32) (v_sixteen : Int32) (a_digit : (Nat → Int32)) (y1 : Int32) (y2 : Int32) (y3 : Int32) : Option (Int32 × Int32 × Int32 × Int32 × Int32 × Int32 × Int32 × (Nat → Int32)) :=
  if y3 = 0 then
    f_M_note_244 v_digits v_behind v_power v_powerLess v_less v_plainDigits v_sixteen a_digit y1 y2
  else
    bi1 (f_M_hex y2) fun r6 =>
    ck (gin v_digits 1200) <|
    bd (upd a_digit v_digits.toNatClampNeg ((r6.toInt8.toInt32).toInt8.toInt32)) fun a8 =>
    bd (v_digits + (1 : Int32)) fun x9 =>
    if y1 = (5 : Int32) then
      f_M_note_235 x9 v_behind v_power v_powerLess v_less v_plainDigits v_sixteen a8 y1 y2 v_behind
    else
      if y1 = (15 : Int32) then
        f_M_note_235 x9 v_behind v_power v_powerLess v_less v_plainDigits v_sixteen a8 y1 y2 v_behind
      else
        f_M_note_240 x9 v_behind v_power v_powerLess v_less v_plainDigits v_sixteen a8 y1 y2 v_behind (0 : Int32)
def f_M_note_179 (v_digits : Int32) (v_behind : Int32) (v_power : Int32) (v_powerLess : Int32) (v_less : Int32) (v_plainDigits : Int32) (v_sixteen : Int32) (a_digit : (Nat → Int32)) (y1 : Int32) (y2 : Int32) (z0 : Int32) : Option (Int32 × Int32 × Int32 × Int32 × Int32 × Int32 × Int32 × (Nat → Int32)) :=
  if y1 = (12 : Int32) then
    f_M_note_191 (0 : Int32) v_behind v_power v_powerLess v_less v_plainDigits v_sixteen a_digit y1 y2 z0
  else
    f_M_note_191 v_digits v_behind v_power v_powerLess v_less v_plainDigits v_sixteen a_digit y1 y2 z0
def f_M_note_178 (v_digits : Int32) (v_behind : Int32) (v_power : Int32) (v_powerLess : Int32) (v_less : Int32) (v_plainDigits : Int32) (v_sixteen : Int32) (a_digit : (Nat → Int32)) (y1 : Int32) (y2 : Int32) : Option (Int32 × Int32 × Int32 × Int32 × Int32 × Int32 × Int32 × (Nat → Int32)) :=
  f_M_note_179 v_digits v_behind v_power v_powerLess v_less v_plainDigits v_sixteen a_digit y1 y2 (0 : Int32)
def f_M_note_174 (v_digits : Int32) (v_behind : Int32) (v_power : Int32) (v_powerLess : Int32) (v_less : Int32) (v_plainDigits : Int32) (v_sixteen : Int32) (a_digit : (Nat → Int32)) (y1 : Int32) (y2 : Int32) : Option (Int32 × Int32 × Int32 × Int32 × Int32 × Int32 × Int32 × (Nat → Int32)) :=
  f_M_note_179 v_digits v_behind v_power v_powerLess v_less v_plainDigits v_sixteen a_digit y1 y2 (1 : Int32)
def f_M_note_155 (v_digits : Int32) (v_behind : Int32) (v_power : Int32) (v_powerLess : Int32) (v_less : Int32) (v_plainDigits : Int32) (v_sixteen : Int32) (a_digit : (Nat → Int32)) (y1 : Int32) (y2 : Int32) : Option (Int32 × Int32 × Int32 × Int32 × Int32 × Int32 × Int32 × (Nat → Int32)) :=
  if y1 = (13 : Int32) then
    f_M_note_174 v_digits v_behind v_power v_powerLess v_less v_plainDigits v_sixteen a_digit y1 y2
  else
    if y1 = (15 : Int32) then
      bi1 (f_M_hex y2) fun r15 =>
      if r15 < 0 then
        f_M_note_178 v_digits v_behind v_power v_powerLess v_less v_plainDigits v_sixteen a_digit y1 y2
      else
        f_M_note_174 v_digits v_behind v_power v_powerLess v_less v_plainDigits v_sixteen a_digit y1 y2
    else
      f_M_note_178 v_digits v_behind v_power v_powerLess v_less v_plainDigits v_sixteen a_digit y1 y2
def f_M_note_130 (v_digits : Int32) (v_behind : Int32) (v_power : Int32) (v_powerLess : Int32) (v_less : Int32) (v_plainDigits : Int32) (v_sixteen : Int32) (a_digit : (Nat → Int32)) (y1 : Int32) (y2 : Int32) (z1 : Int32) : Option (Int32 × Int32 × Int32 × Int32 × Int32 × Int32 × Int32 × (Nat → Int32)) :=
  ck (ckZ z1) <|
  if y1 = (2 : Int32) then
    f_M_note_174 v_digits v_behind v_power z1 v_less v_plainDigits v_sixteen a_digit y1 y2
  else
    if y1 = (3 : Int32) then
      f_M_note_174 v_digits v_behind v_power z1 v_less v_plainDigits v_sixteen a_digit y1 y2
    else
      if y1 = (5 : Int32) then
        bi1 (f_M_isDigit y2) fun r21 =>
        if r21 = 0 then
          f_M_note_155 v_digits v_behind v_power z1 v_less v_plainDigits v_sixteen a_digit y1 y2
        else
          f_M_note_174 v_digits v_behind v_power z1 v_less v_plainDigits v_sixteen a_digit y1 y2
      else
        f_M_note_155 v_digits v_behind v_power z1 v_less v_plainDigits v_sixteen a_digit y1 y2
def f_M_note_129 (v_digits : Int32) (v_behind : Int32) (v_power : Int32) (v_powerLess : Int32) (v_less : Int32) (v_plainDigits : Int32) (v_sixteen : Int32) (a_digit : (Nat → Int32)) (y1 : Int32) (y2 : Int32) : Option (Int32 × Int32 × Int32 × Int32 × Int32 × Int32 × Int32 × (Nat → Int32)) :=
  f_M_note_130 v_digits v_behind v_power v_powerLess v_less v_plainDigits v_sixteen a_digit y1 y2 (0 : Int32)
def f_M_note_125 (v_digits : Int32) (v_behind : Int32) (v_power : Int32) (v_powerLess : Int32) (v_less : Int32) (v_plainDigits : Int32) (v_sixteen : Int32) (a_digit : (Nat → Int32)) (y1 : Int32) (y2 : Int32) : Option (Int32 × Int32 × Int32 × Int32 × Int32 × Int32 × Int32 × (Nat → Int32)) :=
  f_M_note_130 v_digits v_behind v_power v_powerLess v_less v_plainDigits v_sixteen a_digit y1 y2 (1 : Int32)
def f_M_note_119 (v_digits : Int32) (v_behind : Int32) (v_power : Int32) (v_powerLess : Int32) (v_less : Int32) (v_plainDigits : Int32) (v_sixteen : Int32) (a_digit : (Nat → Int32)) (y1 : Int32) (y2 : Int32) : Option (Int32 × Int32 × Int32 × Int32 × Int32 × Int32 × Int32 × (Nat → Int32)) :=
  if y2 = (45 : Int32) then
    f_M_note_125 v_digits v_behind v_power v_powerLess v_less v_plainDigits v_sixteen a_digit y1 y2
  else
    f_M_note_129 v_digits v_behind v_power v_powerLess v_less v_plainDigits v_sixteen a_digit y1 y2
def f_M_note_96 (v_digits : Int32) (v_behind : Int32) (v_power : Int32) (v_powerLess : Int32) (v_less : Int32) (v_plainDigits : Int32) (v_sixteen : Int32) (a_digit : (Nat → Int32)) (y1 : Int32) (y2 : Int32) (z1 : Int32) : Option (Int32 × Int32 × Int32 × Int32 × Int32 × Int32 × Int32 × (Nat → Int32)) :=
  ck (ckZ z1) <|
  if v_powerLess = 0 then
    if y1 = (7 : Int32) then
      f_M_note_119 v_digits v_behind v_power v_powerLess v_less z1 v_sixteen a_digit y1 y2
    else
      if y1 = (17 : Int32) then
        f_M_note_119 v_digits v_behind v_power v_powerLess v_less z1 v_sixteen a_digit y1 y2
      else
        f_M_note_129 v_digits v_behind v_power v_powerLess v_less z1 v_sixteen a_digit y1 y2
  else
    f_M_note_125 v_digits v_behind v_power v_powerLess v_less z1 v_sixteen a_digit y1 y2
def f_M_note_95 (v_digits : Int32) (v_behind : Int32) (v_power : Int32) (v_powerLess : Int32) (v_less : Int32) (v_plainDigits : Int32) (v_sixteen : Int32) (a_digit : (Nat → Int32)) (y1 : Int32) (y2 : Int32) : Option (Int32 × Int32 × Int32 × Int32 × Int32 × Int32 × Int32 × (Nat → Int32)) :=
  f_M_note_96 v_digits v_behind v_power v_powerLess v_less v_plainDigits v_sixteen a_digit y1 y2 (0 : Int32)
def f_M_note_46 (v_digits : Int32) (v_behind : Int32) (v_power : Int32) (v_powerLess : Int32) (v_less : Int32) (v_plainDigits : Int32) (v_sixteen : Int32) (a_digit : (Nat → Int32)) (y1 : Int32) (y2 : Int32) (z1 : Int32) : Option (Int32 × Int32 × Int32 × Int32 × Int32 × Int32 × Int32 × (Nat → Int32)) :=
  ck (ckZ z1) <|
  if v_plainDigits = 0 then
    f_M_note_95 v_digits v_behind v_power v_powerLess v_less v_plainDigits z1 a_digit y1 y2
  else
    if y1 = (4 : Int32) then
      f_M_note_95 v_digits v_behind v_power v_powerLess v_less v_plainDigits z1 a_digit y1 y2
    else
      if y1 = (5 : Int32) then
        f_M_note_95 v_digits v_behind v_power v_powerLess v_less v_plainDigits z1 a_digit y1 y2
      else
        if y1 = (6 : Int32) then
          f_M_note_95 v_digits v_behind v_power v_powerLess v_less v_plainDigits z1 a_digit y1 y2
        else
          if y1 = (14 : Int32) then
            f_M_note_95 v_digits v_behind v_power v_powerLess v_less v_plainDigits z1 a_digit y1 y2
          else
            if y1 = (15 : Int32) then
              f_M_note_95 v_digits v_behind v_power v_powerLess v_less v_plainDigits z1 a_digit y1 y2
            else
              if y1 = (16 : Int32) then
                f_M_note_95 v_digits v_behind v_power v_powerLess v_less v_plainDigits z1 a_digit y1 y2
              else
                f_M_note_96 v_digits v_behind v_power v_powerLess v_less v_plainDigits z1 a_digit y1 y2 (1 : Int32)
def f_M_note_41 (v_digits : Int32) (v_behind : Int32) (v_power : Int32) (v_powerLess : Int32) (v_less : Int32) (v_plainDigits : Int32) (v_sixteen : Int32) (a_digit : (Nat → Int32)) (y1 : Int32) (y2 : Int32) : Option (Int32 × Int32 × Int32 × Int32 × Int32 × Int32 × Int32 × (Nat → Int32)) :=
  f_M_note_46 v_digits v_behind v_power v_powerLess v_less v_plainDigits v_sixteen a_digit y1 y2 (1 : Int32)
def f_M_note_24 (v_digits : Int32) (v_behind : Int32) (v_power : Int32) (v_powerLess : Int32) (v_less : Int32) (v_plainDigits : Int32) (v_sixteen : Int32) (a_digit : (Nat → Int32)) (y1 : Int32) (y2 : Int32) (z1 : Int32) : Option (Int32 × Int32 × Int32 × Int32 × Int32 × Int32 × Int32 × (Nat → Int32)) :=
  ck (ckZ z1) <|
  if v_sixteen = 0 then
    if y1 = (12 : Int32) then
      f_M_note_41 v_digits v_behind v_power v_powerLess z1 v_plainDigits v_sixteen a_digit y1 y2
    else
      f_M_note_46 v_digits v_behind v_power v_powerLess z1 v_plainDigits v_sixteen a_digit y1 y2 (0 : Int32)
  else
    f_M_note_41 v_digits v_behind v_power v_powerLess z1 v_plainDigits v_sixteen a_digit y1 y2
def f_M_note_23 (v_digits : Int32) (v_behind : Int32) (v_power : Int32) (v_powerLess : Int32) (v_less : Int32) (v_plainDigits : Int32) (v_sixteen : Int32) (a_digit : (Nat → Int32)) (y1 : Int32) (y2 : Int32) : Option (Int32 × Int32 × Int32 × Int32 × Int32 × Int32 × Int32 × (Nat → Int32)) :=
  f_M_note_24 v_digits v_behind v_power v_powerLess v_less v_plainDigits v_sixteen a_digit y1 y2 (0 : Int32)
def f_M_note_19 (v_digits : Int32) (v_behind : Int32) (v_power : Int32) (v_powerLess : Int32) (v_less : Int32) (v_plainDigits : Int32) (v_sixteen : Int32) (a_digit : (Nat → Int32)) (y1 : Int32) (y2 : Int32) : Option (Int32 × Int32 × Int32 × Int32 × Int32 × Int32 × Int32 × (Nat → Int32)) :=
  f_M_note_24 v_digits v_behind v_power v_powerLess v_less v_plainDigits v_sixteen a_digit y1 y2 (1 : Int32)
def f_M_note (v_digits : Int32) (v_behind : Int32) (v_power : Int32) (v_powerLess : Int32) (v_less : Int32) (v_plainDigits : Int32) (v_sixteen : Int32) (a_digit : (Nat → Int32)) (p1 : Int32) (p2 : Int32) : Option (Int32 × Int32 × Int32 × Int32 × Int32 × Int32 × Int32 × (Nat → Int32)) :=
  if v_less = 0 then
    if p1 = (1 : Int32) then
      if p2 = (45 : Int32) then
        f_M_note_19 v_digits v_behind v_power v_powerLess v_less v_plainDigits v_sixteen a_digit p1 p2
      else
        f_M_note_23 v_digits v_behind v_power v_powerLess v_less v_plainDigits v_sixteen a_digit p1 p2
    else
      f_M_note_23 v_digits v_behind v_power v_powerLess v_less v_plainDigits v_sixteen a_digit p1 p2
  else
    f_M_note_19 v_digits v_behind v_power v_powerLess v_less v_plainDigits v_sixteen a_digit p1 p2
set_option maxHeartbeats 4000000 in
set_option maxRecDepth 100000 in
theorem s_M_note_285 {p : Program} {l : Launch} {e : Env} {s : State} {m : MethodId} {args : Array Value} {below : List Frame} {meth : Method} {c : Code} {dC : Nat → ClassId} {dI : Nat → Nat → Nat} {A : Nat → Prop} {X : SXT} {g_this_tape : Nat} {g_this_above : Nat} {g_this_below : Nat} {g_this_limbs : Nat} {g_this_exact : Nat} {g_this_round : Nat} {g_this_out : Nat} {g_this_body : Nat} {h_this : Nat} {h_this_digit : Nat} {c_this_digit : ClassId} {v_size : Int32} {v_kind : Int32} {v_number : Int64} {v_exponent : Int32} {v_aboveSize : Int32} {v_belowSize : Int32} {v_state : Int32} {v_limbCount : Int32} {v_length : Int32} {v_point : Int32} {v_roundLength : Int32} {v_roundPoint : Int32} {v_written : Int32} {v_bodySize : Int32} {res : Int32 × Int32 × Int32 × Int32 × Int32 × Int32 × Int32 × (Nat → Int32)}  (cx : cxx p s m args meth c b_M_note 4 none R_M) (hK : va_K (dC, dI) classes [(c_this_digit, .byte)] s) (hA : ∀ q, s.heap.size ≤ q → A q) (hX : SX X A s s.heap)  : ∀ (v_digits : Int32) (v_behind : Int32) (v_power : Int32) (v_powerLess : Int32) (v_less : Int32) (v_plainDigits : Int32) (v_sixteen : Int32) (a_digit : (Nat → Int32)) (z1 : Int32) (H : Heap) (locs : List Loc) (ls : Array Slot), va_P (dC, dI) classes (WS_M_note g_this_tape g_this_above g_this_below g_this_limbs g_this_exact g_this_round g_this_out g_this_body h_this h_this_digit c_this_digit v_size v_kind v_number v_exponent v_aboveSize v_belowSize v_state v_digits v_behind v_power v_powerLess v_less v_plainDigits v_sixteen v_limbCount v_length v_point v_roundLength v_roundPoint v_written v_bodySize a_digit) H → va_D A (WS_M_note g_this_tape g_this_above g_this_below g_this_limbs g_this_exact g_this_round g_this_out g_this_body h_this h_this_digit c_this_digit v_size v_kind v_number v_exponent v_aboveSize v_belowSize v_state v_digits v_behind v_power v_powerLess v_less v_plainDigits v_sixteen v_limbCount v_length v_point v_roundLength v_roundPoint v_written v_bodySize a_digit) → va_S A s.heap H locs → lv_has ls 4 [(0, .ref h_this)] → f_M_note_285 v_digits v_behind v_power v_powerLess v_less v_plainDigits v_sixteen a_digit z1 = some res → W p l e ({ frames := 1, cells := 0, slots := 0, locals := 20 }) s m args below meth c H locs 0 0 (MQ below (va_Qv (fun (u : Int32 × Int32 × Int32 × Int32 × Int32 × Int32 × Int32 × (Nat → Int32)) => some u = some res) (gB (dC, dI) [(c_this_digit, .byte)] A (fun (u : Int32 × Int32 × Int32 × Int32 × Int32 × Int32 × Int32 × (Nat → Int32)) => (WS_M_note g_this_tape g_this_above g_this_below g_this_limbs g_this_exact g_this_round g_this_out g_this_body h_this h_this_digit c_this_digit v_size v_kind v_number v_exponent v_aboveSize v_belowSize v_state u.1 u.2.1 u.2.2.1 u.2.2.2.1 u.2.2.2.2.1 u.2.2.2.2.2.1 u.2.2.2.2.2.2.1 v_limbCount v_length v_point v_roundLength v_roundPoint v_written v_bodySize u.2.2.2.2.2.2.2))) A) args s 0 0 A) (F0 m 285 ls [.int z1, .ref h_this]) := by
  intro v_digits v_behind v_power v_powerLess v_less v_plainDigits v_sixteen a_digit z1 H locs ls hP hD hS hl h
  obtain ⟨hx, hb, hr, hml, hown, ht, hlk⟩ := id cx
  refine va_put (D := (dC, dI)) (ci := 7) (v := .int z1) (ty := .int) (C := R_M) (T := F_M) (N := 30) hx hb ht i_M t_M t_M_ok n_M hown hK hP hD hS 0 rfl rfl 13 (by decide) (ht _ q_522) (fun _ h9 => h9) rfl (t_M_ok 13 (by decide)) rfl rfl (Nat.le_of_ble_eq_true rfl) d_M_note_285 (fun H locs hP hD hS => ?_)
  have hP : va_P (dC, dI) classes (WS_M_note g_this_tape g_this_above g_this_below g_this_limbs g_this_exact g_this_round g_this_out g_this_body h_this h_this_digit c_this_digit v_size v_kind v_number v_exponent v_aboveSize v_belowSize v_state v_digits v_behind z1 v_powerLess v_less v_plainDigits v_sixteen v_limbCount v_length v_point v_roundLength v_roundPoint v_written v_bodySize a_digit) H := hP
  have hD : va_D A (WS_M_note g_this_tape g_this_above g_this_below g_this_limbs g_this_exact g_this_round g_this_out g_this_body h_this h_this_digit c_this_digit v_size v_kind v_number v_exponent v_aboveSize v_belowSize v_state v_digits v_behind z1 v_powerLess v_less v_plainDigits v_sixteen v_limbCount v_length v_point v_roundLength v_roundPoint v_written v_bodySize a_digit) := hD
  exact W.vret hx hb hr (fun t ht9 hW => ⟨⟨(v_digits, v_behind, z1, v_powerLess, v_less, v_plainDigits, v_sixteen, a_digit), rfl, h, by rw [ht9]; exact hP, va_K.moved hW.alike hK, hD⟩, hS.F ht9⟩) hS.2.2 d_M_note_288 hlk
set_option maxHeartbeats 4000000 in
set_option maxRecDepth 100000 in
theorem s_M_note_256 {p : Program} {l : Launch} {e : Env} {s : State} {m : MethodId} {args : Array Value} {below : List Frame} {meth : Method} {c : Code} {dC : Nat → ClassId} {dI : Nat → Nat → Nat} {A : Nat → Prop} {X : SXT} {g_this_tape : Nat} {g_this_above : Nat} {g_this_below : Nat} {g_this_limbs : Nat} {g_this_exact : Nat} {g_this_round : Nat} {g_this_out : Nat} {g_this_body : Nat} {h_this : Nat} {h_this_digit : Nat} {c_this_digit : ClassId} {v_size : Int32} {v_kind : Int32} {v_number : Int64} {v_exponent : Int32} {v_aboveSize : Int32} {v_belowSize : Int32} {v_state : Int32} {v_limbCount : Int32} {v_length : Int32} {v_point : Int32} {v_roundLength : Int32} {v_roundPoint : Int32} {v_written : Int32} {v_bodySize : Int32} {res : Int32 × Int32 × Int32 × Int32 × Int32 × Int32 × Int32 × (Nat → Int32)}  (cx : cxx p s m args meth c b_M_note 4 none R_M) (hK : va_K (dC, dI) classes [(c_this_digit, .byte)] s) (hA : ∀ q, s.heap.size ≤ q → A q) (hX : SX X A s s.heap)  : ∀ (v_digits : Int32) (v_behind : Int32) (v_power : Int32) (v_powerLess : Int32) (v_less : Int32) (v_plainDigits : Int32) (v_sixteen : Int32) (a_digit : (Nat → Int32)) (y2 : Int32) (H : Heap) (locs : List Loc) (ls : Array Slot), va_P (dC, dI) classes (WS_M_note g_this_tape g_this_above g_this_below g_this_limbs g_this_exact g_this_round g_this_out g_this_body h_this h_this_digit c_this_digit v_size v_kind v_number v_exponent v_aboveSize v_belowSize v_state v_digits v_behind v_power v_powerLess v_less v_plainDigits v_sixteen v_limbCount v_length v_point v_roundLength v_roundPoint v_written v_bodySize a_digit) H → va_D A (WS_M_note g_this_tape g_this_above g_this_below g_this_limbs g_this_exact g_this_round g_this_out g_this_body h_this h_this_digit c_this_digit v_size v_kind v_number v_exponent v_aboveSize v_belowSize v_state v_digits v_behind v_power v_powerLess v_less v_plainDigits v_sixteen v_limbCount v_length v_point v_roundLength v_roundPoint v_written v_bodySize a_digit) → va_S A s.heap H locs → lv_has ls 4 [(0, .ref h_this), (2, .int y2)] → f_M_note_256 v_digits v_behind v_power v_powerLess v_less v_plainDigits v_sixteen a_digit y2 = some res → W p l e ({ frames := 1, cells := 0, slots := 0, locals := 20 }) s m args below meth c H locs 0 0 (MQ below (va_Qv (fun (u : Int32 × Int32 × Int32 × Int32 × Int32 × Int32 × Int32 × (Nat → Int32)) => some u = some res) (gB (dC, dI) [(c_this_digit, .byte)] A (fun (u : Int32 × Int32 × Int32 × Int32 × Int32 × Int32 × Int32 × (Nat → Int32)) => (WS_M_note g_this_tape g_this_above g_this_below g_this_limbs g_this_exact g_this_round g_this_out g_this_body h_this h_this_digit c_this_digit v_size v_kind v_number v_exponent v_aboveSize v_belowSize v_state u.1 u.2.1 u.2.2.1 u.2.2.2.1 u.2.2.2.2.1 u.2.2.2.2.2.1 u.2.2.2.2.2.2.1 v_limbCount v_length v_point v_roundLength v_roundPoint v_written v_bodySize u.2.2.2.2.2.2.2))) A) args s 0 0 A) (F0 m 256 ls []) := by
  intro v_digits v_behind v_power v_powerLess v_less v_plainDigits v_sixteen a_digit y2 H locs ls hP hD hS hl h
  obtain ⟨hx, hb, hr, hml, hown, ht, hlk⟩ := id cx
  refine lv_aload_n hx hb d_M_note_256 rfl (lv_at hl 0 rfl) ?_
  refine lv_aload_n hx hb d_M_note_257 rfl (lv_at hl 0 rfl) ?_
  refine va_get (D := (dC, dI)) (ci := 7) (v := .int v_power) (C := R_M) (T := F_M) (N := 30) hx hb ht i_M hown hK hP 0 rfl rfl 13 (by decide) (ht _ q_522) (fun _ h9 => h9) rfl d_M_note_258 ?_
  refine lv_ldc (v := 99999) hx hb hown (ht _ q_523) d_M_note_261 ?_
  refine lv_icmp_le (tgt := 273) hx hb d_M_note_263 (by decide) (fun c1 => ?_) (fun c1 => ?_)
  · have h := if_t c1 h
    refine lv_bipush (v := 10) hx hb d_M_note_273 (by decide) ?_
    refine lv_aload_n hx hb d_M_note_275 rfl (lv_at hl 0 rfl) ?_
    refine va_get (D := (dC, dI)) (ci := 7) (v := .int v_power) (C := R_M) (T := F_M) (N := 30) hx hb ht i_M hown hK hP 0 rfl rfl 13 (by decide) (ht _ q_522) (fun _ h9 => h9) rfl d_M_note_276 ?_
    refine lv_imul hx hb d_M_note_279 ?_
    refine lv_iload_n hx hb d_M_note_280 rfl (lv_at hl 1 rfl) ?_
    refine lv_iadd hx hb d_M_note_281 ?_
    refine lv_bipush (v := 48) hx hb d_M_note_282 (by decide) ?_
    refine lv_isub hx hb d_M_note_284 ?_
    exact s_M_note_285 cx hK hA hX v_digits v_behind v_power v_powerLess v_less v_plainDigits v_sixteen a_digit ((((10 : Int32) * v_power) + y2) - (48 : Int32)) H locs ls hP hD hS (lv_sub hl [0] rfl) h
  · have h := if_f c1 h
    refine lv_aload_n hx hb d_M_note_266 rfl (lv_at hl 0 rfl) ?_
    refine va_get (D := (dC, dI)) (ci := 7) (v := .int v_power) (C := R_M) (T := F_M) (N := 30) hx hb ht i_M hown hK hP 0 rfl rfl 13 (by decide) (ht _ q_522) (fun _ h9 => h9) rfl d_M_note_267 ?_
    refine lv_goto (tgt := 285) hx hb d_M_note_270 (by decide) ?_
    exact s_M_note_285 cx hK hA hX v_digits v_behind v_power v_powerLess v_less v_plainDigits v_sixteen a_digit v_power H locs ls hP hD hS (lv_sub hl [0] rfl) h
set_option maxHeartbeats 4000000 in
set_option maxRecDepth 100000 in
theorem s_M_note_244 {p : Program} {l : Launch} {e : Env} {s : State} {m : MethodId} {args : Array Value} {below : List Frame} {meth : Method} {c : Code} {dC : Nat → ClassId} {dI : Nat → Nat → Nat} {A : Nat → Prop} {X : SXT} {g_this_tape : Nat} {g_this_above : Nat} {g_this_below : Nat} {g_this_limbs : Nat} {g_this_exact : Nat} {g_this_round : Nat} {g_this_out : Nat} {g_this_body : Nat} {h_this : Nat} {h_this_digit : Nat} {c_this_digit : ClassId} {v_size : Int32} {v_kind : Int32} {v_number : Int64} {v_exponent : Int32} {v_aboveSize : Int32} {v_belowSize : Int32} {v_state : Int32} {v_limbCount : Int32} {v_length : Int32} {v_point : Int32} {v_roundLength : Int32} {v_roundPoint : Int32} {v_written : Int32} {v_bodySize : Int32} {res : Int32 × Int32 × Int32 × Int32 × Int32 × Int32 × Int32 × (Nat → Int32)}  (cx : cxx p s m args meth c b_M_note 4 none R_M) (hK : va_K (dC, dI) classes [(c_this_digit, .byte)] s) (hA : ∀ q, s.heap.size ≤ q → A q) (hX : SX X A s s.heap)  : ∀ (v_digits : Int32) (v_behind : Int32) (v_power : Int32) (v_powerLess : Int32) (v_less : Int32) (v_plainDigits : Int32) (v_sixteen : Int32) (a_digit : (Nat → Int32)) (y1 : Int32) (y2 : Int32) (H : Heap) (locs : List Loc) (ls : Array Slot), va_P (dC, dI) classes (WS_M_note g_this_tape g_this_above g_this_below g_this_limbs g_this_exact g_this_round g_this_out g_this_body h_this h_this_digit c_this_digit v_size v_kind v_number v_exponent v_aboveSize v_belowSize v_state v_digits v_behind v_power v_powerLess v_less v_plainDigits v_sixteen v_limbCount v_length v_point v_roundLength v_roundPoint v_written v_bodySize a_digit) H → va_D A (WS_M_note g_this_tape g_this_above g_this_below g_this_limbs g_this_exact g_this_round g_this_out g_this_body h_this h_this_digit c_this_digit v_size v_kind v_number v_exponent v_aboveSize v_belowSize v_state v_digits v_behind v_power v_powerLess v_less v_plainDigits v_sixteen v_limbCount v_length v_point v_roundLength v_roundPoint v_written v_bodySize a_digit) → va_S A s.heap H locs → lv_has ls 4 [(0, .ref h_this), (1, .int y1), (2, .int y2)] → f_M_note_244 v_digits v_behind v_power v_powerLess v_less v_plainDigits v_sixteen a_digit y1 y2 = some res → W p l e ({ frames := 1, cells := 0, slots := 0, locals := 20 }) s m args below meth c H locs 0 0 (MQ below (va_Qv (fun (u : Int32 × Int32 × Int32 × Int32 × Int32 × Int32 × Int32 × (Nat → Int32)) => some u = some res) (gB (dC, dI) [(c_this_digit, .byte)] A (fun (u : Int32 × Int32 × Int32 × Int32 × Int32 × Int32 × Int32 × (Nat → Int32)) => (WS_M_note g_this_tape g_this_above g_this_below g_this_limbs g_this_exact g_this_round g_this_out g_this_body h_this h_this_digit c_this_digit v_size v_kind v_number v_exponent v_aboveSize v_belowSize v_state u.1 u.2.1 u.2.2.1 u.2.2.2.1 u.2.2.2.2.1 u.2.2.2.2.2.1 u.2.2.2.2.2.2.1 v_limbCount v_length v_point v_roundLength v_roundPoint v_written v_bodySize u.2.2.2.2.2.2.2))) A) args s 0 0 A) (F0 m 244 ls []) := by
  intro v_digits v_behind v_power v_powerLess v_less v_plainDigits v_sixteen a_digit y1 y2 H locs ls hP hD hS hl h
  obtain ⟨hx, hb, hr, hml, hown, ht, hlk⟩ := id cx
  refine lv_iload_n hx hb d_M_note_244 rfl (lv_at hl 1 rfl) ?_
  refine lv_bipush (v := 8) hx hb d_M_note_245 (by decide) ?_
  refine lv_icmp_eq (tgt := 256) hx hb d_M_note_247 (by decide) (fun c2 => ?_) (fun c2 => ?_)
  · have h := if_t c2 h
    exact s_M_note_256 cx hK hA hX v_digits v_behind v_power v_powerLess v_less v_plainDigits v_sixteen a_digit y2 H locs ls hP hD hS (lv_sub hl [0, 2] rfl) h
  · have h := if_f c2 h
    refine lv_iload_n hx hb d_M_note_250 rfl (lv_at hl 1 rfl) ?_
    refine lv_bipush (v := 18) hx hb d_M_note_251 (by decide) ?_
    refine lv_icmp_ne (tgt := 288) hx hb d_M_note_253 (by decide) (fun c3 => ?_) (fun c3 => ?_)
    · have h := if_f c3 h
      exact W.vret hx hb hr (fun t ht9 hW => ⟨⟨(v_digits, v_behind, v_power, v_powerLess, v_less, v_plainDigits, v_sixteen, a_digit), rfl, h, by rw [ht9]; exact hP, va_K.moved hW.alike hK, hD⟩, hS.F ht9⟩) hS.2.2 d_M_note_288 hlk
    · have h := if_t c3 h
      exact s_M_note_256 cx hK hA hX v_digits v_behind v_power v_powerLess v_less v_plainDigits v_sixteen a_digit y2 H locs ls hP hD hS (lv_sub hl [0, 2] rfl) h
set_option maxHeartbeats 4000000 in
set_option maxRecDepth 100000 in
theorem s_M_note_240 {p : Program} {l : Launch} {e : Env} {s : State} {m : MethodId} {args : Array Value} {below : List Frame} {meth : Method} {c : Code} {dC : Nat → ClassId} {dI : Nat → Nat → Nat} {A : Nat → Prop} {X : SXT} {g_this_tape : Nat} {g_this_above : Nat} {g_this_below : Nat} {g_this_limbs : Nat} {g_this_exact : Nat} {g_this_round : Nat} {g_this_out : Nat} {g_this_body : Nat} {h_this : Nat} {h_this_digit : Nat} {c_this_digit : ClassId} {v_size : Int32} {v_kind : Int32} {v_number : Int64} {v_exponent : Int32} {v_aboveSize : Int32} {v_belowSize : Int32} {v_state : Int32} {v_limbCount : Int32} {v_length : Int32} {v_point : Int32} {v_roundLength : Int32} {v_roundPoint : Int32} {v_written : Int32} {v_bodySize : Int32} {res : Int32 × Int32 × Int32 × Int32 × Int32 × Int32 × Int32 × (Nat → Int32)}  (cx : cxx p s m args meth c b_M_note 4 none R_M) (hK : va_K (dC, dI) classes [(c_this_digit, .byte)] s) (hA : ∀ q, s.heap.size ≤ q → A q) (hX : SX X A s s.heap)  : ∀ (v_digits : Int32) (v_behind : Int32) (v_power : Int32) (v_powerLess : Int32) (v_less : Int32) (v_plainDigits : Int32) (v_sixteen : Int32) (a_digit : (Nat → Int32)) (y1 : Int32) (y2 : Int32) (z1 : Int32) (z2 : Int32) (H : Heap) (locs : List Loc) (ls : Array Slot), va_P (dC, dI) classes (WS_M_note g_this_tape g_this_above g_this_below g_this_limbs g_this_exact g_this_round g_this_out g_this_body h_this h_this_digit c_this_digit v_size v_kind v_number v_exponent v_aboveSize v_belowSize v_state v_digits v_behind v_power v_powerLess v_less v_plainDigits v_sixteen v_limbCount v_length v_point v_roundLength v_roundPoint v_written v_bodySize a_digit) H → va_D A (WS_M_note g_this_tape g_this_above g_this_below g_this_limbs g_this_exact g_this_round g_this_out g_this_body h_this h_this_digit c_this_digit v_size v_kind v_number v_exponent v_aboveSize v_belowSize v_state v_digits v_behind v_power v_powerLess v_less v_plainDigits v_sixteen v_limbCount v_length v_point v_roundLength v_roundPoint v_written v_bodySize a_digit) → va_S A s.heap H locs → lv_has ls 4 [(0, .ref h_this), (1, .int y1), (2, .int y2)] → f_M_note_240 v_digits v_behind v_power v_powerLess v_less v_plainDigits v_sixteen a_digit y1 y2 z1 z2 = some res → W p l e ({ frames := 1, cells := 0, slots := 0, locals := 20 }) s m args below meth c H locs 0 0 (MQ below (va_Qv (fun (u : Int32 × Int32 × Int32 × Int32 × Int32 × Int32 × Int32 × (Nat → Int32)) => some u = some res) (gB (dC, dI) [(c_this_digit, .byte)] A (fun (u : Int32 × Int32 × Int32 × Int32 × Int32 × Int32 × Int32 × (Nat → Int32)) => (WS_M_note g_this_tape g_this_above g_this_below g_this_limbs g_this_exact g_this_round g_this_out g_this_body h_this h_this_digit c_this_digit v_size v_kind v_number v_exponent v_aboveSize v_belowSize v_state u.1 u.2.1 u.2.2.1 u.2.2.2.1 u.2.2.2.2.1 u.2.2.2.2.2.1 u.2.2.2.2.2.2.1 v_limbCount v_length v_point v_roundLength v_roundPoint v_written v_bodySize u.2.2.2.2.2.2.2))) A) args s 0 0 A) (F0 m 240 ls [.int z2, .int z1, .ref h_this]) := by
  intro v_digits v_behind v_power v_powerLess v_less v_plainDigits v_sixteen a_digit y1 y2 z1 z2 H locs ls hP hD hS hl h
  obtain ⟨hx, hb, hr, hml, hown, ht, hlk⟩ := id cx
  refine lv_iadd hx hb d_M_note_240 ?_
  refine lv_topi (fun x4 e_x4 => ?_)
  have h := bd_g e_x4 h
  refine va_put (D := (dC, dI)) (ci := 7) (v := .int x4) (ty := .int) (C := R_M) (T := F_M) (N := 30) hx hb ht i_M t_M t_M_ok n_M hown hK hP hD hS 0 rfl rfl 12 (by decide) (ht _ q_524) (fun _ h9 => h9) rfl (t_M_ok 12 (by decide)) rfl rfl (Nat.le_of_ble_eq_true rfl) d_M_note_241 (fun H locs hP hD hS => ?_)
  have hP : va_P (dC, dI) classes (WS_M_note g_this_tape g_this_above g_this_below g_this_limbs g_this_exact g_this_round g_this_out g_this_body h_this h_this_digit c_this_digit v_size v_kind v_number v_exponent v_aboveSize v_belowSize v_state v_digits x4 v_power v_powerLess v_less v_plainDigits v_sixteen v_limbCount v_length v_point v_roundLength v_roundPoint v_written v_bodySize a_digit) H := hP
  have hD : va_D A (WS_M_note g_this_tape g_this_above g_this_below g_this_limbs g_this_exact g_this_round g_this_out g_this_body h_this h_this_digit c_this_digit v_size v_kind v_number v_exponent v_aboveSize v_belowSize v_state v_digits x4 v_power v_powerLess v_less v_plainDigits v_sixteen v_limbCount v_length v_point v_roundLength v_roundPoint v_written v_bodySize a_digit) := hD
  exact s_M_note_244 cx hK hA hX v_digits x4 v_power v_powerLess v_less v_plainDigits v_sixteen a_digit y1 y2 H locs ls hP hD hS (lv_sub hl [0, 1, 2] rfl) h
set_option maxHeartbeats 4000000 in
set_option maxRecDepth 100000 in
theorem s_M_note_235 {p : Program} {l : Launch} {e : Env} {s : State} {m : MethodId} {args : Array Value} {below : List Frame} {meth : Method} {c : Code} {dC : Nat → ClassId} {dI : Nat → Nat → Nat} {A : Nat → Prop} {X : SXT} {g_this_tape : Nat} {g_this_above : Nat} {g_this_below : Nat} {g_this_limbs : Nat} {g_this_exact : Nat} {g_this_round : Nat} {g_this_out : Nat} {g_this_body : Nat} {h_this : Nat} {h_this_digit : Nat} {c_this_digit : ClassId} {v_size : Int32} {v_kind : Int32} {v_number : Int64} {v_exponent : Int32} {v_aboveSize : Int32} {v_belowSize : Int32} {v_state : Int32} {v_limbCount : Int32} {v_length : Int32} {v_point : Int32} {v_roundLength : Int32} {v_roundPoint : Int32} {v_written : Int32} {v_bodySize : Int32} {res : Int32 × Int32 × Int32 × Int32 × Int32 × Int32 × Int32 × (Nat → Int32)}  (cx : cxx p s m args meth c b_M_note 4 none R_M) (hK : va_K (dC, dI) classes [(c_this_digit, .byte)] s) (hA : ∀ q, s.heap.size ≤ q → A q) (hX : SX X A s s.heap)  : ∀ (v_digits : Int32) (v_behind : Int32) (v_power : Int32) (v_powerLess : Int32) (v_less : Int32) (v_plainDigits : Int32) (v_sixteen : Int32) (a_digit : (Nat → Int32)) (y1 : Int32) (y2 : Int32) (z1 : Int32) (H : Heap) (locs : List Loc) (ls : Array Slot), va_P (dC, dI) classes (WS_M_note g_this_tape g_this_above g_this_below g_this_limbs g_this_exact g_this_round g_this_out g_this_body h_this h_this_digit c_this_digit v_size v_kind v_number v_exponent v_aboveSize v_belowSize v_state v_digits v_behind v_power v_powerLess v_less v_plainDigits v_sixteen v_limbCount v_length v_point v_roundLength v_roundPoint v_written v_bodySize a_digit) H → va_D A (WS_M_note g_this_tape g_this_above g_this_below g_this_limbs g_this_exact g_this_round g_this_out g_this_body h_this h_this_digit c_this_digit v_size v_kind v_number v_exponent v_aboveSize v_belowSize v_state v_digits v_behind v_power v_powerLess v_less v_plainDigits v_sixteen v_limbCount v_length v_point v_roundLength v_roundPoint v_written v_bodySize a_digit) → va_S A s.heap H locs → lv_has ls 4 [(0, .ref h_this), (1, .int y1), (2, .int y2)] → f_M_note_235 v_digits v_behind v_power v_powerLess v_less v_plainDigits v_sixteen a_digit y1 y2 z1 = some res → W p l e ({ frames := 1, cells := 0, slots := 0, locals := 20 }) s m args below meth c H locs 0 0 (MQ below (va_Qv (fun (u : Int32 × Int32 × Int32 × Int32 × Int32 × Int32 × Int32 × (Nat → Int32)) => some u = some res) (gB (dC, dI) [(c_this_digit, .byte)] A (fun (u : Int32 × Int32 × Int32 × Int32 × Int32 × Int32 × Int32 × (Nat → Int32)) => (WS_M_note g_this_tape g_this_above g_this_below g_this_limbs g_this_exact g_this_round g_this_out g_this_body h_this h_this_digit c_this_digit v_size v_kind v_number v_exponent v_aboveSize v_belowSize v_state u.1 u.2.1 u.2.2.1 u.2.2.2.1 u.2.2.2.2.1 u.2.2.2.2.2.1 u.2.2.2.2.2.2.1 v_limbCount v_length v_point v_roundLength v_roundPoint v_written v_bodySize u.2.2.2.2.2.2.2))) A) args s 0 0 A) (F0 m 235 ls [.int z1, .ref h_this]) := by
  intro v_digits v_behind v_power v_powerLess v_less v_plainDigits v_sixteen a_digit y1 y2 z1 H locs ls hP hD hS hl h
  obtain ⟨hx, hb, hr, hml, hown, ht, hlk⟩ := id cx
  refine lv_iconst (v := 1) hx hb d_M_note_235 (by decide) ?_
  refine lv_goto (tgt := 240) hx hb d_M_note_236 (by decide) ?_
  exact s_M_note_240 cx hK hA hX v_digits v_behind v_power v_powerLess v_less v_plainDigits v_sixteen a_digit y1 y2 z1 (1 : Int32) H locs ls hP hD hS (lv_sub hl [0, 1, 2] rfl) h
set_option maxHeartbeats 4000000 in
set_option maxRecDepth 100000 in
theorem s_M_note_191 {p : Program} {l : Launch} {e : Env} {s : State} {m : MethodId} {args : Array Value} {below : List Frame} {meth : Method} {c : Code} {dC : Nat → ClassId} {dI : Nat → Nat → Nat} {A : Nat → Prop} {X : SXT} {g_this_tape : Nat} {g_this_above : Nat} {g_this_below : Nat} {g_this_limbs : Nat} {g_this_exact : Nat} {g_this_round : Nat} {g_this_out : Nat} {g_this_body : Nat} {h_this : Nat} {h_this_digit : Nat} {c_this_digit : ClassId} {v_size : Int32} {v_kind : Int32} {v_number : Int64} {v_exponent : Int32} {v_aboveSize : Int32} {v_belowSize : Int32} {v_state : Int32} {v_limbCount : Int32} {v_length : Int32} {v_point : Int32} {v_roundLength : Int32} {v_roundPoint : Int32} {v_written : Int32} {v_bodySize : Int32} {res : Int32 × Int32 × Int32 × Int32 × Int32 × Int32 × Int32 × (Nat → Int32)}  (cx : cxx p s m args meth c b_M_note 4 none R_M) (hK : va_K (dC, dI) classes [(c_this_digit, .byte)] s) (hA : ∀ q, s.heap.size ≤ q → A q) (hX : SX X A s s.heap)  : ∀ (v_digits : Int32) (v_behind : Int32) (v_power : Int32) (v_powerLess : Int32) (v_less : Int32) (v_plainDigits : Int32) (v_sixteen : Int32) (a_digit : (Nat → Int32)) (y1 : Int32) (y2 : Int32) (y3 : Int32) (H : Heap) (locs : List Loc) (ls : Array Slot), va_P (dC, dI) classes (WS_M_note g_this_tape g_this_above g_this_below g_this_limbs g_this_exact g_this_round g_this_out g_this_body h_this h_this_digit c_this_digit v_size v_kind v_number v_exponent v_aboveSize v_belowSize v_state v_digits v_behind v_power v_powerLess v_less v_plainDigits v_sixteen v_limbCount v_length v_point v_roundLength v_roundPoint v_written v_bodySize a_digit) H → va_D A (WS_M_note g_this_tape g_this_above g_this_below g_this_limbs g_this_exact g_this_round g_this_out g_this_body h_this h_this_digit c_this_digit v_size v_kind v_number v_exponent v_aboveSize v_belowSize v_state v_digits v_behind v_power v_powerLess v_less v_plainDigits v_sixteen v_limbCount v_length v_point v_roundLength v_roundPoint v_written v_bodySize a_digit) → va_S A s.heap H locs → lv_has ls 4 [(0, .ref h_this), (1, .int y1), (2, .int y2), (3, .int y3)] → f_M_note_191 v_digits v_behind v_power v_powerLess v_less v_plainDigits v_sixteen a_digit y1 y2 y3 = some res → W p l e ({ frames := 1, cells := 0, slots := 0, locals := 20 }) s m args below meth c H locs 0 0 (MQ below (va_Qv (fun (u : Int32 × Int32 × Int32 × Int32 × Int32 × Int32 × Int32 × (Nat → Int32)) => some u = some res) (gB (dC, dI) [(c_this_digit, .byte)] A (fun (u : Int32 × Int32 × Int32 × Int32 × Int32 × Int32 × Int32 × (Nat → Int32)) => (WS_M_note g_this_tape g_this_above g_this_below g_this_limbs g_this_exact g_this_round g_this_out g_this_body h_this h_this_digit c_this_digit v_size v_kind v_number v_exponent v_aboveSize v_belowSize v_state u.1 u.2.1 u.2.2.1 u.2.2.2.1 u.2.2.2.2.1 u.2.2.2.2.2.1 u.2.2.2.2.2.2.1 v_limbCount v_length v_point v_roundLength v_roundPoint v_written v_bodySize u.2.2.2.2.2.2.2))) A) args s 0 0 A) (F0 m 191 ls []) := by
  intro v_digits v_behind v_power v_powerLess v_less v_plainDigits v_sixteen a_digit y1 y2 y3 H locs ls hP hD hS hl h
  obtain ⟨hx, hb, hr, hml, hown, ht, hlk⟩ := id cx
  refine lv_iload_n hx hb d_M_note_191 rfl (lv_at hl 3 rfl) ?_
  refine lv_if_eq (tgt := 244) hx hb d_M_note_192 (by decide) (fun c5 => ?_) (fun c5 => ?_)
  · have h := if_t c5 h
    exact s_M_note_244 cx hK hA hX v_digits v_behind v_power v_powerLess v_less v_plainDigits v_sixteen a_digit y1 y2 H locs ls hP hD hS (lv_sub hl [0, 1, 2] rfl) h
  · have h := if_f c5 h
    refine lv_aload_n hx hb d_M_note_195 rfl (lv_at hl 0 rfl) ?_
    refine va_get (D := (dC, dI)) (ci := 7) (v := .ref h_this_digit) (C := R_M) (T := F_M) (N := 30) hx hb ht i_M hown hK hP 0 rfl rfl 11 (by decide) (ht _ q_525) (fun _ h9 => h9) rfl d_M_note_196 ?_
    refine lv_aload_n hx hb d_M_note_199 rfl (lv_at hl 0 rfl) ?_
    refine va_get (D := (dC, dI)) (ci := 7) (v := .int v_digits) (C := R_M) (T := F_M) (N := 30) hx hb ht i_M hown hK hP 0 rfl rfl 10 (by decide) (ht _ q_526) (fun _ h9 => h9) rfl d_M_note_200 ?_
    refine lv_iload_n hx hb d_M_note_203 rfl (lv_at hl 2 rfl) ?_
    obtain ⟨r6, hf, h⟩ := bi1_x h
    refine clSi (D := (dC, dI)) (n := 1) (As := [.int y2]) ⟨hx, hb, hml, hown, ht⟩ (c_M_hex l dC dI X  H.size y2 r6 hf) (gS q_519 q_520 q_490 q_521) (by decide +kernel) ⟨rfl, rfl, Nat.le_of_ble_eq_true rfl, Nat.le_of_ble_eq_true rfl⟩ hK hP hD hS hA hX [] [0, 1] [] rfl (wr := [(h_this, .inr (7, [.ref g_this_tape, .int v_size, .int v_kind, .long v_number, .int v_exponent, .ref g_this_above, .int v_aboveSize, .ref g_this_below, .int v_belowSize, .int v_state, .int v_digits, .ref h_this_digit, .int v_behind, .int v_power, .int v_powerLess, .int v_less, .int v_plainDigits, .int v_sixteen, .ref g_this_limbs, .int v_limbCount, .ref g_this_exact, .int v_length, .int v_point, .ref g_this_round, .int v_roundLength, .int v_roundPoint, .ref g_this_out, .int v_written, .ref g_this_body, .int v_bodySize])), (h_this_digit, .inl (c_this_digit, 1200, .inl a_digit))]) rfl (by decide) (by decide) (by decide) rfl rfl hl.1 rfl (lv_room (Nat.le_of_ble_eq_true rfl)) d_M_note_204 ⟨Nat.zero_le _, Nat.zero_le _⟩ (fun r9 u9 H locs h9 hP hD hS => ?_)
    cases h9
    have hP : va_P (dC, dI) classes (WS_M_note g_this_tape g_this_above g_this_below g_this_limbs g_this_exact g_this_round g_this_out g_this_body h_this h_this_digit c_this_digit v_size v_kind v_number v_exponent v_aboveSize v_belowSize v_state v_digits v_behind v_power v_powerLess v_less v_plainDigits v_sixteen v_limbCount v_length v_point v_roundLength v_roundPoint v_written v_bodySize a_digit) H := hP.sub [0, 1] rfl
    have hD : va_D A (WS_M_note g_this_tape g_this_above g_this_below g_this_limbs g_this_exact g_this_round g_this_out g_this_body h_this h_this_digit c_this_digit v_size v_kind v_number v_exponent v_aboveSize v_belowSize v_state v_digits v_behind v_power v_powerLess v_less v_plainDigits v_sixteen v_limbCount v_length v_point v_roundLength v_roundPoint v_written v_bodySize a_digit) := hD.sub [0, 1] (by decide) rfl
    refine lv_i2b (v := r6.toInt8.toInt32) hx hb d_M_note_207 rfl ?_
    obtain ⟨c7, h⟩ := ck_x h
    refine va_bast (D := (dC, dI)) hx hb hK hP hD hS 1 0 rfl rfl c7 d_M_note_208 (fun H locs hP hD hS => ?_)
    obtain ⟨a8, e_a8⟩ : ∃ y, y = upd a_digit v_digits.toNatClampNeg ((r6.toInt8.toInt32).toInt8.toInt32) := ⟨_, rfl⟩
    have hP : va_P (dC, dI) classes (WS_M_note g_this_tape g_this_above g_this_below g_this_limbs g_this_exact g_this_round g_this_out g_this_body h_this h_this_digit c_this_digit v_size v_kind v_number v_exponent v_aboveSize v_belowSize v_state v_digits v_behind v_power v_powerLess v_less v_plainDigits v_sixteen v_limbCount v_length v_point v_roundLength v_roundPoint v_written v_bodySize a8) H := by rw [e_a8]; exact hP
    have hD : va_D A (WS_M_note g_this_tape g_this_above g_this_below g_this_limbs g_this_exact g_this_round g_this_out g_this_body h_this h_this_digit c_this_digit v_size v_kind v_number v_exponent v_aboveSize v_belowSize v_state v_digits v_behind v_power v_powerLess v_less v_plainDigits v_sixteen v_limbCount v_length v_point v_roundLength v_roundPoint v_written v_bodySize a8) := by rw [e_a8]; exact hD
    have h := bd_g e_a8 h
    refine lv_aload_n hx hb d_M_note_209 rfl (lv_at hl 0 rfl) ?_
    refine lv_dup hx hb d_M_note_210 rfl ?_
    refine va_get (D := (dC, dI)) (ci := 7) (v := .int v_digits) (C := R_M) (T := F_M) (N := 30) hx hb ht i_M hown hK hP 0 rfl rfl 10 (by decide) (ht _ q_526) (fun _ h9 => h9) rfl d_M_note_211 ?_
    refine lv_iconst (v := 1) hx hb d_M_note_214 (by decide) ?_
    refine lv_iadd hx hb d_M_note_215 ?_
    refine lv_topi (fun x9 e_x9 => ?_)
    have h := bd_g e_x9 h
    refine va_put (D := (dC, dI)) (ci := 7) (v := .int x9) (ty := .int) (C := R_M) (T := F_M) (N := 30) hx hb ht i_M t_M t_M_ok n_M hown hK hP hD hS 0 rfl rfl 10 (by decide) (ht _ q_526) (fun _ h9 => h9) rfl (t_M_ok 10 (by decide)) rfl rfl (Nat.le_of_ble_eq_true rfl) d_M_note_216 (fun H locs hP hD hS => ?_)
    have hP : va_P (dC, dI) classes (WS_M_note g_this_tape g_this_above g_this_below g_this_limbs g_this_exact g_this_round g_this_out g_this_body h_this h_this_digit c_this_digit v_size v_kind v_number v_exponent v_aboveSize v_belowSize v_state x9 v_behind v_power v_powerLess v_less v_plainDigits v_sixteen v_limbCount v_length v_point v_roundLength v_roundPoint v_written v_bodySize a8) H := hP
    have hD : va_D A (WS_M_note g_this_tape g_this_above g_this_below g_this_limbs g_this_exact g_this_round g_this_out g_this_body h_this h_this_digit c_this_digit v_size v_kind v_number v_exponent v_aboveSize v_belowSize v_state x9 v_behind v_power v_powerLess v_less v_plainDigits v_sixteen v_limbCount v_length v_point v_roundLength v_roundPoint v_written v_bodySize a8) := hD
    refine lv_aload_n hx hb d_M_note_219 rfl (lv_at hl 0 rfl) ?_
    refine lv_dup hx hb d_M_note_220 rfl ?_
    refine va_get (D := (dC, dI)) (ci := 7) (v := .int v_behind) (C := R_M) (T := F_M) (N := 30) hx hb ht i_M hown hK hP 0 rfl rfl 12 (by decide) (ht _ q_524) (fun _ h9 => h9) rfl d_M_note_221 ?_
    refine lv_iload_n hx hb d_M_note_224 rfl (lv_at hl 1 rfl) ?_
    refine lv_iconst (v := 5) hx hb d_M_note_225 (by decide) ?_
    refine lv_icmp_eq (tgt := 235) hx hb d_M_note_226 (by decide) (fun c10 => ?_) (fun c10 => ?_)
    · have h := if_t c10 h
      exact s_M_note_235 cx hK hA hX x9 v_behind v_power v_powerLess v_less v_plainDigits v_sixteen a8 y1 y2 v_behind H locs ls hP hD hS (lv_sub hl [0, 1, 2] rfl) h
    · have h := if_f c10 h
      refine lv_iload_n hx hb d_M_note_229 rfl (lv_at hl 1 rfl) ?_
      refine lv_bipush (v := 15) hx hb d_M_note_230 (by decide) ?_
      refine lv_icmp_ne (tgt := 239) hx hb d_M_note_232 (by decide) (fun c11 => ?_) (fun c11 => ?_)
      · have h := if_f c11 h
        refine lv_iconst (v := 0) hx hb d_M_note_239 (by decide) ?_
        exact s_M_note_240 cx hK hA hX x9 v_behind v_power v_powerLess v_less v_plainDigits v_sixteen a8 y1 y2 v_behind (0 : Int32) H locs ls hP hD hS (lv_sub hl [0, 1, 2] rfl) h
      · have h := if_t c11 h
        exact s_M_note_235 cx hK hA hX x9 v_behind v_power v_powerLess v_less v_plainDigits v_sixteen a8 y1 y2 v_behind H locs ls hP hD hS (lv_sub hl [0, 1, 2] rfl) h
set_option maxHeartbeats 4000000 in
set_option maxRecDepth 100000 in
theorem s_M_note_179 {p : Program} {l : Launch} {e : Env} {s : State} {m : MethodId} {args : Array Value} {below : List Frame} {meth : Method} {c : Code} {dC : Nat → ClassId} {dI : Nat → Nat → Nat} {A : Nat → Prop} {X : SXT} {g_this_tape : Nat} {g_this_above : Nat} {g_this_below : Nat} {g_this_limbs : Nat} {g_this_exact : Nat} {g_this_round : Nat} {g_this_out : Nat} {g_this_body : Nat} {h_this : Nat} {h_this_digit : Nat} {c_this_digit : ClassId} {v_size : Int32} {v_kind : Int32} {v_number : Int64} {v_exponent : Int32} {v_aboveSize : Int32} {v_belowSize : Int32} {v_state : Int32} {v_limbCount : Int32} {v_length : Int32} {v_point : Int32} {v_roundLength : Int32} {v_roundPoint : Int32} {v_written : Int32} {v_bodySize : Int32} {res : Int32 × Int32 × Int32 × Int32 × Int32 × Int32 × Int32 × (Nat → Int32)}  (cx : cxx p s m args meth c b_M_note 4 none R_M) (hK : va_K (dC, dI) classes [(c_this_digit, .byte)] s) (hA : ∀ q, s.heap.size ≤ q → A q) (hX : SX X A s s.heap)  : ∀ (v_digits : Int32) (v_behind : Int32) (v_power : Int32) (v_powerLess : Int32) (v_less : Int32) (v_plainDigits : Int32) (v_sixteen : Int32) (a_digit : (Nat → Int32)) (y1 : Int32) (y2 : Int32) (z0 : Int32) (H : Heap) (locs : List Loc) (ls : Array Slot), va_P (dC, dI) classes (WS_M_note g_this_tape g_this_above g_this_below g_this_limbs g_this_exact g_this_round g_this_out g_this_body h_this h_this_digit c_this_digit v_size v_kind v_number v_exponent v_aboveSize v_belowSize v_state v_digits v_behind v_power v_powerLess v_less v_plainDigits v_sixteen v_limbCount v_length v_point v_roundLength v_roundPoint v_written v_bodySize a_digit) H → va_D A (WS_M_note g_this_tape g_this_above g_this_below g_this_limbs g_this_exact g_this_round g_this_out g_this_body h_this h_this_digit c_this_digit v_size v_kind v_number v_exponent v_aboveSize v_belowSize v_state v_digits v_behind v_power v_powerLess v_less v_plainDigits v_sixteen v_limbCount v_length v_point v_roundLength v_roundPoint v_written v_bodySize a_digit) → va_S A s.heap H locs → lv_has ls 4 [(0, .ref h_this), (1, .int y1), (2, .int y2)] → f_M_note_179 v_digits v_behind v_power v_powerLess v_less v_plainDigits v_sixteen a_digit y1 y2 z0 = some res → W p l e ({ frames := 1, cells := 0, slots := 0, locals := 20 }) s m args below meth c H locs 0 0 (MQ below (va_Qv (fun (u : Int32 × Int32 × Int32 × Int32 × Int32 × Int32 × Int32 × (Nat → Int32)) => some u = some res) (gB (dC, dI) [(c_this_digit, .byte)] A (fun (u : Int32 × Int32 × Int32 × Int32 × Int32 × Int32 × Int32 × (Nat → Int32)) => (WS_M_note g_this_tape g_this_above g_this_below g_this_limbs g_this_exact g_this_round g_this_out g_this_body h_this h_this_digit c_this_digit v_size v_kind v_number v_exponent v_aboveSize v_belowSize v_state u.1 u.2.1 u.2.2.1 u.2.2.2.1 u.2.2.2.2.1 u.2.2.2.2.2.1 u.2.2.2.2.2.2.1 v_limbCount v_length v_point v_roundLength v_roundPoint v_written v_bodySize u.2.2.2.2.2.2.2))) A) args s 0 0 A) (F0 m 179 ls [.int z0]) := by
  intro v_digits v_behind v_power v_powerLess v_less v_plainDigits v_sixteen a_digit y1 y2 z0 H locs ls hP hD hS hl h
  obtain ⟨hx, hb, hr, hml, hown, ht, hlk⟩ := id cx
  refine lv_istore_n (lv' := [(3, .int z0), (0, .ref h_this), (1, .int y1), (2, .int y2)]) hx hb d_M_note_179 rfl hl (by decide) rfl (fun ls hl => ?_)
  refine lv_iload_n hx hb d_M_note_180 rfl (lv_at hl 2 rfl) ?_
  refine lv_bipush (v := 12) hx hb d_M_note_181 (by decide) ?_
  refine lv_icmp_ne (tgt := 191) hx hb d_M_note_183 (by decide) (fun c12 => ?_) (fun c12 => ?_)
  · have h := if_f c12 h
    exact s_M_note_191 cx hK hA hX v_digits v_behind v_power v_powerLess v_less v_plainDigits v_sixteen a_digit y1 y2 z0 H locs ls hP hD hS (lv_sub hl [1, 2, 3, 0] rfl) h
  · have h := if_t c12 h
    refine lv_aload_n hx hb d_M_note_186 rfl (lv_at hl 1 rfl) ?_
    refine lv_iconst (v := 0) hx hb d_M_note_187 (by decide) ?_
    refine va_put (D := (dC, dI)) (ci := 7) (v := .int (0 : Int32)) (ty := .int) (C := R_M) (T := F_M) (N := 30) hx hb ht i_M t_M t_M_ok n_M hown hK hP hD hS 0 rfl rfl 10 (by decide) (ht _ q_526) (fun _ h9 => h9) rfl (t_M_ok 10 (by decide)) rfl rfl (Nat.le_of_ble_eq_true rfl) d_M_note_188 (fun H locs hP hD hS => ?_)
    have hP : va_P (dC, dI) classes (WS_M_note g_this_tape g_this_above g_this_below g_this_limbs g_this_exact g_this_round g_this_out g_this_body h_this h_this_digit c_this_digit v_size v_kind v_number v_exponent v_aboveSize v_belowSize v_state (0 : Int32) v_behind v_power v_powerLess v_less v_plainDigits v_sixteen v_limbCount v_length v_point v_roundLength v_roundPoint v_written v_bodySize a_digit) H := hP
    have hD : va_D A (WS_M_note g_this_tape g_this_above g_this_below g_this_limbs g_this_exact g_this_round g_this_out g_this_body h_this h_this_digit c_this_digit v_size v_kind v_number v_exponent v_aboveSize v_belowSize v_state (0 : Int32) v_behind v_power v_powerLess v_less v_plainDigits v_sixteen v_limbCount v_length v_point v_roundLength v_roundPoint v_written v_bodySize a_digit) := hD
    exact s_M_note_191 cx hK hA hX (0 : Int32) v_behind v_power v_powerLess v_less v_plainDigits v_sixteen a_digit y1 y2 z0 H locs ls hP hD hS (lv_sub hl [1, 2, 3, 0] rfl) h
set_option maxHeartbeats 4000000 in
set_option maxRecDepth 100000 in
theorem s_M_note_178 {p : Program} {l : Launch} {e : Env} {s : State} {m : MethodId} {args : Array Value} {below : List Frame} {meth : Method} {c : Code} {dC : Nat → ClassId} {dI : Nat → Nat → Nat} {A : Nat → Prop} {X : SXT} {g_this_tape : Nat} {g_this_above : Nat} {g_this_below : Nat} {g_this_limbs : Nat} {g_this_exact : Nat} {g_this_round : Nat} {g_this_out : Nat} {g_this_body : Nat} {h_this : Nat} {h_this_digit : Nat} {c_this_digit : ClassId} {v_size : Int32} {v_kind : Int32} {v_number : Int64} {v_exponent : Int32} {v_aboveSize : Int32} {v_belowSize : Int32} {v_state : Int32} {v_limbCount : Int32} {v_length : Int32} {v_point : Int32} {v_roundLength : Int32} {v_roundPoint : Int32} {v_written : Int32} {v_bodySize : Int32} {res : Int32 × Int32 × Int32 × Int32 × Int32 × Int32 × Int32 × (Nat → Int32)}  (cx : cxx p s m args meth c b_M_note 4 none R_M) (hK : va_K (dC, dI) classes [(c_this_digit, .byte)] s) (hA : ∀ q, s.heap.size ≤ q → A q) (hX : SX X A s s.heap)  : ∀ (v_digits : Int32) (v_behind : Int32) (v_power : Int32) (v_powerLess : Int32) (v_less : Int32) (v_plainDigits : Int32) (v_sixteen : Int32) (a_digit : (Nat → Int32)) (y1 : Int32) (y2 : Int32) (H : Heap) (locs : List Loc) (ls : Array Slot), va_P (dC, dI) classes (WS_M_note g_this_tape g_this_above g_this_below g_this_limbs g_this_exact g_this_round g_this_out g_this_body h_this h_this_digit c_this_digit v_size v_kind v_number v_exponent v_aboveSize v_belowSize v_state v_digits v_behind v_power v_powerLess v_less v_plainDigits v_sixteen v_limbCount v_length v_point v_roundLength v_roundPoint v_written v_bodySize a_digit) H → va_D A (WS_M_note g_this_tape g_this_above g_this_below g_this_limbs g_this_exact g_this_round g_this_out g_this_body h_this h_this_digit c_this_digit v_size v_kind v_number v_exponent v_aboveSize v_belowSize v_state v_digits v_behind v_power v_powerLess v_less v_plainDigits v_sixteen v_limbCount v_length v_point v_roundLength v_roundPoint v_written v_bodySize a_digit) → va_S A s.heap H locs → lv_has ls 4 [(0, .ref h_this), (1, .int y1), (2, .int y2)] → f_M_note_178 v_digits v_behind v_power v_powerLess v_less v_plainDigits v_sixteen a_digit y1 y2 = some res → W p l e ({ frames := 1, cells := 0, slots := 0, locals := 20 }) s m args below meth c H locs 0 0 (MQ below (va_Qv (fun (u : Int32 × Int32 × Int32 × Int32 × Int32 × Int32 × Int32 × (Nat → Int32)) => some u = some res) (gB (dC, dI) [(c_this_digit, .byte)] A (fun (u : Int32 × Int32 × Int32 × Int32 × Int32 × Int32 × Int32 × (Nat → Int32)) => (WS_M_note g_this_tape g_this_above g_this_below g_this_limbs g_this_exact g_this_round g_this_out g_this_body h_this h_this_digit c_this_digit v_size v_kind v_number v_exponent v_aboveSize v_belowSize v_state u.1 u.2.1 u.2.2.1 u.2.2.2.1 u.2.2.2.2.1 u.2.2.2.2.2.1 u.2.2.2.2.2.2.1 v_limbCount v_length v_point v_roundLength v_roundPoint v_written v_bodySize u.2.2.2.2.2.2.2))) A) args s 0 0 A) (F0 m 178 ls []) := by
  intro v_digits v_behind v_power v_powerLess v_less v_plainDigits v_sixteen a_digit y1 y2 H locs ls hP hD hS hl h
  obtain ⟨hx, hb, hr, hml, hown, ht, hlk⟩ := id cx
  refine lv_iconst (v := 0) hx hb d_M_note_178 (by decide) ?_
  exact s_M_note_179 cx hK hA hX v_digits v_behind v_power v_powerLess v_less v_plainDigits v_sixteen a_digit y1 y2 (0 : Int32) H locs ls hP hD hS (lv_sub hl [0, 1, 2] rfl) h
set_option maxHeartbeats 4000000 in
set_option maxRecDepth 100000 in
theorem s_M_note_174 {p : Program} {l : Launch} {e : Env} {s : State} {m : MethodId} {args : Array Value} {below : List Frame} {meth : Method} {c : Code} {dC : Nat → ClassId} {dI : Nat → Nat → Nat} {A : Nat → Prop} {X : SXT} {g_this_tape : Nat} {g_this_above : Nat} {g_this_below : Nat} {g_this_limbs : Nat} {g_this_exact : Nat} {g_this_round : Nat} {g_this_out : Nat} {g_this_body : Nat} {h_this : Nat} {h_this_digit : Nat} {c_this_digit : ClassId} {v_size : Int32} {v_kind : Int32} {v_number : Int64} {v_exponent : Int32} {v_aboveSize : Int32} {v_belowSize : Int32} {v_state : Int32} {v_limbCount : Int32} {v_length : Int32} {v_point : Int32} {v_roundLength : Int32} {v_roundPoint : Int32} {v_written : Int32} {v_bodySize : Int32} {res : Int32 × Int32 × Int32 × Int32 × Int32 × Int32 × Int32 × (Nat → Int32)}  (cx : cxx p s m args meth c b_M_note 4 none R_M) (hK : va_K (dC, dI) classes [(c_this_digit, .byte)] s) (hA : ∀ q, s.heap.size ≤ q → A q) (hX : SX X A s s.heap)  : ∀ (v_digits : Int32) (v_behind : Int32) (v_power : Int32) (v_powerLess : Int32) (v_less : Int32) (v_plainDigits : Int32) (v_sixteen : Int32) (a_digit : (Nat → Int32)) (y1 : Int32) (y2 : Int32) (H : Heap) (locs : List Loc) (ls : Array Slot), va_P (dC, dI) classes (WS_M_note g_this_tape g_this_above g_this_below g_this_limbs g_this_exact g_this_round g_this_out g_this_body h_this h_this_digit c_this_digit v_size v_kind v_number v_exponent v_aboveSize v_belowSize v_state v_digits v_behind v_power v_powerLess v_less v_plainDigits v_sixteen v_limbCount v_length v_point v_roundLength v_roundPoint v_written v_bodySize a_digit) H → va_D A (WS_M_note g_this_tape g_this_above g_this_below g_this_limbs g_this_exact g_this_round g_this_out g_this_body h_this h_this_digit c_this_digit v_size v_kind v_number v_exponent v_aboveSize v_belowSize v_state v_digits v_behind v_power v_powerLess v_less v_plainDigits v_sixteen v_limbCount v_length v_point v_roundLength v_roundPoint v_written v_bodySize a_digit) → va_S A s.heap H locs → lv_has ls 4 [(0, .ref h_this), (1, .int y1), (2, .int y2)] → f_M_note_174 v_digits v_behind v_power v_powerLess v_less v_plainDigits v_sixteen a_digit y1 y2 = some res → W p l e ({ frames := 1, cells := 0, slots := 0, locals := 20 }) s m args below meth c H locs 0 0 (MQ below (va_Qv (fun (u : Int32 × Int32 × Int32 × Int32 × Int32 × Int32 × Int32 × (Nat → Int32)) => some u = some res) (gB (dC, dI) [(c_this_digit, .byte)] A (fun (u : Int32 × Int32 × Int32 × Int32 × Int32 × Int32 × Int32 × (Nat → Int32)) => (WS_M_note g_this_tape g_this_above g_this_below g_this_limbs g_this_exact g_this_round g_this_out g_this_body h_this h_this_digit c_this_digit v_size v_kind v_number v_exponent v_aboveSize v_belowSize v_state u.1 u.2.1 u.2.2.1 u.2.2.2.1 u.2.2.2.2.1 u.2.2.2.2.2.1 u.2.2.2.2.2.2.1 v_limbCount v_length v_point v_roundLength v_roundPoint v_written v_bodySize u.2.2.2.2.2.2.2))) A) args s 0 0 A) (F0 m 174 ls []) := by
  intro v_digits v_behind v_power v_powerLess v_less v_plainDigits v_sixteen a_digit y1 y2 H locs ls hP hD hS hl h
  obtain ⟨hx, hb, hr, hml, hown, ht, hlk⟩ := id cx
  refine lv_iconst (v := 1) hx hb d_M_note_174 (by decide) ?_
  refine lv_goto (tgt := 179) hx hb d_M_note_175 (by decide) ?_
  exact s_M_note_179 cx hK hA hX v_digits v_behind v_power v_powerLess v_less v_plainDigits v_sixteen a_digit y1 y2 (1 : Int32) H locs ls hP hD hS (lv_sub hl [0, 1, 2] rfl) h
set_option maxHeartbeats 4000000 in
set_option maxRecDepth 100000 in
theorem s_M_note_155 {p : Program} {l : Launch} {e : Env} {s : State} {m : MethodId} {args : Array Value} {below : List Frame} {meth : Method} {c : Code} {dC : Nat → ClassId} {dI : Nat → Nat → Nat} {A : Nat → Prop} {X : SXT} {g_this_tape : Nat} {g_this_above : Nat} {g_this_below : Nat} {g_this_limbs : Nat} {g_this_exact : Nat} {g_this_round : Nat} {g_this_out : Nat} {g_this_body : Nat} {h_this : Nat} {h_this_digit : Nat} {c_this_digit : ClassId} {v_size : Int32} {v_kind : Int32} {v_number : Int64} {v_exponent : Int32} {v_aboveSize : Int32} {v_belowSize : Int32} {v_state : Int32} {v_limbCount : Int32} {v_length : Int32} {v_point : Int32} {v_roundLength : Int32} {v_roundPoint : Int32} {v_written : Int32} {v_bodySize : Int32} {res : Int32 × Int32 × Int32 × Int32 × Int32 × Int32 × Int32 × (Nat → Int32)}  (cx : cxx p s m args meth c b_M_note 4 none R_M) (hK : va_K (dC, dI) classes [(c_this_digit, .byte)] s) (hA : ∀ q, s.heap.size ≤ q → A q) (hX : SX X A s s.heap)  : ∀ (v_digits : Int32) (v_behind : Int32) (v_power : Int32) (v_powerLess : Int32) (v_less : Int32) (v_plainDigits : Int32) (v_sixteen : Int32) (a_digit : (Nat → Int32)) (y1 : Int32) (y2 : Int32) (H : Heap) (locs : List Loc) (ls : Array Slot), va_P (dC, dI) classes (WS_M_note g_this_tape g_this_above g_this_below g_this_limbs g_this_exact g_this_round g_this_out g_this_body h_this h_this_digit c_this_digit v_size v_kind v_number v_exponent v_aboveSize v_belowSize v_state v_digits v_behind v_power v_powerLess v_less v_plainDigits v_sixteen v_limbCount v_length v_point v_roundLength v_roundPoint v_written v_bodySize a_digit) H → va_D A (WS_M_note g_this_tape g_this_above g_this_below g_this_limbs g_this_exact g_this_round g_this_out g_this_body h_this h_this_digit c_this_digit v_size v_kind v_number v_exponent v_aboveSize v_belowSize v_state v_digits v_behind v_power v_powerLess v_less v_plainDigits v_sixteen v_limbCount v_length v_point v_roundLength v_roundPoint v_written v_bodySize a_digit) → va_S A s.heap H locs → lv_has ls 4 [(0, .ref h_this), (1, .int y1), (2, .int y2)] → f_M_note_155 v_digits v_behind v_power v_powerLess v_less v_plainDigits v_sixteen a_digit y1 y2 = some res → W p l e ({ frames := 1, cells := 0, slots := 0, locals := 20 }) s m args below meth c H locs 0 0 (MQ below (va_Qv (fun (u : Int32 × Int32 × Int32 × Int32 × Int32 × Int32 × Int32 × (Nat → Int32)) => some u = some res) (gB (dC, dI) [(c_this_digit, .byte)] A (fun (u : Int32 × Int32 × Int32 × Int32 × Int32 × Int32 × Int32 × (Nat → Int32)) => (WS_M_note g_this_tape g_this_above g_this_below g_this_limbs g_this_exact g_this_round g_this_out g_this_body h_this h_this_digit c_this_digit v_size v_kind v_number v_exponent v_aboveSize v_belowSize v_state u.1 u.2.1 u.2.2.1 u.2.2.2.1 u.2.2.2.2.1 u.2.2.2.2.2.1 u.2.2.2.2.2.2.1 v_limbCount v_length v_point v_roundLength v_roundPoint v_written v_bodySize u.2.2.2.2.2.2.2))) A) args s 0 0 A) (F0 m 155 ls []) := by
  intro v_digits v_behind v_power v_powerLess v_less v_plainDigits v_sixteen a_digit y1 y2 H locs ls hP hD hS hl h
  obtain ⟨hx, hb, hr, hml, hown, ht, hlk⟩ := id cx
  refine lv_iload_n hx hb d_M_note_155 rfl (lv_at hl 1 rfl) ?_
  refine lv_bipush (v := 13) hx hb d_M_note_156 (by decide) ?_
  refine lv_icmp_eq (tgt := 174) hx hb d_M_note_158 (by decide) (fun c13 => ?_) (fun c13 => ?_)
  · have h := if_t c13 h
    exact s_M_note_174 cx hK hA hX v_digits v_behind v_power v_powerLess v_less v_plainDigits v_sixteen a_digit y1 y2 H locs ls hP hD hS (lv_sub hl [0, 1, 2] rfl) h
  · have h := if_f c13 h
    refine lv_iload_n hx hb d_M_note_161 rfl (lv_at hl 1 rfl) ?_
    refine lv_bipush (v := 15) hx hb d_M_note_162 (by decide) ?_
    refine lv_icmp_ne (tgt := 178) hx hb d_M_note_164 (by decide) (fun c14 => ?_) (fun c14 => ?_)
    · have h := if_f c14 h
      exact s_M_note_178 cx hK hA hX v_digits v_behind v_power v_powerLess v_less v_plainDigits v_sixteen a_digit y1 y2 H locs ls hP hD hS (lv_sub hl [0, 1, 2] rfl) h
    · have h := if_t c14 h
      refine lv_iload_n hx hb d_M_note_167 rfl (lv_at hl 2 rfl) ?_
      obtain ⟨r15, hf, h⟩ := bi1_x h
      refine clSi (D := (dC, dI)) (n := 1) (As := [.int y2]) ⟨hx, hb, hml, hown, ht⟩ (c_M_hex l dC dI X  H.size y2 r15 hf) (gS q_519 q_520 q_490 q_521) (by decide +kernel) ⟨rfl, rfl, Nat.le_of_ble_eq_true rfl, Nat.le_of_ble_eq_true rfl⟩ hK hP hD hS hA hX [] [0, 1] [] rfl (wr := [(h_this, .inr (7, [.ref g_this_tape, .int v_size, .int v_kind, .long v_number, .int v_exponent, .ref g_this_above, .int v_aboveSize, .ref g_this_below, .int v_belowSize, .int v_state, .int v_digits, .ref h_this_digit, .int v_behind, .int v_power, .int v_powerLess, .int v_less, .int v_plainDigits, .int v_sixteen, .ref g_this_limbs, .int v_limbCount, .ref g_this_exact, .int v_length, .int v_point, .ref g_this_round, .int v_roundLength, .int v_roundPoint, .ref g_this_out, .int v_written, .ref g_this_body, .int v_bodySize])), (h_this_digit, .inl (c_this_digit, 1200, .inl a_digit))]) rfl (by decide) (by decide) (by decide) rfl rfl hl.1 rfl (lv_room (Nat.le_of_ble_eq_true rfl)) d_M_note_168 ⟨Nat.zero_le _, Nat.zero_le _⟩ (fun r9 u9 H locs h9 hP hD hS => ?_)
      cases h9
      have hP : va_P (dC, dI) classes (WS_M_note g_this_tape g_this_above g_this_below g_this_limbs g_this_exact g_this_round g_this_out g_this_body h_this h_this_digit c_this_digit v_size v_kind v_number v_exponent v_aboveSize v_belowSize v_state v_digits v_behind v_power v_powerLess v_less v_plainDigits v_sixteen v_limbCount v_length v_point v_roundLength v_roundPoint v_written v_bodySize a_digit) H := hP.sub [0, 1] rfl
      have hD : va_D A (WS_M_note g_this_tape g_this_above g_this_below g_this_limbs g_this_exact g_this_round g_this_out g_this_body h_this h_this_digit c_this_digit v_size v_kind v_number v_exponent v_aboveSize v_belowSize v_state v_digits v_behind v_power v_powerLess v_less v_plainDigits v_sixteen v_limbCount v_length v_point v_roundLength v_roundPoint v_written v_bodySize a_digit) := hD.sub [0, 1] (by decide) rfl
      refine lv_if_lt (tgt := 178) hx hb d_M_note_171 (by decide) (fun c16 => ?_) (fun c16 => ?_)
      · have h := if_t c16 h
        exact s_M_note_178 cx hK hA hX v_digits v_behind v_power v_powerLess v_less v_plainDigits v_sixteen a_digit y1 y2 H locs ls hP hD hS (lv_sub hl [0, 1, 2] rfl) h
      · have h := if_f c16 h
        exact s_M_note_174 cx hK hA hX v_digits v_behind v_power v_powerLess v_less v_plainDigits v_sixteen a_digit y1 y2 H locs ls hP hD hS (lv_sub hl [0, 1, 2] rfl) h
set_option maxHeartbeats 4000000 in
set_option maxRecDepth 100000 in
theorem s_M_note_130 {p : Program} {l : Launch} {e : Env} {s : State} {m : MethodId} {args : Array Value} {below : List Frame} {meth : Method} {c : Code} {dC : Nat → ClassId} {dI : Nat → Nat → Nat} {A : Nat → Prop} {X : SXT} {g_this_tape : Nat} {g_this_above : Nat} {g_this_below : Nat} {g_this_limbs : Nat} {g_this_exact : Nat} {g_this_round : Nat} {g_this_out : Nat} {g_this_body : Nat} {h_this : Nat} {h_this_digit : Nat} {c_this_digit : ClassId} {v_size : Int32} {v_kind : Int32} {v_number : Int64} {v_exponent : Int32} {v_aboveSize : Int32} {v_belowSize : Int32} {v_state : Int32} {v_limbCount : Int32} {v_length : Int32} {v_point : Int32} {v_roundLength : Int32} {v_roundPoint : Int32} {v_written : Int32} {v_bodySize : Int32} {res : Int32 × Int32 × Int32 × Int32 × Int32 × Int32 × Int32 × (Nat → Int32)}  (cx : cxx p s m args meth c b_M_note 4 none R_M) (hK : va_K (dC, dI) classes [(c_this_digit, .byte)] s) (hA : ∀ q, s.heap.size ≤ q → A q) (hX : SX X A s s.heap)  : ∀ (v_digits : Int32) (v_behind : Int32) (v_power : Int32) (v_powerLess : Int32) (v_less : Int32) (v_plainDigits : Int32) (v_sixteen : Int32) (a_digit : (Nat → Int32)) (y1 : Int32) (y2 : Int32) (z1 : Int32) (H : Heap) (locs : List Loc) (ls : Array Slot), va_P (dC, dI) classes (WS_M_note g_this_tape g_this_above g_this_below g_this_limbs g_this_exact g_this_round g_this_out g_this_body h_this h_this_digit c_this_digit v_size v_kind v_number v_exponent v_aboveSize v_belowSize v_state v_digits v_behind v_power v_powerLess v_less v_plainDigits v_sixteen v_limbCount v_length v_point v_roundLength v_roundPoint v_written v_bodySize a_digit) H → va_D A (WS_M_note g_this_tape g_this_above g_this_below g_this_limbs g_this_exact g_this_round g_this_out g_this_body h_this h_this_digit c_this_digit v_size v_kind v_number v_exponent v_aboveSize v_belowSize v_state v_digits v_behind v_power v_powerLess v_less v_plainDigits v_sixteen v_limbCount v_length v_point v_roundLength v_roundPoint v_written v_bodySize a_digit) → va_S A s.heap H locs → lv_has ls 4 [(0, .ref h_this), (1, .int y1), (2, .int y2)] → f_M_note_130 v_digits v_behind v_power v_powerLess v_less v_plainDigits v_sixteen a_digit y1 y2 z1 = some res → W p l e ({ frames := 1, cells := 0, slots := 0, locals := 20 }) s m args below meth c H locs 0 0 (MQ below (va_Qv (fun (u : Int32 × Int32 × Int32 × Int32 × Int32 × Int32 × Int32 × (Nat → Int32)) => some u = some res) (gB (dC, dI) [(c_this_digit, .byte)] A (fun (u : Int32 × Int32 × Int32 × Int32 × Int32 × Int32 × Int32 × (Nat → Int32)) => (WS_M_note g_this_tape g_this_above g_this_below g_this_limbs g_this_exact g_this_round g_this_out g_this_body h_this h_this_digit c_this_digit v_size v_kind v_number v_exponent v_aboveSize v_belowSize v_state u.1 u.2.1 u.2.2.1 u.2.2.2.1 u.2.2.2.2.1 u.2.2.2.2.2.1 u.2.2.2.2.2.2.1 v_limbCount v_length v_point v_roundLength v_roundPoint v_written v_bodySize u.2.2.2.2.2.2.2))) A) args s 0 0 A) (F0 m 130 ls [.int z1, .ref h_this]) := by
  intro v_digits v_behind v_power v_powerLess v_less v_plainDigits v_sixteen a_digit y1 y2 z1 H locs ls hP hD hS hl h
  obtain ⟨hx, hb, hr, hml, hown, ht, hlk⟩ := id cx
  obtain ⟨c17, h⟩ := ck_x h
  refine va_put (D := (dC, dI)) (ci := 7) (v := .int z1) (ty := .boolean) (C := R_M) (T := F_M) (N := 30) hx hb ht i_M t_M t_M_ok n_M hown hK hP hD hS 0 rfl rfl 14 (by decide) (ht _ q_527) (fun _ h9 => h9) rfl (t_M_ok 14 (by decide)) (ckZ_n c17) (ckZ_f c17) (Nat.le_of_ble_eq_true rfl) d_M_note_130 (fun H locs hP hD hS => ?_)
  have hP : va_P (dC, dI) classes (WS_M_note g_this_tape g_this_above g_this_below g_this_limbs g_this_exact g_this_round g_this_out g_this_body h_this h_this_digit c_this_digit v_size v_kind v_number v_exponent v_aboveSize v_belowSize v_state v_digits v_behind v_power z1 v_less v_plainDigits v_sixteen v_limbCount v_length v_point v_roundLength v_roundPoint v_written v_bodySize a_digit) H := hP
  have hD : va_D A (WS_M_note g_this_tape g_this_above g_this_below g_this_limbs g_this_exact g_this_round g_this_out g_this_body h_this h_this_digit c_this_digit v_size v_kind v_number v_exponent v_aboveSize v_belowSize v_state v_digits v_behind v_power z1 v_less v_plainDigits v_sixteen v_limbCount v_length v_point v_roundLength v_roundPoint v_written v_bodySize a_digit) := hD
  refine lv_iload_n hx hb d_M_note_133 rfl (lv_at hl 1 rfl) ?_
  refine lv_iconst (v := 2) hx hb d_M_note_134 (by decide) ?_
  refine lv_icmp_eq (tgt := 174) hx hb d_M_note_135 (by decide) (fun c18 => ?_) (fun c18 => ?_)
  · have h := if_t c18 h
    exact s_M_note_174 cx hK hA hX v_digits v_behind v_power z1 v_less v_plainDigits v_sixteen a_digit y1 y2 H locs ls hP hD hS (lv_sub hl [0, 1, 2] rfl) h
  · have h := if_f c18 h
    refine lv_iload_n hx hb d_M_note_138 rfl (lv_at hl 1 rfl) ?_
    refine lv_iconst (v := 3) hx hb d_M_note_139 (by decide) ?_
    refine lv_icmp_eq (tgt := 174) hx hb d_M_note_140 (by decide) (fun c19 => ?_) (fun c19 => ?_)
    · have h := if_t c19 h
      exact s_M_note_174 cx hK hA hX v_digits v_behind v_power z1 v_less v_plainDigits v_sixteen a_digit y1 y2 H locs ls hP hD hS (lv_sub hl [0, 1, 2] rfl) h
    · have h := if_f c19 h
      refine lv_iload_n hx hb d_M_note_143 rfl (lv_at hl 1 rfl) ?_
      refine lv_iconst (v := 5) hx hb d_M_note_144 (by decide) ?_
      refine lv_icmp_ne (tgt := 155) hx hb d_M_note_145 (by decide) (fun c20 => ?_) (fun c20 => ?_)
      · have h := if_f c20 h
        exact s_M_note_155 cx hK hA hX v_digits v_behind v_power z1 v_less v_plainDigits v_sixteen a_digit y1 y2 H locs ls hP hD hS (lv_sub hl [0, 1, 2] rfl) h
      · have h := if_t c20 h
        refine lv_iload_n hx hb d_M_note_148 rfl (lv_at hl 2 rfl) ?_
        obtain ⟨r21, hf, h⟩ := bi1_x h
        refine clSi (D := (dC, dI)) (n := 1) (As := [.int y2]) ⟨hx, hb, hml, hown, ht⟩ (c_M_isDigit l dC dI X  H.size y2 r21 hf) (gS q_507 q_508 q_490 q_509) (by decide +kernel) ⟨rfl, rfl, Nat.le_of_ble_eq_true rfl, Nat.le_of_ble_eq_true rfl⟩ hK hP hD hS hA hX [] [0, 1] [] rfl (wr := [(h_this, .inr (7, [.ref g_this_tape, .int v_size, .int v_kind, .long v_number, .int v_exponent, .ref g_this_above, .int v_aboveSize, .ref g_this_below, .int v_belowSize, .int v_state, .int v_digits, .ref h_this_digit, .int v_behind, .int v_power, .int z1, .int v_less, .int v_plainDigits, .int v_sixteen, .ref g_this_limbs, .int v_limbCount, .ref g_this_exact, .int v_length, .int v_point, .ref g_this_round, .int v_roundLength, .int v_roundPoint, .ref g_this_out, .int v_written, .ref g_this_body, .int v_bodySize])), (h_this_digit, .inl (c_this_digit, 1200, .inl a_digit))]) rfl (by decide) (by decide) (by decide) rfl rfl hl.1 rfl (lv_room (Nat.le_of_ble_eq_true rfl)) d_M_note_149 ⟨Nat.zero_le _, Nat.zero_le _⟩ (fun r9 u9 H locs h9 hP hD hS => ?_)
        cases h9
        have hP : va_P (dC, dI) classes (WS_M_note g_this_tape g_this_above g_this_below g_this_limbs g_this_exact g_this_round g_this_out g_this_body h_this h_this_digit c_this_digit v_size v_kind v_number v_exponent v_aboveSize v_belowSize v_state v_digits v_behind v_power z1 v_less v_plainDigits v_sixteen v_limbCount v_length v_point v_roundLength v_roundPoint v_written v_bodySize a_digit) H := hP.sub [0, 1] rfl
        have hD : va_D A (WS_M_note g_this_tape g_this_above g_this_below g_this_limbs g_this_exact g_this_round g_this_out g_this_body h_this h_this_digit c_this_digit v_size v_kind v_number v_exponent v_aboveSize v_belowSize v_state v_digits v_behind v_power z1 v_less v_plainDigits v_sixteen v_limbCount v_length v_point v_roundLength v_roundPoint v_written v_bodySize a_digit) := hD.sub [0, 1] (by decide) rfl
        refine lv_if_ne (tgt := 174) hx hb d_M_note_152 (by decide) (fun c22 => ?_) (fun c22 => ?_)
        · have h := if_f c22 h
          exact s_M_note_174 cx hK hA hX v_digits v_behind v_power z1 v_less v_plainDigits v_sixteen a_digit y1 y2 H locs ls hP hD hS (lv_sub hl [0, 1, 2] rfl) h
        · have h := if_t c22 h
          exact s_M_note_155 cx hK hA hX v_digits v_behind v_power z1 v_less v_plainDigits v_sixteen a_digit y1 y2 H locs ls hP hD hS (lv_sub hl [0, 1, 2] rfl) h
set_option maxHeartbeats 4000000 in
set_option maxRecDepth 100000 in
theorem s_M_note_129 {p : Program} {l : Launch} {e : Env} {s : State} {m : MethodId} {args : Array Value} {below : List Frame} {meth : Method} {c : Code} {dC : Nat → ClassId} {dI : Nat → Nat → Nat} {A : Nat → Prop} {X : SXT} {g_this_tape : Nat} {g_this_above : Nat} {g_this_below : Nat} {g_this_limbs : Nat} {g_this_exact : Nat} {g_this_round : Nat} {g_this_out : Nat} {g_this_body : Nat} {h_this : Nat} {h_this_digit : Nat} {c_this_digit : ClassId} {v_size : Int32} {v_kind : Int32} {v_number : Int64} {v_exponent : Int32} {v_aboveSize : Int32} {v_belowSize : Int32} {v_state : Int32} {v_limbCount : Int32} {v_length : Int32} {v_point : Int32} {v_roundLength : Int32} {v_roundPoint : Int32} {v_written : Int32} {v_bodySize : Int32} {res : Int32 × Int32 × Int32 × Int32 × Int32 × Int32 × Int32 × (Nat → Int32)}  (cx : cxx p s m args meth c b_M_note 4 none R_M) (hK : va_K (dC, dI) classes [(c_this_digit, .byte)] s) (hA : ∀ q, s.heap.size ≤ q → A q) (hX : SX X A s s.heap)  : ∀ (v_digits : Int32) (v_behind : Int32) (v_power : Int32) (v_powerLess : Int32) (v_less : Int32) (v_plainDigits : Int32) (v_sixteen : Int32) (a_digit : (Nat → Int32)) (y1 : Int32) (y2 : Int32) (H : Heap) (locs : List Loc) (ls : Array Slot), va_P (dC, dI) classes (WS_M_note g_this_tape g_this_above g_this_below g_this_limbs g_this_exact g_this_round g_this_out g_this_body h_this h_this_digit c_this_digit v_size v_kind v_number v_exponent v_aboveSize v_belowSize v_state v_digits v_behind v_power v_powerLess v_less v_plainDigits v_sixteen v_limbCount v_length v_point v_roundLength v_roundPoint v_written v_bodySize a_digit) H → va_D A (WS_M_note g_this_tape g_this_above g_this_below g_this_limbs g_this_exact g_this_round g_this_out g_this_body h_this h_this_digit c_this_digit v_size v_kind v_number v_exponent v_aboveSize v_belowSize v_state v_digits v_behind v_power v_powerLess v_less v_plainDigits v_sixteen v_limbCount v_length v_point v_roundLength v_roundPoint v_written v_bodySize a_digit) → va_S A s.heap H locs → lv_has ls 4 [(0, .ref h_this), (1, .int y1), (2, .int y2)] → f_M_note_129 v_digits v_behind v_power v_powerLess v_less v_plainDigits v_sixteen a_digit y1 y2 = some res → W p l e ({ frames := 1, cells := 0, slots := 0, locals := 20 }) s m args below meth c H locs 0 0 (MQ below (va_Qv (fun (u : Int32 × Int32 × Int32 × Int32 × Int32 × Int32 × Int32 × (Nat → Int32)) => some u = some res) (gB (dC, dI) [(c_this_digit, .byte)] A (fun (u : Int32 × Int32 × Int32 × Int32 × Int32 × Int32 × Int32 × (Nat → Int32)) => (WS_M_note g_this_tape g_this_above g_this_below g_this_limbs g_this_exact g_this_round g_this_out g_this_body h_this h_this_digit c_this_digit v_size v_kind v_number v_exponent v_aboveSize v_belowSize v_state u.1 u.2.1 u.2.2.1 u.2.2.2.1 u.2.2.2.2.1 u.2.2.2.2.2.1 u.2.2.2.2.2.2.1 v_limbCount v_length v_point v_roundLength v_roundPoint v_written v_bodySize u.2.2.2.2.2.2.2))) A) args s 0 0 A) (F0 m 129 ls [.ref h_this]) := by
  intro v_digits v_behind v_power v_powerLess v_less v_plainDigits v_sixteen a_digit y1 y2 H locs ls hP hD hS hl h
  obtain ⟨hx, hb, hr, hml, hown, ht, hlk⟩ := id cx
  refine lv_iconst (v := 0) hx hb d_M_note_129 (by decide) ?_
  exact s_M_note_130 cx hK hA hX v_digits v_behind v_power v_powerLess v_less v_plainDigits v_sixteen a_digit y1 y2 (0 : Int32) H locs ls hP hD hS (lv_sub hl [0, 1, 2] rfl) h
set_option maxHeartbeats 4000000 in
set_option maxRecDepth 100000 in
theorem s_M_note_125 {p : Program} {l : Launch} {e : Env} {s : State} {m : MethodId} {args : Array Value} {below : List Frame} {meth : Method} {c : Code} {dC : Nat → ClassId} {dI : Nat → Nat → Nat} {A : Nat → Prop} {X : SXT} {g_this_tape : Nat} {g_this_above : Nat} {g_this_below : Nat} {g_this_limbs : Nat} {g_this_exact : Nat} {g_this_round : Nat} {g_this_out : Nat} {g_this_body : Nat} {h_this : Nat} {h_this_digit : Nat} {c_this_digit : ClassId} {v_size : Int32} {v_kind : Int32} {v_number : Int64} {v_exponent : Int32} {v_aboveSize : Int32} {v_belowSize : Int32} {v_state : Int32} {v_limbCount : Int32} {v_length : Int32} {v_point : Int32} {v_roundLength : Int32} {v_roundPoint : Int32} {v_written : Int32} {v_bodySize : Int32} {res : Int32 × Int32 × Int32 × Int32 × Int32 × Int32 × Int32 × (Nat → Int32)}  (cx : cxx p s m args meth c b_M_note 4 none R_M) (hK : va_K (dC, dI) classes [(c_this_digit, .byte)] s) (hA : ∀ q, s.heap.size ≤ q → A q) (hX : SX X A s s.heap)  : ∀ (v_digits : Int32) (v_behind : Int32) (v_power : Int32) (v_powerLess : Int32) (v_less : Int32) (v_plainDigits : Int32) (v_sixteen : Int32) (a_digit : (Nat → Int32)) (y1 : Int32) (y2 : Int32) (H : Heap) (locs : List Loc) (ls : Array Slot), va_P (dC, dI) classes (WS_M_note g_this_tape g_this_above g_this_below g_this_limbs g_this_exact g_this_round g_this_out g_this_body h_this h_this_digit c_this_digit v_size v_kind v_number v_exponent v_aboveSize v_belowSize v_state v_digits v_behind v_power v_powerLess v_less v_plainDigits v_sixteen v_limbCount v_length v_point v_roundLength v_roundPoint v_written v_bodySize a_digit) H → va_D A (WS_M_note g_this_tape g_this_above g_this_below g_this_limbs g_this_exact g_this_round g_this_out g_this_body h_this h_this_digit c_this_digit v_size v_kind v_number v_exponent v_aboveSize v_belowSize v_state v_digits v_behind v_power v_powerLess v_less v_plainDigits v_sixteen v_limbCount v_length v_point v_roundLength v_roundPoint v_written v_bodySize a_digit) → va_S A s.heap H locs → lv_has ls 4 [(0, .ref h_this), (1, .int y1), (2, .int y2)] → f_M_note_125 v_digits v_behind v_power v_powerLess v_less v_plainDigits v_sixteen a_digit y1 y2 = some res → W p l e ({ frames := 1, cells := 0, slots := 0, locals := 20 }) s m args below meth c H locs 0 0 (MQ below (va_Qv (fun (u : Int32 × Int32 × Int32 × Int32 × Int32 × Int32 × Int32 × (Nat → Int32)) => some u = some res) (gB (dC, dI) [(c_this_digit, .byte)] A (fun (u : Int32 × Int32 × Int32 × Int32 × Int32 × Int32 × Int32 × (Nat → Int32)) => (WS_M_note g_this_tape g_this_above g_this_below g_this_limbs g_this_exact g_this_round g_this_out g_this_body h_this h_this_digit c_this_digit v_size v_kind v_number v_exponent v_aboveSize v_belowSize v_state u.1 u.2.1 u.2.2.1 u.2.2.2.1 u.2.2.2.2.1 u.2.2.2.2.2.1 u.2.2.2.2.2.2.1 v_limbCount v_length v_point v_roundLength v_roundPoint v_written v_bodySize u.2.2.2.2.2.2.2))) A) args s 0 0 A) (F0 m 125 ls [.ref h_this]) := by
  intro v_digits v_behind v_power v_powerLess v_less v_plainDigits v_sixteen a_digit y1 y2 H locs ls hP hD hS hl h
  obtain ⟨hx, hb, hr, hml, hown, ht, hlk⟩ := id cx
  refine lv_iconst (v := 1) hx hb d_M_note_125 (by decide) ?_
  refine lv_goto (tgt := 130) hx hb d_M_note_126 (by decide) ?_
  exact s_M_note_130 cx hK hA hX v_digits v_behind v_power v_powerLess v_less v_plainDigits v_sixteen a_digit y1 y2 (1 : Int32) H locs ls hP hD hS (lv_sub hl [0, 1, 2] rfl) h
set_option maxHeartbeats 4000000 in
set_option maxRecDepth 100000 in
theorem s_M_note_119 {p : Program} {l : Launch} {e : Env} {s : State} {m : MethodId} {args : Array Value} {below : List Frame} {meth : Method} {c : Code} {dC : Nat → ClassId} {dI : Nat → Nat → Nat} {A : Nat → Prop} {X : SXT} {g_this_tape : Nat} {g_this_above : Nat} {g_this_below : Nat} {g_this_limbs : Nat} {g_this_exact : Nat} {g_this_round : Nat} {g_this_out : Nat} {g_this_body : Nat} {h_this : Nat} {h_this_digit : Nat} {c_this_digit : ClassId} {v_size : Int32} {v_kind : Int32} {v_number : Int64} {v_exponent : Int32} {v_aboveSize : Int32} {v_belowSize : Int32} {v_state : Int32} {v_limbCount : Int32} {v_length : Int32} {v_point : Int32} {v_roundLength : Int32} {v_roundPoint : Int32} {v_written : Int32} {v_bodySize : Int32} {res : Int32 × Int32 × Int32 × Int32 × Int32 × Int32 × Int32 × (Nat → Int32)}  (cx : cxx p s m args meth c b_M_note 4 none R_M) (hK : va_K (dC, dI) classes [(c_this_digit, .byte)] s) (hA : ∀ q, s.heap.size ≤ q → A q) (hX : SX X A s s.heap)  : ∀ (v_digits : Int32) (v_behind : Int32) (v_power : Int32) (v_powerLess : Int32) (v_less : Int32) (v_plainDigits : Int32) (v_sixteen : Int32) (a_digit : (Nat → Int32)) (y1 : Int32) (y2 : Int32) (H : Heap) (locs : List Loc) (ls : Array Slot), va_P (dC, dI) classes (WS_M_note g_this_tape g_this_above g_this_below g_this_limbs g_this_exact g_this_round g_this_out g_this_body h_this h_this_digit c_this_digit v_size v_kind v_number v_exponent v_aboveSize v_belowSize v_state v_digits v_behind v_power v_powerLess v_less v_plainDigits v_sixteen v_limbCount v_length v_point v_roundLength v_roundPoint v_written v_bodySize a_digit) H → va_D A (WS_M_note g_this_tape g_this_above g_this_below g_this_limbs g_this_exact g_this_round g_this_out g_this_body h_this h_this_digit c_this_digit v_size v_kind v_number v_exponent v_aboveSize v_belowSize v_state v_digits v_behind v_power v_powerLess v_less v_plainDigits v_sixteen v_limbCount v_length v_point v_roundLength v_roundPoint v_written v_bodySize a_digit) → va_S A s.heap H locs → lv_has ls 4 [(0, .ref h_this), (1, .int y1), (2, .int y2)] → f_M_note_119 v_digits v_behind v_power v_powerLess v_less v_plainDigits v_sixteen a_digit y1 y2 = some res → W p l e ({ frames := 1, cells := 0, slots := 0, locals := 20 }) s m args below meth c H locs 0 0 (MQ below (va_Qv (fun (u : Int32 × Int32 × Int32 × Int32 × Int32 × Int32 × Int32 × (Nat → Int32)) => some u = some res) (gB (dC, dI) [(c_this_digit, .byte)] A (fun (u : Int32 × Int32 × Int32 × Int32 × Int32 × Int32 × Int32 × (Nat → Int32)) => (WS_M_note g_this_tape g_this_above g_this_below g_this_limbs g_this_exact g_this_round g_this_out g_this_body h_this h_this_digit c_this_digit v_size v_kind v_number v_exponent v_aboveSize v_belowSize v_state u.1 u.2.1 u.2.2.1 u.2.2.2.1 u.2.2.2.2.1 u.2.2.2.2.2.1 u.2.2.2.2.2.2.1 v_limbCount v_length v_point v_roundLength v_roundPoint v_written v_bodySize u.2.2.2.2.2.2.2))) A) args s 0 0 A) (F0 m 119 ls [.ref h_this]) := by
  intro v_digits v_behind v_power v_powerLess v_less v_plainDigits v_sixteen a_digit y1 y2 H locs ls hP hD hS hl h
  obtain ⟨hx, hb, hr, hml, hown, ht, hlk⟩ := id cx
  refine lv_iload_n hx hb d_M_note_119 rfl (lv_at hl 2 rfl) ?_
  refine lv_bipush (v := 45) hx hb d_M_note_120 (by decide) ?_
  refine lv_icmp_ne (tgt := 129) hx hb d_M_note_122 (by decide) (fun c23 => ?_) (fun c23 => ?_)
  · have h := if_f c23 h
    exact s_M_note_129 cx hK hA hX v_digits v_behind v_power v_powerLess v_less v_plainDigits v_sixteen a_digit y1 y2 H locs ls hP hD hS (lv_sub hl [0, 1, 2] rfl) h
  · have h := if_t c23 h
    exact s_M_note_125 cx hK hA hX v_digits v_behind v_power v_powerLess v_less v_plainDigits v_sixteen a_digit y1 y2 H locs ls hP hD hS (lv_sub hl [0, 1, 2] rfl) h
set_option maxHeartbeats 4000000 in
set_option maxRecDepth 100000 in
theorem s_M_note_96 {p : Program} {l : Launch} {e : Env} {s : State} {m : MethodId} {args : Array Value} {below : List Frame} {meth : Method} {c : Code} {dC : Nat → ClassId} {dI : Nat → Nat → Nat} {A : Nat → Prop} {X : SXT} {g_this_tape : Nat} {g_this_above : Nat} {g_this_below : Nat} {g_this_limbs : Nat} {g_this_exact : Nat} {g_this_round : Nat} {g_this_out : Nat} {g_this_body : Nat} {h_this : Nat} {h_this_digit : Nat} {c_this_digit : ClassId} {v_size : Int32} {v_kind : Int32} {v_number : Int64} {v_exponent : Int32} {v_aboveSize : Int32} {v_belowSize : Int32} {v_state : Int32} {v_limbCount : Int32} {v_length : Int32} {v_point : Int32} {v_roundLength : Int32} {v_roundPoint : Int32} {v_written : Int32} {v_bodySize : Int32} {res : Int32 × Int32 × Int32 × Int32 × Int32 × Int32 × Int32 × (Nat → Int32)}  (cx : cxx p s m args meth c b_M_note 4 none R_M) (hK : va_K (dC, dI) classes [(c_this_digit, .byte)] s) (hA : ∀ q, s.heap.size ≤ q → A q) (hX : SX X A s s.heap)  : ∀ (v_digits : Int32) (v_behind : Int32) (v_power : Int32) (v_powerLess : Int32) (v_less : Int32) (v_plainDigits : Int32) (v_sixteen : Int32) (a_digit : (Nat → Int32)) (y1 : Int32) (y2 : Int32) (z1 : Int32) (H : Heap) (locs : List Loc) (ls : Array Slot), va_P (dC, dI) classes (WS_M_note g_this_tape g_this_above g_this_below g_this_limbs g_this_exact g_this_round g_this_out g_this_body h_this h_this_digit c_this_digit v_size v_kind v_number v_exponent v_aboveSize v_belowSize v_state v_digits v_behind v_power v_powerLess v_less v_plainDigits v_sixteen v_limbCount v_length v_point v_roundLength v_roundPoint v_written v_bodySize a_digit) H → va_D A (WS_M_note g_this_tape g_this_above g_this_below g_this_limbs g_this_exact g_this_round g_this_out g_this_body h_this h_this_digit c_this_digit v_size v_kind v_number v_exponent v_aboveSize v_belowSize v_state v_digits v_behind v_power v_powerLess v_less v_plainDigits v_sixteen v_limbCount v_length v_point v_roundLength v_roundPoint v_written v_bodySize a_digit) → va_S A s.heap H locs → lv_has ls 4 [(0, .ref h_this), (1, .int y1), (2, .int y2)] → f_M_note_96 v_digits v_behind v_power v_powerLess v_less v_plainDigits v_sixteen a_digit y1 y2 z1 = some res → W p l e ({ frames := 1, cells := 0, slots := 0, locals := 20 }) s m args below meth c H locs 0 0 (MQ below (va_Qv (fun (u : Int32 × Int32 × Int32 × Int32 × Int32 × Int32 × Int32 × (Nat → Int32)) => some u = some res) (gB (dC, dI) [(c_this_digit, .byte)] A (fun (u : Int32 × Int32 × Int32 × Int32 × Int32 × Int32 × Int32 × (Nat → Int32)) => (WS_M_note g_this_tape g_this_above g_this_below g_this_limbs g_this_exact g_this_round g_this_out g_this_body h_this h_this_digit c_this_digit v_size v_kind v_number v_exponent v_aboveSize v_belowSize v_state u.1 u.2.1 u.2.2.1 u.2.2.2.1 u.2.2.2.2.1 u.2.2.2.2.2.1 u.2.2.2.2.2.2.1 v_limbCount v_length v_point v_roundLength v_roundPoint v_written v_bodySize u.2.2.2.2.2.2.2))) A) args s 0 0 A) (F0 m 96 ls [.int z1, .ref h_this]) := by
  intro v_digits v_behind v_power v_powerLess v_less v_plainDigits v_sixteen a_digit y1 y2 z1 H locs ls hP hD hS hl h
  obtain ⟨hx, hb, hr, hml, hown, ht, hlk⟩ := id cx
  obtain ⟨c24, h⟩ := ck_x h
  refine va_put (D := (dC, dI)) (ci := 7) (v := .int z1) (ty := .boolean) (C := R_M) (T := F_M) (N := 30) hx hb ht i_M t_M t_M_ok n_M hown hK hP hD hS 0 rfl rfl 16 (by decide) (ht _ q_528) (fun _ h9 => h9) rfl (t_M_ok 16 (by decide)) (ckZ_n c24) (ckZ_f c24) (Nat.le_of_ble_eq_true rfl) d_M_note_96 (fun H locs hP hD hS => ?_)
  have hP : va_P (dC, dI) classes (WS_M_note g_this_tape g_this_above g_this_below g_this_limbs g_this_exact g_this_round g_this_out g_this_body h_this h_this_digit c_this_digit v_size v_kind v_number v_exponent v_aboveSize v_belowSize v_state v_digits v_behind v_power v_powerLess v_less z1 v_sixteen v_limbCount v_length v_point v_roundLength v_roundPoint v_written v_bodySize a_digit) H := hP
  have hD : va_D A (WS_M_note g_this_tape g_this_above g_this_below g_this_limbs g_this_exact g_this_round g_this_out g_this_body h_this h_this_digit c_this_digit v_size v_kind v_number v_exponent v_aboveSize v_belowSize v_state v_digits v_behind v_power v_powerLess v_less z1 v_sixteen v_limbCount v_length v_point v_roundLength v_roundPoint v_written v_bodySize a_digit) := hD
  refine lv_aload_n hx hb d_M_note_99 rfl (lv_at hl 0 rfl) ?_
  refine lv_aload_n hx hb d_M_note_100 rfl (lv_at hl 0 rfl) ?_
  refine va_get (D := (dC, dI)) (ci := 7) (v := .int v_powerLess) (C := R_M) (T := F_M) (N := 30) hx hb ht i_M hown hK hP 0 rfl rfl 14 (by decide) (ht _ q_527) (fun _ h9 => h9) rfl d_M_note_101 ?_
  refine lv_if_ne (tgt := 125) hx hb d_M_note_104 (by decide) (fun c25 => ?_) (fun c25 => ?_)
  · have h := if_f c25 h
    exact s_M_note_125 cx hK hA hX v_digits v_behind v_power v_powerLess v_less z1 v_sixteen a_digit y1 y2 H locs ls hP hD hS (lv_sub hl [0, 1, 2] rfl) h
  · have h := if_t c25 h
    refine lv_iload_n hx hb d_M_note_107 rfl (lv_at hl 1 rfl) ?_
    refine lv_bipush (v := 7) hx hb d_M_note_108 (by decide) ?_
    refine lv_icmp_eq (tgt := 119) hx hb d_M_note_110 (by decide) (fun c26 => ?_) (fun c26 => ?_)
    · have h := if_t c26 h
      exact s_M_note_119 cx hK hA hX v_digits v_behind v_power v_powerLess v_less z1 v_sixteen a_digit y1 y2 H locs ls hP hD hS (lv_sub hl [0, 1, 2] rfl) h
    · have h := if_f c26 h
      refine lv_iload_n hx hb d_M_note_113 rfl (lv_at hl 1 rfl) ?_
      refine lv_bipush (v := 17) hx hb d_M_note_114 (by decide) ?_
      refine lv_icmp_ne (tgt := 129) hx hb d_M_note_116 (by decide) (fun c27 => ?_) (fun c27 => ?_)
      · have h := if_f c27 h
        exact s_M_note_129 cx hK hA hX v_digits v_behind v_power v_powerLess v_less z1 v_sixteen a_digit y1 y2 H locs ls hP hD hS (lv_sub hl [0, 1, 2] rfl) h
      · have h := if_t c27 h
        exact s_M_note_119 cx hK hA hX v_digits v_behind v_power v_powerLess v_less z1 v_sixteen a_digit y1 y2 H locs ls hP hD hS (lv_sub hl [0, 1, 2] rfl) h
set_option maxHeartbeats 4000000 in
set_option maxRecDepth 100000 in
theorem s_M_note_95 {p : Program} {l : Launch} {e : Env} {s : State} {m : MethodId} {args : Array Value} {below : List Frame} {meth : Method} {c : Code} {dC : Nat → ClassId} {dI : Nat → Nat → Nat} {A : Nat → Prop} {X : SXT} {g_this_tape : Nat} {g_this_above : Nat} {g_this_below : Nat} {g_this_limbs : Nat} {g_this_exact : Nat} {g_this_round : Nat} {g_this_out : Nat} {g_this_body : Nat} {h_this : Nat} {h_this_digit : Nat} {c_this_digit : ClassId} {v_size : Int32} {v_kind : Int32} {v_number : Int64} {v_exponent : Int32} {v_aboveSize : Int32} {v_belowSize : Int32} {v_state : Int32} {v_limbCount : Int32} {v_length : Int32} {v_point : Int32} {v_roundLength : Int32} {v_roundPoint : Int32} {v_written : Int32} {v_bodySize : Int32} {res : Int32 × Int32 × Int32 × Int32 × Int32 × Int32 × Int32 × (Nat → Int32)}  (cx : cxx p s m args meth c b_M_note 4 none R_M) (hK : va_K (dC, dI) classes [(c_this_digit, .byte)] s) (hA : ∀ q, s.heap.size ≤ q → A q) (hX : SX X A s s.heap)  : ∀ (v_digits : Int32) (v_behind : Int32) (v_power : Int32) (v_powerLess : Int32) (v_less : Int32) (v_plainDigits : Int32) (v_sixteen : Int32) (a_digit : (Nat → Int32)) (y1 : Int32) (y2 : Int32) (H : Heap) (locs : List Loc) (ls : Array Slot), va_P (dC, dI) classes (WS_M_note g_this_tape g_this_above g_this_below g_this_limbs g_this_exact g_this_round g_this_out g_this_body h_this h_this_digit c_this_digit v_size v_kind v_number v_exponent v_aboveSize v_belowSize v_state v_digits v_behind v_power v_powerLess v_less v_plainDigits v_sixteen v_limbCount v_length v_point v_roundLength v_roundPoint v_written v_bodySize a_digit) H → va_D A (WS_M_note g_this_tape g_this_above g_this_below g_this_limbs g_this_exact g_this_round g_this_out g_this_body h_this h_this_digit c_this_digit v_size v_kind v_number v_exponent v_aboveSize v_belowSize v_state v_digits v_behind v_power v_powerLess v_less v_plainDigits v_sixteen v_limbCount v_length v_point v_roundLength v_roundPoint v_written v_bodySize a_digit) → va_S A s.heap H locs → lv_has ls 4 [(0, .ref h_this), (1, .int y1), (2, .int y2)] → f_M_note_95 v_digits v_behind v_power v_powerLess v_less v_plainDigits v_sixteen a_digit y1 y2 = some res → W p l e ({ frames := 1, cells := 0, slots := 0, locals := 20 }) s m args below meth c H locs 0 0 (MQ below (va_Qv (fun (u : Int32 × Int32 × Int32 × Int32 × Int32 × Int32 × Int32 × (Nat → Int32)) => some u = some res) (gB (dC, dI) [(c_this_digit, .byte)] A (fun (u : Int32 × Int32 × Int32 × Int32 × Int32 × Int32 × Int32 × (Nat → Int32)) => (WS_M_note g_this_tape g_this_above g_this_below g_this_limbs g_this_exact g_this_round g_this_out g_this_body h_this h_this_digit c_this_digit v_size v_kind v_number v_exponent v_aboveSize v_belowSize v_state u.1 u.2.1 u.2.2.1 u.2.2.2.1 u.2.2.2.2.1 u.2.2.2.2.2.1 u.2.2.2.2.2.2.1 v_limbCount v_length v_point v_roundLength v_roundPoint v_written v_bodySize u.2.2.2.2.2.2.2))) A) args s 0 0 A) (F0 m 95 ls [.ref h_this]) := by
  intro v_digits v_behind v_power v_powerLess v_less v_plainDigits v_sixteen a_digit y1 y2 H locs ls hP hD hS hl h
  obtain ⟨hx, hb, hr, hml, hown, ht, hlk⟩ := id cx
  refine lv_iconst (v := 0) hx hb d_M_note_95 (by decide) ?_
  exact s_M_note_96 cx hK hA hX v_digits v_behind v_power v_powerLess v_less v_plainDigits v_sixteen a_digit y1 y2 (0 : Int32) H locs ls hP hD hS (lv_sub hl [0, 1, 2] rfl) h
set_option maxHeartbeats 4000000 in
set_option maxRecDepth 100000 in
theorem s_M_note_46 {p : Program} {l : Launch} {e : Env} {s : State} {m : MethodId} {args : Array Value} {below : List Frame} {meth : Method} {c : Code} {dC : Nat → ClassId} {dI : Nat → Nat → Nat} {A : Nat → Prop} {X : SXT} {g_this_tape : Nat} {g_this_above : Nat} {g_this_below : Nat} {g_this_limbs : Nat} {g_this_exact : Nat} {g_this_round : Nat} {g_this_out : Nat} {g_this_body : Nat} {h_this : Nat} {h_this_digit : Nat} {c_this_digit : ClassId} {v_size : Int32} {v_kind : Int32} {v_number : Int64} {v_exponent : Int32} {v_aboveSize : Int32} {v_belowSize : Int32} {v_state : Int32} {v_limbCount : Int32} {v_length : Int32} {v_point : Int32} {v_roundLength : Int32} {v_roundPoint : Int32} {v_written : Int32} {v_bodySize : Int32} {res : Int32 × Int32 × Int32 × Int32 × Int32 × Int32 × Int32 × (Nat → Int32)}  (cx : cxx p s m args meth c b_M_note 4 none R_M) (hK : va_K (dC, dI) classes [(c_this_digit, .byte)] s) (hA : ∀ q, s.heap.size ≤ q → A q) (hX : SX X A s s.heap)  : ∀ (v_digits : Int32) (v_behind : Int32) (v_power : Int32) (v_powerLess : Int32) (v_less : Int32) (v_plainDigits : Int32) (v_sixteen : Int32) (a_digit : (Nat → Int32)) (y1 : Int32) (y2 : Int32) (z1 : Int32) (H : Heap) (locs : List Loc) (ls : Array Slot), va_P (dC, dI) classes (WS_M_note g_this_tape g_this_above g_this_below g_this_limbs g_this_exact g_this_round g_this_out g_this_body h_this h_this_digit c_this_digit v_size v_kind v_number v_exponent v_aboveSize v_belowSize v_state v_digits v_behind v_power v_powerLess v_less v_plainDigits v_sixteen v_limbCount v_length v_point v_roundLength v_roundPoint v_written v_bodySize a_digit) H → va_D A (WS_M_note g_this_tape g_this_above g_this_below g_this_limbs g_this_exact g_this_round g_this_out g_this_body h_this h_this_digit c_this_digit v_size v_kind v_number v_exponent v_aboveSize v_belowSize v_state v_digits v_behind v_power v_powerLess v_less v_plainDigits v_sixteen v_limbCount v_length v_point v_roundLength v_roundPoint v_written v_bodySize a_digit) → va_S A s.heap H locs → lv_has ls 4 [(0, .ref h_this), (1, .int y1), (2, .int y2)] → f_M_note_46 v_digits v_behind v_power v_powerLess v_less v_plainDigits v_sixteen a_digit y1 y2 z1 = some res → W p l e ({ frames := 1, cells := 0, slots := 0, locals := 20 }) s m args below meth c H locs 0 0 (MQ below (va_Qv (fun (u : Int32 × Int32 × Int32 × Int32 × Int32 × Int32 × Int32 × (Nat → Int32)) => some u = some res) (gB (dC, dI) [(c_this_digit, .byte)] A (fun (u : Int32 × Int32 × Int32 × Int32 × Int32 × Int32 × Int32 × (Nat → Int32)) => (WS_M_note g_this_tape g_this_above g_this_below g_this_limbs g_this_exact g_this_round g_this_out g_this_body h_this h_this_digit c_this_digit v_size v_kind v_number v_exponent v_aboveSize v_belowSize v_state u.1 u.2.1 u.2.2.1 u.2.2.2.1 u.2.2.2.2.1 u.2.2.2.2.2.1 u.2.2.2.2.2.2.1 v_limbCount v_length v_point v_roundLength v_roundPoint v_written v_bodySize u.2.2.2.2.2.2.2))) A) args s 0 0 A) (F0 m 46 ls [.int z1, .ref h_this]) := by
  intro v_digits v_behind v_power v_powerLess v_less v_plainDigits v_sixteen a_digit y1 y2 z1 H locs ls hP hD hS hl h
  obtain ⟨hx, hb, hr, hml, hown, ht, hlk⟩ := id cx
  obtain ⟨c28, h⟩ := ck_x h
  refine va_put (D := (dC, dI)) (ci := 7) (v := .int z1) (ty := .boolean) (C := R_M) (T := F_M) (N := 30) hx hb ht i_M t_M t_M_ok n_M hown hK hP hD hS 0 rfl rfl 17 (by decide) (ht _ q_529) (fun _ h9 => h9) rfl (t_M_ok 17 (by decide)) (ckZ_n c28) (ckZ_f c28) (Nat.le_of_ble_eq_true rfl) d_M_note_46 (fun H locs hP hD hS => ?_)
  have hP : va_P (dC, dI) classes (WS_M_note g_this_tape g_this_above g_this_below g_this_limbs g_this_exact g_this_round g_this_out g_this_body h_this h_this_digit c_this_digit v_size v_kind v_number v_exponent v_aboveSize v_belowSize v_state v_digits v_behind v_power v_powerLess v_less v_plainDigits z1 v_limbCount v_length v_point v_roundLength v_roundPoint v_written v_bodySize a_digit) H := hP
  have hD : va_D A (WS_M_note g_this_tape g_this_above g_this_below g_this_limbs g_this_exact g_this_round g_this_out g_this_body h_this h_this_digit c_this_digit v_size v_kind v_number v_exponent v_aboveSize v_belowSize v_state v_digits v_behind v_power v_powerLess v_less v_plainDigits z1 v_limbCount v_length v_point v_roundLength v_roundPoint v_written v_bodySize a_digit) := hD
  refine lv_aload_n hx hb d_M_note_49 rfl (lv_at hl 0 rfl) ?_
  refine lv_aload_n hx hb d_M_note_50 rfl (lv_at hl 0 rfl) ?_
  refine va_get (D := (dC, dI)) (ci := 7) (v := .int v_plainDigits) (C := R_M) (T := F_M) (N := 30) hx hb ht i_M hown hK hP 0 rfl rfl 16 (by decide) (ht _ q_528) (fun _ h9 => h9) rfl d_M_note_51 ?_
  refine lv_if_eq (tgt := 95) hx hb d_M_note_54 (by decide) (fun c29 => ?_) (fun c29 => ?_)
  · have h := if_t c29 h
    exact s_M_note_95 cx hK hA hX v_digits v_behind v_power v_powerLess v_less v_plainDigits z1 a_digit y1 y2 H locs ls hP hD hS (lv_sub hl [0, 1, 2] rfl) h
  · have h := if_f c29 h
    refine lv_iload_n hx hb d_M_note_57 rfl (lv_at hl 1 rfl) ?_
    refine lv_iconst (v := 4) hx hb d_M_note_58 (by decide) ?_
    refine lv_icmp_eq (tgt := 95) hx hb d_M_note_59 (by decide) (fun c30 => ?_) (fun c30 => ?_)
    · have h := if_t c30 h
      exact s_M_note_95 cx hK hA hX v_digits v_behind v_power v_powerLess v_less v_plainDigits z1 a_digit y1 y2 H locs ls hP hD hS (lv_sub hl [0, 1, 2] rfl) h
    · have h := if_f c30 h
      refine lv_iload_n hx hb d_M_note_62 rfl (lv_at hl 1 rfl) ?_
      refine lv_iconst (v := 5) hx hb d_M_note_63 (by decide) ?_
      refine lv_icmp_eq (tgt := 95) hx hb d_M_note_64 (by decide) (fun c31 => ?_) (fun c31 => ?_)
      · have h := if_t c31 h
        exact s_M_note_95 cx hK hA hX v_digits v_behind v_power v_powerLess v_less v_plainDigits z1 a_digit y1 y2 H locs ls hP hD hS (lv_sub hl [0, 1, 2] rfl) h
      · have h := if_f c31 h
        refine lv_iload_n hx hb d_M_note_67 rfl (lv_at hl 1 rfl) ?_
        refine lv_bipush (v := 6) hx hb d_M_note_68 (by decide) ?_
        refine lv_icmp_eq (tgt := 95) hx hb d_M_note_70 (by decide) (fun c32 => ?_) (fun c32 => ?_)
        · have h := if_t c32 h
          exact s_M_note_95 cx hK hA hX v_digits v_behind v_power v_powerLess v_less v_plainDigits z1 a_digit y1 y2 H locs ls hP hD hS (lv_sub hl [0, 1, 2] rfl) h
        · have h := if_f c32 h
          refine lv_iload_n hx hb d_M_note_73 rfl (lv_at hl 1 rfl) ?_
          refine lv_bipush (v := 14) hx hb d_M_note_74 (by decide) ?_
          refine lv_icmp_eq (tgt := 95) hx hb d_M_note_76 (by decide) (fun c33 => ?_) (fun c33 => ?_)
          · have h := if_t c33 h
            exact s_M_note_95 cx hK hA hX v_digits v_behind v_power v_powerLess v_less v_plainDigits z1 a_digit y1 y2 H locs ls hP hD hS (lv_sub hl [0, 1, 2] rfl) h
          · have h := if_f c33 h
            refine lv_iload_n hx hb d_M_note_79 rfl (lv_at hl 1 rfl) ?_
            refine lv_bipush (v := 15) hx hb d_M_note_80 (by decide) ?_
            refine lv_icmp_eq (tgt := 95) hx hb d_M_note_82 (by decide) (fun c34 => ?_) (fun c34 => ?_)
            · have h := if_t c34 h
              exact s_M_note_95 cx hK hA hX v_digits v_behind v_power v_powerLess v_less v_plainDigits z1 a_digit y1 y2 H locs ls hP hD hS (lv_sub hl [0, 1, 2] rfl) h
            · have h := if_f c34 h
              refine lv_iload_n hx hb d_M_note_85 rfl (lv_at hl 1 rfl) ?_
              refine lv_bipush (v := 16) hx hb d_M_note_86 (by decide) ?_
              refine lv_icmp_eq (tgt := 95) hx hb d_M_note_88 (by decide) (fun c35 => ?_) (fun c35 => ?_)
              · have h := if_t c35 h
                exact s_M_note_95 cx hK hA hX v_digits v_behind v_power v_powerLess v_less v_plainDigits z1 a_digit y1 y2 H locs ls hP hD hS (lv_sub hl [0, 1, 2] rfl) h
              · have h := if_f c35 h
                refine lv_iconst (v := 1) hx hb d_M_note_91 (by decide) ?_
                refine lv_goto (tgt := 96) hx hb d_M_note_92 (by decide) ?_
                exact s_M_note_96 cx hK hA hX v_digits v_behind v_power v_powerLess v_less v_plainDigits z1 a_digit y1 y2 (1 : Int32) H locs ls hP hD hS (lv_sub hl [0, 1, 2] rfl) h
set_option maxHeartbeats 4000000 in
set_option maxRecDepth 100000 in
theorem s_M_note_41 {p : Program} {l : Launch} {e : Env} {s : State} {m : MethodId} {args : Array Value} {below : List Frame} {meth : Method} {c : Code} {dC : Nat → ClassId} {dI : Nat → Nat → Nat} {A : Nat → Prop} {X : SXT} {g_this_tape : Nat} {g_this_above : Nat} {g_this_below : Nat} {g_this_limbs : Nat} {g_this_exact : Nat} {g_this_round : Nat} {g_this_out : Nat} {g_this_body : Nat} {h_this : Nat} {h_this_digit : Nat} {c_this_digit : ClassId} {v_size : Int32} {v_kind : Int32} {v_number : Int64} {v_exponent : Int32} {v_aboveSize : Int32} {v_belowSize : Int32} {v_state : Int32} {v_limbCount : Int32} {v_length : Int32} {v_point : Int32} {v_roundLength : Int32} {v_roundPoint : Int32} {v_written : Int32} {v_bodySize : Int32} {res : Int32 × Int32 × Int32 × Int32 × Int32 × Int32 × Int32 × (Nat → Int32)}  (cx : cxx p s m args meth c b_M_note 4 none R_M) (hK : va_K (dC, dI) classes [(c_this_digit, .byte)] s) (hA : ∀ q, s.heap.size ≤ q → A q) (hX : SX X A s s.heap)  : ∀ (v_digits : Int32) (v_behind : Int32) (v_power : Int32) (v_powerLess : Int32) (v_less : Int32) (v_plainDigits : Int32) (v_sixteen : Int32) (a_digit : (Nat → Int32)) (y1 : Int32) (y2 : Int32) (H : Heap) (locs : List Loc) (ls : Array Slot), va_P (dC, dI) classes (WS_M_note g_this_tape g_this_above g_this_below g_this_limbs g_this_exact g_this_round g_this_out g_this_body h_this h_this_digit c_this_digit v_size v_kind v_number v_exponent v_aboveSize v_belowSize v_state v_digits v_behind v_power v_powerLess v_less v_plainDigits v_sixteen v_limbCount v_length v_point v_roundLength v_roundPoint v_written v_bodySize a_digit) H → va_D A (WS_M_note g_this_tape g_this_above g_this_below g_this_limbs g_this_exact g_this_round g_this_out g_this_body h_this h_this_digit c_this_digit v_size v_kind v_number v_exponent v_aboveSize v_belowSize v_state v_digits v_behind v_power v_powerLess v_less v_plainDigits v_sixteen v_limbCount v_length v_point v_roundLength v_roundPoint v_written v_bodySize a_digit) → va_S A s.heap H locs → lv_has ls 4 [(0, .ref h_this), (1, .int y1), (2, .int y2)] → f_M_note_41 v_digits v_behind v_power v_powerLess v_less v_plainDigits v_sixteen a_digit y1 y2 = some res → W p l e ({ frames := 1, cells := 0, slots := 0, locals := 20 }) s m args below meth c H locs 0 0 (MQ below (va_Qv (fun (u : Int32 × Int32 × Int32 × Int32 × Int32 × Int32 × Int32 × (Nat → Int32)) => some u = some res) (gB (dC, dI) [(c_this_digit, .byte)] A (fun (u : Int32 × Int32 × Int32 × Int32 × Int32 × Int32 × Int32 × (Nat → Int32)) => (WS_M_note g_this_tape g_this_above g_this_below g_this_limbs g_this_exact g_this_round g_this_out g_this_body h_this h_this_digit c_this_digit v_size v_kind v_number v_exponent v_aboveSize v_belowSize v_state u.1 u.2.1 u.2.2.1 u.2.2.2.1 u.2.2.2.2.1 u.2.2.2.2.2.1 u.2.2.2.2.2.2.1 v_limbCount v_length v_point v_roundLength v_roundPoint v_written v_bodySize u.2.2.2.2.2.2.2))) A) args s 0 0 A) (F0 m 41 ls [.ref h_this]) := by
  intro v_digits v_behind v_power v_powerLess v_less v_plainDigits v_sixteen a_digit y1 y2 H locs ls hP hD hS hl h
  obtain ⟨hx, hb, hr, hml, hown, ht, hlk⟩ := id cx
  refine lv_iconst (v := 1) hx hb d_M_note_41 (by decide) ?_
  refine lv_goto (tgt := 46) hx hb d_M_note_42 (by decide) ?_
  exact s_M_note_46 cx hK hA hX v_digits v_behind v_power v_powerLess v_less v_plainDigits v_sixteen a_digit y1 y2 (1 : Int32) H locs ls hP hD hS (lv_sub hl [0, 1, 2] rfl) h
set_option maxHeartbeats 4000000 in
set_option maxRecDepth 100000 in
theorem s_M_note_24 {p : Program} {l : Launch} {e : Env} {s : State} {m : MethodId} {args : Array Value} {below : List Frame} {meth : Method} {c : Code} {dC : Nat → ClassId} {dI : Nat → Nat → Nat} {A : Nat → Prop} {X : SXT} {g_this_tape : Nat} {g_this_above : Nat} {g_this_below : Nat} {g_this_limbs : Nat} {g_this_exact : Nat} {g_this_round : Nat} {g_this_out : Nat} {g_this_body : Nat} {h_this : Nat} {h_this_digit : Nat} {c_this_digit : ClassId} {v_size : Int32} {v_kind : Int32} {v_number : Int64} {v_exponent : Int32} {v_aboveSize : Int32} {v_belowSize : Int32} {v_state : Int32} {v_limbCount : Int32} {v_length : Int32} {v_point : Int32} {v_roundLength : Int32} {v_roundPoint : Int32} {v_written : Int32} {v_bodySize : Int32} {res : Int32 × Int32 × Int32 × Int32 × Int32 × Int32 × Int32 × (Nat → Int32)}  (cx : cxx p s m args meth c b_M_note 4 none R_M) (hK : va_K (dC, dI) classes [(c_this_digit, .byte)] s) (hA : ∀ q, s.heap.size ≤ q → A q) (hX : SX X A s s.heap)  : ∀ (v_digits : Int32) (v_behind : Int32) (v_power : Int32) (v_powerLess : Int32) (v_less : Int32) (v_plainDigits : Int32) (v_sixteen : Int32) (a_digit : (Nat → Int32)) (y1 : Int32) (y2 : Int32) (z1 : Int32) (H : Heap) (locs : List Loc) (ls : Array Slot), va_P (dC, dI) classes (WS_M_note g_this_tape g_this_above g_this_below g_this_limbs g_this_exact g_this_round g_this_out g_this_body h_this h_this_digit c_this_digit v_size v_kind v_number v_exponent v_aboveSize v_belowSize v_state v_digits v_behind v_power v_powerLess v_less v_plainDigits v_sixteen v_limbCount v_length v_point v_roundLength v_roundPoint v_written v_bodySize a_digit) H → va_D A (WS_M_note g_this_tape g_this_above g_this_below g_this_limbs g_this_exact g_this_round g_this_out g_this_body h_this h_this_digit c_this_digit v_size v_kind v_number v_exponent v_aboveSize v_belowSize v_state v_digits v_behind v_power v_powerLess v_less v_plainDigits v_sixteen v_limbCount v_length v_point v_roundLength v_roundPoint v_written v_bodySize a_digit) → va_S A s.heap H locs → lv_has ls 4 [(0, .ref h_this), (1, .int y1), (2, .int y2)] → f_M_note_24 v_digits v_behind v_power v_powerLess v_less v_plainDigits v_sixteen a_digit y1 y2 z1 = some res → W p l e ({ frames := 1, cells := 0, slots := 0, locals := 20 }) s m args below meth c H locs 0 0 (MQ below (va_Qv (fun (u : Int32 × Int32 × Int32 × Int32 × Int32 × Int32 × Int32 × (Nat → Int32)) => some u = some res) (gB (dC, dI) [(c_this_digit, .byte)] A (fun (u : Int32 × Int32 × Int32 × Int32 × Int32 × Int32 × Int32 × (Nat → Int32)) => (WS_M_note g_this_tape g_this_above g_this_below g_this_limbs g_this_exact g_this_round g_this_out g_this_body h_this h_this_digit c_this_digit v_size v_kind v_number v_exponent v_aboveSize v_belowSize v_state u.1 u.2.1 u.2.2.1 u.2.2.2.1 u.2.2.2.2.1 u.2.2.2.2.2.1 u.2.2.2.2.2.2.1 v_limbCount v_length v_point v_roundLength v_roundPoint v_written v_bodySize u.2.2.2.2.2.2.2))) A) args s 0 0 A) (F0 m 24 ls [.int z1, .ref h_this]) := by
  intro v_digits v_behind v_power v_powerLess v_less v_plainDigits v_sixteen a_digit y1 y2 z1 H locs ls hP hD hS hl h
  obtain ⟨hx, hb, hr, hml, hown, ht, hlk⟩ := id cx
  obtain ⟨c36, h⟩ := ck_x h
  refine va_put (D := (dC, dI)) (ci := 7) (v := .int z1) (ty := .boolean) (C := R_M) (T := F_M) (N := 30) hx hb ht i_M t_M t_M_ok n_M hown hK hP hD hS 0 rfl rfl 15 (by decide) (ht _ q_530) (fun _ h9 => h9) rfl (t_M_ok 15 (by decide)) (ckZ_n c36) (ckZ_f c36) (Nat.le_of_ble_eq_true rfl) d_M_note_24 (fun H locs hP hD hS => ?_)
  have hP : va_P (dC, dI) classes (WS_M_note g_this_tape g_this_above g_this_below g_this_limbs g_this_exact g_this_round g_this_out g_this_body h_this h_this_digit c_this_digit v_size v_kind v_number v_exponent v_aboveSize v_belowSize v_state v_digits v_behind v_power v_powerLess z1 v_plainDigits v_sixteen v_limbCount v_length v_point v_roundLength v_roundPoint v_written v_bodySize a_digit) H := hP
  have hD : va_D A (WS_M_note g_this_tape g_this_above g_this_below g_this_limbs g_this_exact g_this_round g_this_out g_this_body h_this h_this_digit c_this_digit v_size v_kind v_number v_exponent v_aboveSize v_belowSize v_state v_digits v_behind v_power v_powerLess z1 v_plainDigits v_sixteen v_limbCount v_length v_point v_roundLength v_roundPoint v_written v_bodySize a_digit) := hD
  refine lv_aload_n hx hb d_M_note_27 rfl (lv_at hl 0 rfl) ?_
  refine lv_aload_n hx hb d_M_note_28 rfl (lv_at hl 0 rfl) ?_
  refine va_get (D := (dC, dI)) (ci := 7) (v := .int v_sixteen) (C := R_M) (T := F_M) (N := 30) hx hb ht i_M hown hK hP 0 rfl rfl 17 (by decide) (ht _ q_529) (fun _ h9 => h9) rfl d_M_note_29 ?_
  refine lv_if_ne (tgt := 41) hx hb d_M_note_32 (by decide) (fun c37 => ?_) (fun c37 => ?_)
  · have h := if_f c37 h
    exact s_M_note_41 cx hK hA hX v_digits v_behind v_power v_powerLess z1 v_plainDigits v_sixteen a_digit y1 y2 H locs ls hP hD hS (lv_sub hl [0, 1, 2] rfl) h
  · have h := if_t c37 h
    refine lv_iload_n hx hb d_M_note_35 rfl (lv_at hl 1 rfl) ?_
    refine lv_bipush (v := 12) hx hb d_M_note_36 (by decide) ?_
    refine lv_icmp_ne (tgt := 45) hx hb d_M_note_38 (by decide) (fun c38 => ?_) (fun c38 => ?_)
    · have h := if_f c38 h
      refine lv_iconst (v := 0) hx hb d_M_note_45 (by decide) ?_
      exact s_M_note_46 cx hK hA hX v_digits v_behind v_power v_powerLess z1 v_plainDigits v_sixteen a_digit y1 y2 (0 : Int32) H locs ls hP hD hS (lv_sub hl [0, 1, 2] rfl) h
    · have h := if_t c38 h
      exact s_M_note_41 cx hK hA hX v_digits v_behind v_power v_powerLess z1 v_plainDigits v_sixteen a_digit y1 y2 H locs ls hP hD hS (lv_sub hl [0, 1, 2] rfl) h
set_option maxHeartbeats 4000000 in
set_option maxRecDepth 100000 in
theorem s_M_note_23 {p : Program} {l : Launch} {e : Env} {s : State} {m : MethodId} {args : Array Value} {below : List Frame} {meth : Method} {c : Code} {dC : Nat → ClassId} {dI : Nat → Nat → Nat} {A : Nat → Prop} {X : SXT} {g_this_tape : Nat} {g_this_above : Nat} {g_this_below : Nat} {g_this_limbs : Nat} {g_this_exact : Nat} {g_this_round : Nat} {g_this_out : Nat} {g_this_body : Nat} {h_this : Nat} {h_this_digit : Nat} {c_this_digit : ClassId} {v_size : Int32} {v_kind : Int32} {v_number : Int64} {v_exponent : Int32} {v_aboveSize : Int32} {v_belowSize : Int32} {v_state : Int32} {v_limbCount : Int32} {v_length : Int32} {v_point : Int32} {v_roundLength : Int32} {v_roundPoint : Int32} {v_written : Int32} {v_bodySize : Int32} {res : Int32 × Int32 × Int32 × Int32 × Int32 × Int32 × Int32 × (Nat → Int32)}  (cx : cxx p s m args meth c b_M_note 4 none R_M) (hK : va_K (dC, dI) classes [(c_this_digit, .byte)] s) (hA : ∀ q, s.heap.size ≤ q → A q) (hX : SX X A s s.heap)  : ∀ (v_digits : Int32) (v_behind : Int32) (v_power : Int32) (v_powerLess : Int32) (v_less : Int32) (v_plainDigits : Int32) (v_sixteen : Int32) (a_digit : (Nat → Int32)) (y1 : Int32) (y2 : Int32) (H : Heap) (locs : List Loc) (ls : Array Slot), va_P (dC, dI) classes (WS_M_note g_this_tape g_this_above g_this_below g_this_limbs g_this_exact g_this_round g_this_out g_this_body h_this h_this_digit c_this_digit v_size v_kind v_number v_exponent v_aboveSize v_belowSize v_state v_digits v_behind v_power v_powerLess v_less v_plainDigits v_sixteen v_limbCount v_length v_point v_roundLength v_roundPoint v_written v_bodySize a_digit) H → va_D A (WS_M_note g_this_tape g_this_above g_this_below g_this_limbs g_this_exact g_this_round g_this_out g_this_body h_this h_this_digit c_this_digit v_size v_kind v_number v_exponent v_aboveSize v_belowSize v_state v_digits v_behind v_power v_powerLess v_less v_plainDigits v_sixteen v_limbCount v_length v_point v_roundLength v_roundPoint v_written v_bodySize a_digit) → va_S A s.heap H locs → lv_has ls 4 [(0, .ref h_this), (1, .int y1), (2, .int y2)] → f_M_note_23 v_digits v_behind v_power v_powerLess v_less v_plainDigits v_sixteen a_digit y1 y2 = some res → W p l e ({ frames := 1, cells := 0, slots := 0, locals := 20 }) s m args below meth c H locs 0 0 (MQ below (va_Qv (fun (u : Int32 × Int32 × Int32 × Int32 × Int32 × Int32 × Int32 × (Nat → Int32)) => some u = some res) (gB (dC, dI) [(c_this_digit, .byte)] A (fun (u : Int32 × Int32 × Int32 × Int32 × Int32 × Int32 × Int32 × (Nat → Int32)) => (WS_M_note g_this_tape g_this_above g_this_below g_this_limbs g_this_exact g_this_round g_this_out g_this_body h_this h_this_digit c_this_digit v_size v_kind v_number v_exponent v_aboveSize v_belowSize v_state u.1 u.2.1 u.2.2.1 u.2.2.2.1 u.2.2.2.2.1 u.2.2.2.2.2.1 u.2.2.2.2.2.2.1 v_limbCount v_length v_point v_roundLength v_roundPoint v_written v_bodySize u.2.2.2.2.2.2.2))) A) args s 0 0 A) (F0 m 23 ls [.ref h_this]) := by
  intro v_digits v_behind v_power v_powerLess v_less v_plainDigits v_sixteen a_digit y1 y2 H locs ls hP hD hS hl h
  obtain ⟨hx, hb, hr, hml, hown, ht, hlk⟩ := id cx
  refine lv_iconst (v := 0) hx hb d_M_note_23 (by decide) ?_
  exact s_M_note_24 cx hK hA hX v_digits v_behind v_power v_powerLess v_less v_plainDigits v_sixteen a_digit y1 y2 (0 : Int32) H locs ls hP hD hS (lv_sub hl [0, 1, 2] rfl) h
set_option maxHeartbeats 4000000 in
set_option maxRecDepth 100000 in
theorem s_M_note_19 {p : Program} {l : Launch} {e : Env} {s : State} {m : MethodId} {args : Array Value} {below : List Frame} {meth : Method} {c : Code} {dC : Nat → ClassId} {dI : Nat → Nat → Nat} {A : Nat → Prop} {X : SXT} {g_this_tape : Nat} {g_this_above : Nat} {g_this_below : Nat} {g_this_limbs : Nat} {g_this_exact : Nat} {g_this_round : Nat} {g_this_out : Nat} {g_this_body : Nat} {h_this : Nat} {h_this_digit : Nat} {c_this_digit : ClassId} {v_size : Int32} {v_kind : Int32} {v_number : Int64} {v_exponent : Int32} {v_aboveSize : Int32} {v_belowSize : Int32} {v_state : Int32} {v_limbCount : Int32} {v_length : Int32} {v_point : Int32} {v_roundLength : Int32} {v_roundPoint : Int32} {v_written : Int32} {v_bodySize : Int32} {res : Int32 × Int32 × Int32 × Int32 × Int32 × Int32 × Int32 × (Nat → Int32)}  (cx : cxx p s m args meth c b_M_note 4 none R_M) (hK : va_K (dC, dI) classes [(c_this_digit, .byte)] s) (hA : ∀ q, s.heap.size ≤ q → A q) (hX : SX X A s s.heap)  : ∀ (v_digits : Int32) (v_behind : Int32) (v_power : Int32) (v_powerLess : Int32) (v_less : Int32) (v_plainDigits : Int32) (v_sixteen : Int32) (a_digit : (Nat → Int32)) (y1 : Int32) (y2 : Int32) (H : Heap) (locs : List Loc) (ls : Array Slot), va_P (dC, dI) classes (WS_M_note g_this_tape g_this_above g_this_below g_this_limbs g_this_exact g_this_round g_this_out g_this_body h_this h_this_digit c_this_digit v_size v_kind v_number v_exponent v_aboveSize v_belowSize v_state v_digits v_behind v_power v_powerLess v_less v_plainDigits v_sixteen v_limbCount v_length v_point v_roundLength v_roundPoint v_written v_bodySize a_digit) H → va_D A (WS_M_note g_this_tape g_this_above g_this_below g_this_limbs g_this_exact g_this_round g_this_out g_this_body h_this h_this_digit c_this_digit v_size v_kind v_number v_exponent v_aboveSize v_belowSize v_state v_digits v_behind v_power v_powerLess v_less v_plainDigits v_sixteen v_limbCount v_length v_point v_roundLength v_roundPoint v_written v_bodySize a_digit) → va_S A s.heap H locs → lv_has ls 4 [(0, .ref h_this), (1, .int y1), (2, .int y2)] → f_M_note_19 v_digits v_behind v_power v_powerLess v_less v_plainDigits v_sixteen a_digit y1 y2 = some res → W p l e ({ frames := 1, cells := 0, slots := 0, locals := 20 }) s m args below meth c H locs 0 0 (MQ below (va_Qv (fun (u : Int32 × Int32 × Int32 × Int32 × Int32 × Int32 × Int32 × (Nat → Int32)) => some u = some res) (gB (dC, dI) [(c_this_digit, .byte)] A (fun (u : Int32 × Int32 × Int32 × Int32 × Int32 × Int32 × Int32 × (Nat → Int32)) => (WS_M_note g_this_tape g_this_above g_this_below g_this_limbs g_this_exact g_this_round g_this_out g_this_body h_this h_this_digit c_this_digit v_size v_kind v_number v_exponent v_aboveSize v_belowSize v_state u.1 u.2.1 u.2.2.1 u.2.2.2.1 u.2.2.2.2.1 u.2.2.2.2.2.1 u.2.2.2.2.2.2.1 v_limbCount v_length v_point v_roundLength v_roundPoint v_written v_bodySize u.2.2.2.2.2.2.2))) A) args s 0 0 A) (F0 m 19 ls [.ref h_this]) := by
  intro v_digits v_behind v_power v_powerLess v_less v_plainDigits v_sixteen a_digit y1 y2 H locs ls hP hD hS hl h
  obtain ⟨hx, hb, hr, hml, hown, ht, hlk⟩ := id cx
  refine lv_iconst (v := 1) hx hb d_M_note_19 (by decide) ?_
  refine lv_goto (tgt := 24) hx hb d_M_note_20 (by decide) ?_
  exact s_M_note_24 cx hK hA hX v_digits v_behind v_power v_powerLess v_less v_plainDigits v_sixteen a_digit y1 y2 (1 : Int32) H locs ls hP hD hS (lv_sub hl [0, 1, 2] rfl) h
set_option maxHeartbeats 4000000 in
set_option maxRecDepth 100000 in
theorem s_M_note_e {p : Program} {l : Launch} {e : Env} {s : State} {m : MethodId} {args : Array Value} {below : List Frame} {meth : Method} {c : Code} {dC : Nat → ClassId} {dI : Nat → Nat → Nat} {A : Nat → Prop} {X : SXT} {g_this_tape : Nat} {g_this_above : Nat} {g_this_below : Nat} {g_this_limbs : Nat} {g_this_exact : Nat} {g_this_round : Nat} {g_this_out : Nat} {g_this_body : Nat} {h_this : Nat} {h_this_digit : Nat} {c_this_digit : ClassId} {v_size : Int32} {v_kind : Int32} {v_number : Int64} {v_exponent : Int32} {v_aboveSize : Int32} {v_belowSize : Int32} {v_state : Int32} {v_limbCount : Int32} {v_length : Int32} {v_point : Int32} {v_roundLength : Int32} {v_roundPoint : Int32} {v_written : Int32} {v_bodySize : Int32} {res : Int32 × Int32 × Int32 × Int32 × Int32 × Int32 × Int32 × (Nat → Int32)} (cx : cxx p s m args meth c b_M_note 4 none R_M) (hK : va_K (dC, dI) classes [(c_this_digit, .byte)] s) (hA : ∀ q, s.heap.size ≤ q → A q) (hX : SX X A s s.heap) : ∀ (v_digits : Int32) (v_behind : Int32) (v_power : Int32) (v_powerLess : Int32) (v_less : Int32) (v_plainDigits : Int32) (v_sixteen : Int32) (a_digit : (Nat → Int32)) (p1 : Int32) (p2 : Int32) (H : Heap) (locs : List Loc) (ls : Array Slot), va_P (dC, dI) classes (WS_M_note g_this_tape g_this_above g_this_below g_this_limbs g_this_exact g_this_round g_this_out g_this_body h_this h_this_digit c_this_digit v_size v_kind v_number v_exponent v_aboveSize v_belowSize v_state v_digits v_behind v_power v_powerLess v_less v_plainDigits v_sixteen v_limbCount v_length v_point v_roundLength v_roundPoint v_written v_bodySize a_digit) H → va_D A (WS_M_note g_this_tape g_this_above g_this_below g_this_limbs g_this_exact g_this_round g_this_out g_this_body h_this h_this_digit c_this_digit v_size v_kind v_number v_exponent v_aboveSize v_belowSize v_state v_digits v_behind v_power v_powerLess v_less v_plainDigits v_sixteen v_limbCount v_length v_point v_roundLength v_roundPoint v_written v_bodySize a_digit) → va_S A s.heap H locs → lv_has ls 4 [(0, .ref h_this), (1, .int p1), (2, .int p2)] → f_M_note v_digits v_behind v_power v_powerLess v_less v_plainDigits v_sixteen a_digit p1 p2 = some res → W p l e ({ frames := 1, cells := 0, slots := 0, locals := 20 }) s m args below meth c H locs 0 0 (MQ below (va_Qv (fun (u : Int32 × Int32 × Int32 × Int32 × Int32 × Int32 × Int32 × (Nat → Int32)) => some u = some res) (gB (dC, dI) [(c_this_digit, .byte)] A (fun (u : Int32 × Int32 × Int32 × Int32 × Int32 × Int32 × Int32 × (Nat → Int32)) => (WS_M_note g_this_tape g_this_above g_this_below g_this_limbs g_this_exact g_this_round g_this_out g_this_body h_this h_this_digit c_this_digit v_size v_kind v_number v_exponent v_aboveSize v_belowSize v_state u.1 u.2.1 u.2.2.1 u.2.2.2.1 u.2.2.2.2.1 u.2.2.2.2.2.1 u.2.2.2.2.2.2.1 v_limbCount v_length v_point v_roundLength v_roundPoint v_written v_bodySize u.2.2.2.2.2.2.2))) A) args s 0 0 A) (F0 m 0 ls []) := by
  intro v_digits v_behind v_power v_powerLess v_less v_plainDigits v_sixteen a_digit p1 p2 H locs ls hP hD hS hl h
  obtain ⟨hx, hb, hr, hml, hown, ht, hlk⟩ := id cx
  refine lv_aload_n hx hb d_M_note_0 rfl (lv_at hl 0 rfl) ?_
  refine lv_aload_n hx hb d_M_note_1 rfl (lv_at hl 0 rfl) ?_
  refine va_get (D := (dC, dI)) (ci := 7) (v := .int v_less) (C := R_M) (T := F_M) (N := 30) hx hb ht i_M hown hK hP 0 rfl rfl 15 (by decide) (ht _ q_530) (fun _ h9 => h9) rfl d_M_note_2 ?_
  refine lv_if_ne (tgt := 19) hx hb d_M_note_5 (by decide) (fun c39 => ?_) (fun c39 => ?_)
  · have h := if_f c39 h
    exact s_M_note_19 cx hK hA hX v_digits v_behind v_power v_powerLess v_less v_plainDigits v_sixteen a_digit p1 p2 H locs ls hP hD hS (lv_sub hl [0, 1, 2] rfl) h
  · have h := if_t c39 h
    refine lv_iload_n hx hb d_M_note_8 rfl (lv_at hl 1 rfl) ?_
    refine lv_iconst (v := 1) hx hb d_M_note_9 (by decide) ?_
    refine lv_icmp_ne (tgt := 23) hx hb d_M_note_10 (by decide) (fun c40 => ?_) (fun c40 => ?_)
    · have h := if_f c40 h
      exact s_M_note_23 cx hK hA hX v_digits v_behind v_power v_powerLess v_less v_plainDigits v_sixteen a_digit p1 p2 H locs ls hP hD hS (lv_sub hl [0, 1, 2] rfl) h
    · have h := if_t c40 h
      refine lv_iload_n hx hb d_M_note_13 rfl (lv_at hl 2 rfl) ?_
      refine lv_bipush (v := 45) hx hb d_M_note_14 (by decide) ?_
      refine lv_icmp_ne (tgt := 23) hx hb d_M_note_16 (by decide) (fun c41 => ?_) (fun c41 => ?_)
      · have h := if_f c41 h
        exact s_M_note_23 cx hK hA hX v_digits v_behind v_power v_powerLess v_less v_plainDigits v_sixteen a_digit p1 p2 H locs ls hP hD hS (lv_sub hl [0, 1, 2] rfl) h
      · have h := if_t c41 h
        exact s_M_note_19 cx hK hA hX v_digits v_behind v_power v_powerLess v_less v_plainDigits v_sixteen a_digit p1 p2 H locs ls hP hD hS (lv_sub hl [0, 1, 2] rfl) h
set_option maxHeartbeats 4000000 in
set_option maxRecDepth 100000 in
theorem c_M_note (l : Launch) (dC : Nat → ClassId) (dI : Nat → Nat → Nat) (X : SXT) (g_this_tape : Nat) (g_this_above : Nat) (g_this_below : Nat) (g_this_limbs : Nat) (g_this_exact : Nat) (g_this_round : Nat) (g_this_out : Nat) (g_this_body : Nat) (h_this : Nat) (h_this_digit : Nat) (c_this_digit : ClassId) (sz : Nat) (v_size : Int32) (v_kind : Int32) (v_number : Int64) (v_exponent : Int32) (v_aboveSize : Int32) (v_belowSize : Int32) (v_state : Int32) (v_digits : Int32) (v_behind : Int32) (v_power : Int32) (v_powerLess : Int32) (v_less : Int32) (v_plainDigits : Int32) (v_sixteen : Int32) (v_limbCount : Int32) (v_length : Int32) (v_point : Int32) (v_roundLength : Int32) (v_roundPoint : Int32) (v_written : Int32) (v_bodySize : Int32) (a_digit : (Nat → Int32)) (p1 : Int32) (p2 : Int32) (res : Int32 × Int32 × Int32 × Int32 × Int32 × Int32 × Int32 × (Nat → Int32)) (hf : f_M_note v_digits v_behind v_power v_powerLess v_less v_plainDigits v_sixteen a_digit p1 p2 = some res) : Met l y_M_note (.code y_M_note b_M_note 4 none :: w0) ({ frames := 1, cells := 0, slots := 0, locals := 20 }) (va_Pc [.ref h_this, .int p1, .int p2] (gP (dC, dI) (WS_M_note g_this_tape g_this_above g_this_below g_this_limbs g_this_exact g_this_round g_this_out g_this_body h_this h_this_digit c_this_digit v_size v_kind v_number v_exponent v_aboveSize v_belowSize v_state v_digits v_behind v_power v_powerLess v_less v_plainDigits v_sixteen v_limbCount v_length v_point v_roundLength v_roundPoint v_written v_bodySize a_digit) [(c_this_digit, .byte)] sz X)) (va_Qv (fun (u : Int32 × Int32 × Int32 × Int32 × Int32 × Int32 × Int32 × (Nat → Int32)) => some u = some res) (gB (dC, dI) [(c_this_digit, .byte)] (va_A (WS_M_note g_this_tape g_this_above g_this_below g_this_limbs g_this_exact g_this_round g_this_out g_this_body h_this h_this_digit c_this_digit v_size v_kind v_number v_exponent v_aboveSize v_belowSize v_state v_digits v_behind v_power v_powerLess v_less v_plainDigits v_sixteen v_limbCount v_length v_point v_roundLength v_roundPoint v_written v_bodySize a_digit) sz) (fun (u : Int32 × Int32 × Int32 × Int32 × Int32 × Int32 × Int32 × (Nat → Int32)) => (WS_M_note g_this_tape g_this_above g_this_below g_this_limbs g_this_exact g_this_round g_this_out g_this_body h_this h_this_digit c_this_digit v_size v_kind v_number v_exponent v_aboveSize v_belowSize v_state u.1 u.2.1 u.2.2.1 u.2.2.2.1 u.2.2.2.2.1 u.2.2.2.2.2.1 u.2.2.2.2.2.2.1 v_limbCount v_length v_point v_roundLength v_roundPoint v_written v_bodySize u.2.2.2.2.2.2.2))) (va_A (WS_M_note g_this_tape g_this_above g_this_below g_this_limbs g_this_exact g_this_round g_this_out g_this_body h_this h_this_digit c_this_digit v_size v_kind v_number v_exponent v_aboveSize v_belowSize v_state v_digits v_behind v_power v_powerLess v_less v_plainDigits v_sixteen v_limbCount v_length v_point v_roundLength v_roundPoint v_written v_bodySize a_digit) sz)) 0 0 (va_A (WS_M_note g_this_tape g_this_above g_this_below g_this_limbs g_this_exact g_this_round g_this_out g_this_body h_this h_this_digit c_this_digit v_size v_kind v_number v_exponent v_aboveSize v_belowSize v_state v_digits v_behind v_power v_powerLess v_less v_plainDigits v_sixteen v_limbCount v_length v_point v_roundLength v_roundPoint v_written v_bodySize a_digit) sz) := by
  refine Met.ofW (cc := b_M_note) (maxL := 4) (ret := none) (by decide) rfl ?_
  intro p e s m args below meth c s₁ B hml hv
  obtain ⟨rfl, hsz, hP, hK, hD0, hX⟩ := hv
  subst hsz
  have cx : cxx p s m ([.ref h_this, .int p1, .int p2] : List Value).toArray meth c b_M_note 4 none R_M := ⟨B.exec, B.bytes, B.returns, hml, findClass_of_methodNamed B.named, fun w9 hw => atoms_spec (ws := .code y_M_note b_M_note 4 none :: w0) B.pre w9 (List.mem_cons_of_mem _ hw), B.notSynchronized⟩
  have hD := hD0.self (sz := s.heap.size)
  generalize hAe : va_A (WS_M_note g_this_tape g_this_above g_this_below g_this_limbs g_this_exact g_this_round g_this_out g_this_body h_this h_this_digit c_this_digit v_size v_kind v_number v_exponent v_aboveSize v_belowSize v_state v_digits v_behind v_power v_powerLess v_less v_plainDigits v_sixteen v_limbCount v_length v_point v_roundLength v_roundPoint v_written v_bodySize a_digit) s.heap.size = A at hD hX ⊢
  have hA : ∀ q : Nat, s.heap.size ≤ q → A q := fun q h => by rw [← hAe]; exact Or.inr h
  have hS : va_S A s.heap s.heap [] := va_S.rf
  have hl := lv_entry ([.ref h_this, .int p1, .int p2]) (n := 4) (Nat.le_of_ble_eq_true rfl)
  rw [lg_entry_eq]
  generalize (lg_sl ([.ref h_this, .int p1, .int p2]) ++ List.replicate (4 - (lg_sl ([.ref h_this, .int p1, .int p2])).length) Slot.unset).toArray = ls at hl ⊢
  have hl : lv_has ls 4 [(0, .ref h_this), (1, .int p1), (2, .int p2)] := hl
  exact s_M_note_e cx hK hA hX v_digits v_behind v_power v_powerLess v_less v_plainDigits v_sixteen a_digit p1 p2 s.heap [] ls hP hD hS hl hf

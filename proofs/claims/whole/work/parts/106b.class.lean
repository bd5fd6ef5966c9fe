def f_Writer_neededOf16_3b (k3 : Int64 → Int32 → Option (Int32)) (y0 : Int64) (y2 : Int32) : Option (Int32) :=
  if y2 ≤ 0 then
    some y2
  else
    if ((lus y0 ((4 : Int32) * ((13 : Int32) - y2))) &&& (15 : Int64)) = (0 : Int64) then
      bd (y2 + (-1 : Int32)) fun x3 =>
      k3 y0 x3
    else
      some y2
def f_Writer_neededOf16_3 : Nat → Int64 → Int32 → Option (Int32)
  | 0 => fun _ _ => none
  | n + 1 => fun y0 y2 => f_Writer_neededOf16_3b (f_Writer_neededOf16_3 n) y0 y2
def f_Writer_neededOf16 (p0 : Int64) : Option (Int32) :=
  f_Writer_neededOf16_3 fu p0 (13 : Int32)
set_option maxHeartbeats 4000000 in
set_option maxRecDepth 100000 in
theorem s_Writer_neededOf16_3b {p : Program} {l : Launch} {e : Env} {s : State} {m : MethodId} {args : Array Value} {below : List Frame} {meth : Method} {c : Code} {dC : Nat → ClassId} {dI : Nat → Nat → Nat} {A : Nat → Prop} {X : SXT} {res : Int32} {k3 : Int64 → Int32 → Option (Int32)} (cx : cxx p s m args meth c b_Writer_neededOf16 3 (some .int) R_Writer) (hK : va_K (dC, dI) classes [] s) (hA : ∀ q, s.heap.size ≤ q → A q) (hX : SX X A s s.heap) (hk3 : ∀ (y0 : Int64) (y2 : Int32) (H : Heap) (locs : List Loc) (ls : Array Slot), va_P (dC, dI) classes [] H → va_D A [] → va_S A s.heap H locs → lv_has ls 3 [(0, .long y0), (2, .int y2)] → k3 y0 y2 = some res → W p l e ({ frames := 0, cells := 0, slots := 0, locals := 0 }) s m args below meth c H locs 0 0 (MQ below (va_Qi (fun (r : Int32) (_ : Unit) => some r = some res) (gB (dC, dI) [] A (fun (u : Unit) => [])) A) args s 0 0 A) (F0 m 3 ls [])) : ∀ (y0 : Int64) (y2 : Int32) (H : Heap) (locs : List Loc) (ls : Array Slot), va_P (dC, dI) classes [] H → va_D A [] → va_S A s.heap H locs → lv_has ls 3 [(0, .long y0), (2, .int y2)] → f_Writer_neededOf16_3b k3 y0 y2 = some res → W p l e ({ frames := 0, cells := 0, slots := 0, locals := 0 }) s m args below meth c H locs 0 0 (MQ below (va_Qi (fun (r : Int32) (_ : Unit) => some r = some res) (gB (dC, dI) [] A (fun (u : Unit) => [])) A) args s 0 0 A) (F0 m 3 ls []) := by
  intro y0 y2 H locs ls hP hD hS hl h
  obtain ⟨hx, hb, hr, hml, hown, ht, hlk⟩ := id cx
  refine lv_iload_n hx hb d_Writer_neededOf16_3 rfl (lv_at hl 1 rfl) ?_
  refine lv_if_le (tgt := 30) hx hb d_Writer_neededOf16_4 (by decide) (fun c1 => ?_) (fun c1 => ?_)
  · have h := if_t c1 h
    refine lv_iload_n hx hb d_Writer_neededOf16_30 rfl (lv_at hl 1 rfl) ?_
    exact W.iret (v := y2) hx hb hr (fun t ht9 hW => ⟨⟨y2, (), rfl, h, by rw [ht9]; exact hP, va_K.moved hW.alike hK, hD⟩, hS.F ht9⟩) hS.2.2 d_Writer_neededOf16_31 hlk
  · have h := if_f c1 h
    refine lv_lload_n hx hb d_Writer_neededOf16_7 rfl (lv_at hl 0 rfl) ?_
    refine lv_iconst (v := 4) hx hb d_Writer_neededOf16_8 (by decide) ?_
    refine lv_bipush (v := 13) hx hb d_Writer_neededOf16_9 (by decide) ?_
    refine lv_iload_n hx hb d_Writer_neededOf16_11 rfl (lv_at hl 1 rfl) ?_
    refine lv_isub hx hb d_Writer_neededOf16_12 ?_
    refine lv_imul hx hb d_Writer_neededOf16_13 ?_
    refine lv_lushr (v := lus y0 ((4 : Int32) * ((13 : Int32) - y2))) hx hb d_Writer_neededOf16_14 rfl ?_
    refine lv_ldc2 (v := 15) hx hb hown (ht _ q_270) d_Writer_neededOf16_15 ?_
    refine lv_land hx hb d_Writer_neededOf16_18 ?_
    refine lv_lconst (v := 0) hx hb d_Writer_neededOf16_19 (by decide) ?_
    refine W.lcmp hx hb d_Writer_neededOf16_20 ?_
    refine lv_if_ne (tgt := 30) hx hb d_Writer_neededOf16_21 (by decide) (fun c2 => ?_) (fun c2 => ?_)
    · have c2 := fun h9 => c2 ((lg_cmp_eq _ _).mpr h9)
      have h := if_f c2 h
      refine lv_iload_n hx hb d_Writer_neededOf16_30 rfl (lv_at hl 1 rfl) ?_
      exact W.iret (v := y2) hx hb hr (fun t ht9 hW => ⟨⟨y2, (), rfl, h, by rw [ht9]; exact hP, va_K.moved hW.alike hK, hD⟩, hS.F ht9⟩) hS.2.2 d_Writer_neededOf16_31 hlk
    · have c2 := (lg_cmp_eq _ _).mp c2
      have h := if_t c2 h
      obtain ⟨x3, e_x3⟩ : ∃ y : Int32, y = y2 + (-1 : Int32) := ⟨_, rfl⟩
      refine lv_iinc (v := x3) (lv' := [(2, .int x3), (0, .long y0)]) hx hb d_Writer_neededOf16_24 hl (k := 1) rfl (by rw [e_x3]; rfl) (by decide) rfl (fun ls hl => ?_)
      have h := bd_g e_x3 h
      refine lv_goto (tgt := 3) hx hb d_Writer_neededOf16_27 (by decide) ?_
      exact hk3 y0 x3 H locs ls hP hD hS (lv_sub hl [1, 0] rfl) h
set_option maxHeartbeats 4000000 in
set_option maxRecDepth 100000 in
theorem s_Writer_neededOf16_3 {p : Program} {l : Launch} {e : Env} {s : State} {m : MethodId} {args : Array Value} {below : List Frame} {meth : Method} {c : Code} {dC : Nat → ClassId} {dI : Nat → Nat → Nat} {A : Nat → Prop} {X : SXT} {res : Int32}  (cx : cxx p s m args meth c b_Writer_neededOf16 3 (some .int) R_Writer) (hK : va_K (dC, dI) classes [] s) (hA : ∀ q, s.heap.size ≤ q → A q) (hX : SX X A s s.heap)  : ∀ n : Nat, ∀ (y0 : Int64) (y2 : Int32) (H : Heap) (locs : List Loc) (ls : Array Slot), va_P (dC, dI) classes [] H → va_D A [] → va_S A s.heap H locs → lv_has ls 3 [(0, .long y0), (2, .int y2)] → f_Writer_neededOf16_3 n y0 y2 = some res → W p l e ({ frames := 0, cells := 0, slots := 0, locals := 0 }) s m args below meth c H locs 0 0 (MQ below (va_Qi (fun (r : Int32) (_ : Unit) => some r = some res) (gB (dC, dI) [] A (fun (u : Unit) => [])) A) args s 0 0 A) (F0 m 3 ls []) := by
  intro n
  induction n with
  | zero =>
    intro y0 y2 H locs ls hP hD hS hl h
    have h9 : (none : Option (Int32)) = some res := h
    cases h9
  | succ n ih =>
    intro y0 y2 H locs ls hP hD hS hl h
    exact s_Writer_neededOf16_3b cx hK hA hX ih y0 y2 H locs ls hP hD hS hl h
set_option maxHeartbeats 4000000 in
set_option maxRecDepth 100000 in
theorem s_Writer_neededOf16_e {p : Program} {l : Launch} {e : Env} {s : State} {m : MethodId} {args : Array Value} {below : List Frame} {meth : Method} {c : Code} {dC : Nat → ClassId} {dI : Nat → Nat → Nat} {A : Nat → Prop} {X : SXT} {res : Int32} (cx : cxx p s m args meth c b_Writer_neededOf16 3 (some .int) R_Writer) (hK : va_K (dC, dI) classes [] s) (hA : ∀ q, s.heap.size ≤ q → A q) (hX : SX X A s s.heap) : ∀ (p0 : Int64) (H : Heap) (locs : List Loc) (ls : Array Slot), va_P (dC, dI) classes [] H → va_D A [] → va_S A s.heap H locs → lv_has ls 3 [(0, .long p0)] → f_Writer_neededOf16 p0 = some res → W p l e ({ frames := 0, cells := 0, slots := 0, locals := 0 }) s m args below meth c H locs 0 0 (MQ below (va_Qi (fun (r : Int32) (_ : Unit) => some r = some res) (gB (dC, dI) [] A (fun (u : Unit) => [])) A) args s 0 0 A) (F0 m 0 ls []) := by
  intro p0 H locs ls hP hD hS hl h
  obtain ⟨hx, hb, hr, hml, hown, ht, hlk⟩ := id cx
  refine lv_bipush (v := 13) hx hb d_Writer_neededOf16_0 (by decide) ?_
  refine lv_istore_n (lv' := [(2, .int (13 : Int32)), (0, .long p0)]) hx hb d_Writer_neededOf16_2 rfl hl (by decide) rfl (fun ls hl => ?_)
  exact s_Writer_neededOf16_3 cx hK hA hX fu p0 (13 : Int32) H locs ls hP hD hS (lv_sub hl [1, 0] rfl) h
set_option maxHeartbeats 4000000 in
set_option maxRecDepth 100000 in
theorem c_Writer_neededOf16 (l : Launch) (dC : Nat → ClassId) (dI : Nat → Nat → Nat) (X : SXT) (sz : Nat) (p0 : Int64) (res : Int32) (hf : f_Writer_neededOf16 p0 = some res) : Met l y_Writer_neededOf16 (.code y_Writer_neededOf16 b_Writer_neededOf16 3 (some .int) :: w0) ({ frames := 0, cells := 0, slots := 0, locals := 0 }) (va_Pc [.long p0] (gP (dC, dI) [] [] sz X)) (va_Qi (fun (r : Int32) (_ : Unit) => some r = some res) (gB (dC, dI) [] (va_A [] sz) (fun (u : Unit) => [])) (va_A [] sz)) 0 0 (va_A [] sz) := by
  refine Met.ofW (cc := b_Writer_neededOf16) (maxL := 3) (ret := (some .int)) (by decide) rfl ?_
  intro p e s m args below meth c s₁ B hml hv
  obtain ⟨rfl, hsz, hP, hK, hD0, hX⟩ := hv
  subst hsz
  have cx : cxx p s m ([.long p0] : List Value).toArray meth c b_Writer_neededOf16 3 (some .int) R_Writer := ⟨B.exec, B.bytes, B.returns, hml, findClass_of_methodNamed B.named, fun w9 hw => atoms_spec (ws := .code y_Writer_neededOf16 b_Writer_neededOf16 3 (some .int) :: w0) B.pre w9 (List.mem_cons_of_mem _ hw), B.notSynchronized⟩
  have hD := hD0.self (sz := s.heap.size)
  generalize hAe : va_A [] s.heap.size = A at hD hX ⊢
  have hA : ∀ q : Nat, s.heap.size ≤ q → A q := fun q h => by rw [← hAe]; exact Or.inr h
  have hS : va_S A s.heap s.heap [] := va_S.rf
  have hl := lv_entry ([.long p0]) (n := 3) (Nat.le_of_ble_eq_true rfl)
  rw [lg_entry_eq]
  generalize (lg_sl ([.long p0]) ++ List.replicate (3 - (lg_sl ([.long p0])).length) Slot.unset).toArray = ls at hl ⊢
  have hl : lv_has ls 3 [(0, .long p0)] := hl
  exact s_Writer_neededOf16_e cx hK hA hX p0 s.heap [] ls hP hD hS hl hf
def f_Writer_roundedOf16_65 (y3 : Int32) (y4 : Int64) (z0 : Int32) : Option (Int64) :=
  if z0 = 0 then
    some (lsl y4 y3)
  else
    some (lsl (y4 + (1 : Int64)) y3)
def f_Writer_roundedOf16_64 (y3 : Int32) (y4 : Int64) : Option (Int64) :=
  f_Writer_roundedOf16_65 y3 y4 (0 : Int32)
def f_Writer_roundedOf16_60 (y3 : Int32) (y4 : Int64) : Option (Int64) :=
  f_Writer_roundedOf16_65 y3 y4 (1 : Int32)
def f_Writer_roundedOf16 (p0 : Int64) (p2 : Int32) : Option (Int64) :=
  if p2 < (13 : Int32) then
    bd ((4 : Int32) * ((13 : Int32) - p2)) fun x3 =>
    bd (lus p0 x3) fun x4 =>
    bd (p0 - (lsl x4 x3)) fun x5 =>
    bd (lsl (1 : Int64) (x3 - (1 : Int32))) fun x6 =>
    if x6 < x5 then
      f_Writer_roundedOf16_60 x3 x4
    else
      if x5 = x6 then
        if (x4 &&& (1 : Int64)) = (1 : Int64) then
          f_Writer_roundedOf16_60 x3 x4
        else
          f_Writer_roundedOf16_64 x3 x4
      else
        f_Writer_roundedOf16_64 x3 x4
  else
    some p0
set_option maxHeartbeats 4000000 in
set_option maxRecDepth 100000 in
theorem s_Writer_roundedOf16_65 {p : Program} {l : Launch} {e : Env} {s : State} {m : MethodId} {args : Array Value} {below : List Frame} {meth : Method} {c : Code} {dC : Nat → ClassId} {dI : Nat → Nat → Nat} {A : Nat → Prop} {X : SXT} {res : Int64}  (cx : cxx p s m args meth c b_Writer_roundedOf16 11 (some .long) R_Writer) (hK : va_K (dC, dI) classes [] s) (hA : ∀ q, s.heap.size ≤ q → A q) (hX : SX X A s s.heap)  : ∀ (y3 : Int32) (y4 : Int64) (z0 : Int32) (H : Heap) (locs : List Loc) (ls : Array Slot), va_P (dC, dI) classes [] H → va_D A [] → va_S A s.heap H locs → lv_has ls 11 [(3, .int y3), (4, .long y4)] → f_Writer_roundedOf16_65 y3 y4 z0 = some res → W p l e ({ frames := 0, cells := 0, slots := 0, locals := 0 }) s m args below meth c H locs 0 0 (MQ below (va_Ql (fun (r : Int64) (_ : Unit) => some r = some res) (gB (dC, dI) [] A (fun (u : Unit) => [])) A) args s 0 0 A) (F0 m 65 ls [.int z0]) := by
  intro y3 y4 z0 H locs ls hP hD hS hl h
  obtain ⟨hx, hb, hr, hml, hown, ht, hlk⟩ := id cx
  refine lv_istore (lv' := [(10, .int z0), (3, .int y3), (4, .long y4)]) hx hb d_Writer_roundedOf16_65 hl (by decide) rfl (fun ls hl => ?_)
  refine lv_iload hx hb d_Writer_roundedOf16_67 (lv_at hl 0 rfl) ?_
  refine lv_if_eq (tgt := 79) hx hb d_Writer_roundedOf16_69 (by decide) (fun c1 => ?_) (fun c1 => ?_)
  · have h := if_t c1 h
    refine lv_lload hx hb d_Writer_roundedOf16_79 (lv_at hl 2 rfl) ?_
    refine lv_iload_n hx hb d_Writer_roundedOf16_81 rfl (lv_at hl 1 rfl) ?_
    refine lv_lshl (v := lsl y4 y3) hx hb d_Writer_roundedOf16_82 rfl ?_
    exact W.lret (v := (lsl y4 y3)) hx hb hr (fun t ht9 hW => ⟨⟨(lsl y4 y3), (), rfl, h, by rw [ht9]; exact hP, va_K.moved hW.alike hK, hD⟩, hS.F ht9⟩) hS.2.2 d_Writer_roundedOf16_83 hlk
  · have h := if_f c1 h
    refine lv_lload hx hb d_Writer_roundedOf16_72 (lv_at hl 2 rfl) ?_
    refine lv_lconst (v := 1) hx hb d_Writer_roundedOf16_74 (by decide) ?_
    refine lv_ladd hx hb d_Writer_roundedOf16_75 ?_
    refine lv_goto (tgt := 81) hx hb d_Writer_roundedOf16_76 (by decide) ?_
    refine lv_iload_n hx hb d_Writer_roundedOf16_81 rfl (lv_at hl 1 rfl) ?_
    refine lv_lshl (v := lsl (y4 + (1 : Int64)) y3) hx hb d_Writer_roundedOf16_82 rfl ?_
    exact W.lret (v := (lsl (y4 + (1 : Int64)) y3)) hx hb hr (fun t ht9 hW => ⟨⟨(lsl (y4 + (1 : Int64)) y3), (), rfl, h, by rw [ht9]; exact hP, va_K.moved hW.alike hK, hD⟩, hS.F ht9⟩) hS.2.2 d_Writer_roundedOf16_83 hlk
set_option maxHeartbeats 4000000 in
set_option maxRecDepth 100000 in
theorem s_Writer_roundedOf16_64 {p : Program} {l : Launch} {e : Env} {s : State} {m : MethodId} {args : Array Value} {below : List Frame} {meth : Method} {c : Code} {dC : Nat → ClassId} {dI : Nat → Nat → Nat} {A : Nat → Prop} {X : SXT} {res : Int64}  (cx : cxx p s m args meth c b_Writer_roundedOf16 11 (some .long) R_Writer) (hK : va_K (dC, dI) classes [] s) (hA : ∀ q, s.heap.size ≤ q → A q) (hX : SX X A s s.heap)  : ∀ (y3 : Int32) (y4 : Int64) (H : Heap) (locs : List Loc) (ls : Array Slot), va_P (dC, dI) classes [] H → va_D A [] → va_S A s.heap H locs → lv_has ls 11 [(3, .int y3), (4, .long y4)] → f_Writer_roundedOf16_64 y3 y4 = some res → W p l e ({ frames := 0, cells := 0, slots := 0, locals := 0 }) s m args below meth c H locs 0 0 (MQ below (va_Ql (fun (r : Int64) (_ : Unit) => some r = some res) (gB (dC, dI) [] A (fun (u : Unit) => [])) A) args s 0 0 A) (F0 m 64 ls []) := by
  intro y3 y4 H locs ls hP hD hS hl h
  obtain ⟨hx, hb, hr, hml, hown, ht, hlk⟩ := id cx
  refine lv_iconst (v := 0) hx hb d_Writer_roundedOf16_64 (by decide) ?_
  exact s_Writer_roundedOf16_65 cx hK hA hX y3 y4 (0 : Int32) H locs ls hP hD hS (lv_sub hl [0, 1] rfl) h
set_option maxHeartbeats 4000000 in
set_option maxRecDepth 100000 in
theorem s_Writer_roundedOf16_60 {p : Program} {l : Launch} {e : Env} {s : State} {m : MethodId} {args : Array Value} {below : List Frame} {meth : Method} {c : Code} {dC : Nat → ClassId} {dI : Nat → Nat → Nat} {A : Nat → Prop} {X : SXT} {res : Int64}  (cx : cxx p s m args meth c b_Writer_roundedOf16 11 (some .long) R_Writer) (hK : va_K (dC, dI) classes [] s) (hA : ∀ q, s.heap.size ≤ q → A q) (hX : SX X A s s.heap)  : ∀ (y3 : Int32) (y4 : Int64) (H : Heap) (locs : List Loc) (ls : Array Slot), va_P (dC, dI) classes [] H → va_D A [] → va_S A s.heap H locs → lv_has ls 11 [(3, .int y3), (4, .long y4)] → f_Writer_roundedOf16_60 y3 y4 = some res → W p l e ({ frames := 0, cells := 0, slots := 0, locals := 0 }) s m args below meth c H locs 0 0 (MQ below (va_Ql (fun (r : Int64) (_ : Unit) => some r = some res) (gB (dC, dI) [] A (fun (u : Unit) => [])) A) args s 0 0 A) (F0 m 60 ls []) := by
  intro y3 y4 H locs ls hP hD hS hl h
  obtain ⟨hx, hb, hr, hml, hown, ht, hlk⟩ := id cx
  refine lv_iconst (v := 1) hx hb d_Writer_roundedOf16_60 (by decide) ?_
  refine lv_goto (tgt := 65) hx hb d_Writer_roundedOf16_61 (by decide) ?_
  exact s_Writer_roundedOf16_65 cx hK hA hX y3 y4 (1 : Int32) H locs ls hP hD hS (lv_sub hl [0, 1] rfl) h
set_option maxHeartbeats 4000000 in
set_option maxRecDepth 100000 in
theorem s_Writer_roundedOf16_e {p : Program} {l : Launch} {e : Env} {s : State} {m : MethodId} {args : Array Value} {below : List Frame} {meth : Method} {c : Code} {dC : Nat → ClassId} {dI : Nat → Nat → Nat} {A : Nat → Prop} {X : SXT} {res : Int64} (cx : cxx p s m args meth c b_Writer_roundedOf16 11 (some .long) R_Writer) (hK : va_K (dC, dI) classes [] s) (hA : ∀ q, s.heap.size ≤ q → A q) (hX : SX X A s s.heap) : ∀ (p0 : Int64) (p2 : Int32) (H : Heap) (locs : List Loc) (ls : Array Slot), va_P (dC, dI) classes [] H → va_D A [] → va_S A s.heap H locs → lv_has ls 11 [(0, .long p0), (2, .int p2)] → f_Writer_roundedOf16 p0 p2 = some res → W p l e ({ frames := 0, cells := 0, slots := 0, locals := 0 }) s m args below meth c H locs 0 0 (MQ below (va_Ql (fun (r : Int64) (_ : Unit) => some r = some res) (gB (dC, dI) [] A (fun (u : Unit) => [])) A) args s 0 0 A) (F0 m 0 ls []) := by
  intro p0 p2 H locs ls hP hD hS hl h
  obtain ⟨hx, hb, hr, hml, hown, ht, hlk⟩ := id cx
  refine lv_iload_n hx hb d_Writer_roundedOf16_0 rfl (lv_at hl 1 rfl) ?_
  refine lv_bipush (v := 13) hx hb d_Writer_roundedOf16_1 (by decide) ?_
  refine lv_icmp_lt (tgt := 8) hx hb d_Writer_roundedOf16_3 (by decide) (fun c2 => ?_) (fun c2 => ?_)
  · have h := if_t c2 h
    refine lv_iconst (v := 4) hx hb d_Writer_roundedOf16_8 (by decide) ?_
    refine lv_bipush (v := 13) hx hb d_Writer_roundedOf16_9 (by decide) ?_
    refine lv_iload_n hx hb d_Writer_roundedOf16_11 rfl (lv_at hl 1 rfl) ?_
    refine lv_isub hx hb d_Writer_roundedOf16_12 ?_
    refine lv_imul hx hb d_Writer_roundedOf16_13 ?_
    refine lv_topi (fun x3 e_x3 => ?_)
    have h := bd_g e_x3 h
    refine lv_istore_n (lv' := [(3, .int x3), (0, .long p0), (2, .int p2)]) hx hb d_Writer_roundedOf16_14 rfl hl (by decide) rfl (fun ls hl => ?_)
    refine lv_lload_n hx hb d_Writer_roundedOf16_15 rfl (lv_at hl 1 rfl) ?_
    refine lv_iload_n hx hb d_Writer_roundedOf16_16 rfl (lv_at hl 0 rfl) ?_
    refine lv_lushr (v := lus p0 x3) hx hb d_Writer_roundedOf16_17 rfl ?_
    refine lv_topl (fun x4 e_x4 => ?_)
    have h := bd_g e_x4 h
    refine lv_lstore (lv' := [(4, .long x4), (3, .int x3), (0, .long p0), (2, .int p2)]) hx hb d_Writer_roundedOf16_18 hl (by decide) rfl (fun ls hl => ?_)
    refine lv_lload_n hx hb d_Writer_roundedOf16_20 rfl (lv_at hl 2 rfl) ?_
    refine lv_lload hx hb d_Writer_roundedOf16_21 (lv_at hl 0 rfl) ?_
    refine lv_iload_n hx hb d_Writer_roundedOf16_23 rfl (lv_at hl 1 rfl) ?_
    refine lv_lshl (v := lsl x4 x3) hx hb d_Writer_roundedOf16_24 rfl ?_
    refine lv_lsub hx hb d_Writer_roundedOf16_25 ?_
    refine lv_topl (fun x5 e_x5 => ?_)
    have h := bd_g e_x5 h
    refine lv_lstore (lv' := [(6, .long x5), (4, .long x4), (3, .int x3), (0, .long p0), (2, .int p2)]) hx hb d_Writer_roundedOf16_26 hl (by decide) rfl (fun ls hl => ?_)
    refine lv_lconst (v := 1) hx hb d_Writer_roundedOf16_28 (by decide) ?_
    refine lv_iload_n hx hb d_Writer_roundedOf16_29 rfl (lv_at hl 2 rfl) ?_
    refine lv_iconst (v := 1) hx hb d_Writer_roundedOf16_30 (by decide) ?_
    refine lv_isub hx hb d_Writer_roundedOf16_31 ?_
    refine lv_lshl (v := lsl (1 : Int64) (x3 - (1 : Int32))) hx hb d_Writer_roundedOf16_32 rfl ?_
    refine lv_topl (fun x6 e_x6 => ?_)
    have h := bd_g e_x6 h
    refine lv_lstore (lv' := [(8, .long x6), (6, .long x5), (4, .long x4), (3, .int x3), (0, .long p0), (2, .int p2)]) hx hb d_Writer_roundedOf16_33 hl (by decide) rfl (fun ls hl => ?_)
    refine lv_lload hx hb d_Writer_roundedOf16_35 (lv_at hl 1 rfl) ?_
    refine lv_lload hx hb d_Writer_roundedOf16_37 (lv_at hl 0 rfl) ?_
    refine W.lcmp hx hb d_Writer_roundedOf16_39 ?_
    refine lv_if_gt (tgt := 60) hx hb d_Writer_roundedOf16_40 (by decide) (fun c7 => ?_) (fun c7 => ?_)
    · have c7 := (lg_cmp_gt _ _).mp c7
      have h := if_t c7 h
      exact s_Writer_roundedOf16_60 cx hK hA hX x3 x4 H locs ls hP hD hS (lv_sub hl [3, 2] rfl) h
    · have c7 := fun h9 => c7 ((lg_cmp_gt _ _).mpr h9)
      have h := if_f c7 h
      refine lv_lload hx hb d_Writer_roundedOf16_43 (lv_at hl 1 rfl) ?_
      refine lv_lload hx hb d_Writer_roundedOf16_45 (lv_at hl 0 rfl) ?_
      refine W.lcmp hx hb d_Writer_roundedOf16_47 ?_
      refine lv_if_ne (tgt := 64) hx hb d_Writer_roundedOf16_48 (by decide) (fun c8 => ?_) (fun c8 => ?_)
      · have c8 := fun h9 => c8 ((lg_cmp_eq _ _).mpr h9)
        have h := if_f c8 h
        exact s_Writer_roundedOf16_64 cx hK hA hX x3 x4 H locs ls hP hD hS (lv_sub hl [3, 2] rfl) h
      · have c8 := (lg_cmp_eq _ _).mp c8
        have h := if_t c8 h
        refine lv_lload hx hb d_Writer_roundedOf16_51 (lv_at hl 2 rfl) ?_
        refine lv_lconst (v := 1) hx hb d_Writer_roundedOf16_53 (by decide) ?_
        refine lv_land hx hb d_Writer_roundedOf16_54 ?_
        refine lv_lconst (v := 1) hx hb d_Writer_roundedOf16_55 (by decide) ?_
        refine W.lcmp hx hb d_Writer_roundedOf16_56 ?_
        refine lv_if_ne (tgt := 64) hx hb d_Writer_roundedOf16_57 (by decide) (fun c9 => ?_) (fun c9 => ?_)
        · have c9 := fun h9 => c9 ((lg_cmp_eq _ _).mpr h9)
          have h := if_f c9 h
          exact s_Writer_roundedOf16_64 cx hK hA hX x3 x4 H locs ls hP hD hS (lv_sub hl [3, 2] rfl) h
        · have c9 := (lg_cmp_eq _ _).mp c9
          have h := if_t c9 h
          exact s_Writer_roundedOf16_60 cx hK hA hX x3 x4 H locs ls hP hD hS (lv_sub hl [3, 2] rfl) h
  · have h := if_f c2 h
    refine lv_lload_n hx hb d_Writer_roundedOf16_6 rfl (lv_at hl 0 rfl) ?_
    exact W.lret (v := p0) hx hb hr (fun t ht9 hW => ⟨⟨p0, (), rfl, h, by rw [ht9]; exact hP, va_K.moved hW.alike hK, hD⟩, hS.F ht9⟩) hS.2.2 d_Writer_roundedOf16_7 hlk
set_option maxHeartbeats 4000000 in
set_option maxRecDepth 100000 in
theorem c_Writer_roundedOf16 (l : Launch) (dC : Nat → ClassId) (dI : Nat → Nat → Nat) (X : SXT) (sz : Nat) (p0 : Int64) (p2 : Int32) (res : Int64) (hf : f_Writer_roundedOf16 p0 p2 = some res) : Met l y_Writer_roundedOf16 (.code y_Writer_roundedOf16 b_Writer_roundedOf16 11 (some .long) :: w0) ({ frames := 0, cells := 0, slots := 0, locals := 0 }) (va_Pc [.long p0, .int p2] (gP (dC, dI) [] [] sz X)) (va_Ql (fun (r : Int64) (_ : Unit) => some r = some res) (gB (dC, dI) [] (va_A [] sz) (fun (u : Unit) => [])) (va_A [] sz)) 0 0 (va_A [] sz) := by
  refine Met.ofW (cc := b_Writer_roundedOf16) (maxL := 11) (ret := (some .long)) (by decide) rfl ?_
  intro p e s m args below meth c s₁ B hml hv
  obtain ⟨rfl, hsz, hP, hK, hD0, hX⟩ := hv
  subst hsz
  have cx : cxx p s m ([.long p0, .int p2] : List Value).toArray meth c b_Writer_roundedOf16 11 (some .long) R_Writer := ⟨B.exec, B.bytes, B.returns, hml, findClass_of_methodNamed B.named, fun w9 hw => atoms_spec (ws := .code y_Writer_roundedOf16 b_Writer_roundedOf16 11 (some .long) :: w0) B.pre w9 (List.mem_cons_of_mem _ hw), B.notSynchronized⟩
  have hD := hD0.self (sz := s.heap.size)
  generalize hAe : va_A [] s.heap.size = A at hD hX ⊢
  have hA : ∀ q : Nat, s.heap.size ≤ q → A q := fun q h => by rw [← hAe]; exact Or.inr h
  have hS : va_S A s.heap s.heap [] := va_S.rf
  have hl := lv_entry ([.long p0, .int p2]) (n := 11) (Nat.le_of_ble_eq_true rfl)
  rw [lg_entry_eq]
  generalize (lg_sl ([.long p0, .int p2]) ++ List.replicate (11 - (lg_sl ([.long p0, .int p2])).length) Slot.unset).toArray = ls at hl ⊢
  have hl : lv_has ls 11 [(0, .long p0), (2, .int p2)] := hl
  exact s_Writer_roundedOf16_e cx hK hA hX p0 p2 s.heap [] ls hP hD hS hl hf
abbrev WS_Writer_putPoint (g_this_exact : Nat) (g_this_digits : Nat) (h_this : Nat) (h_this_page : Nat) (h_this_page_row : Nat) (c_this_page_row : ClassId) (v_count : Int32) (v_letter : Int32) (v_flags : Int32) (v_width : Int32) (v_precision : Int32) (v_page_length : Int32) (a_page_row : (Nat → Int32)) : va_W := [(h_this, .inr (6, [.ref h_this_page, .ref g_this_exact, .ref g_this_digits, .int v_count, .int v_letter, .int v_flags, .int v_width, .int v_precision])), (h_this_page, .inr (5, [.ref h_this_page_row, .int v_page_length])), (h_this_page_row, .inl (c_this_page_row, 420, .inl a_page_row))]
def f_Writer_putPoint_13 (v_flags : Int32) (v_page_length : Int32) (a_page_row : (Nat → Int32)) : Option (Int32 × (Nat → Int32)) :=
  bi2 (f_Page_put v_page_length a_page_row (46 : Int32)) fun v1 a2 =>
  some (v1, a2)
def f_Writer_putPoint (v_flags : Int32) (v_page_length : Int32) (a_page_row : (Nat → Int32)) (p1 : Int32) : Option (Int32 × (Nat → Int32)) :=
  if 0 < p1 then
    f_Writer_putPoint_13 v_flags v_page_length a_page_row
  else
    bi1 (f_Writer_has v_flags (8 : Int32)) fun r4 =>
    if r4 = 0 then
      some (v_page_length, a_page_row)
    else
      f_Writer_putPoint_13 v_flags v_page_length a_page_row
set_option maxHeartbeats 4000000 in
set_option maxRecDepth 100000 in
theorem s_Writer_putPoint_13 {p : Program} {l : Launch} {e : Env} {s : State} {m : MethodId} {args : Array Value} {below : List Frame} {meth : Method} {c : Code} {dC : Nat → ClassId} {dI : Nat → Nat → Nat} {A : Nat → Prop} {X : SXT} {g_this_exact : Nat} {g_this_digits : Nat} {h_this : Nat} {h_this_page : Nat} {h_this_page_row : Nat} {c_this_page_row : ClassId} {v_count : Int32} {v_letter : Int32} {v_width : Int32} {v_precision : Int32} {res : Int32 × (Nat → Int32)}  (cx : cxx p s m args meth c b_Writer_putPoint 2 none R_Writer) (hK : va_K (dC, dI) classes [(c_this_page_row, .byte)] s) (hA : ∀ q, s.heap.size ≤ q → A q) (hX : SX X A s s.heap)  : ∀ (v_flags : Int32) (v_page_length : Int32) (a_page_row : (Nat → Int32)) (H : Heap) (locs : List Loc) (ls : Array Slot), va_P (dC, dI) classes (WS_Writer_putPoint g_this_exact g_this_digits h_this h_this_page h_this_page_row c_this_page_row v_count v_letter v_flags v_width v_precision v_page_length a_page_row) H → va_D A (WS_Writer_putPoint g_this_exact g_this_digits h_this h_this_page h_this_page_row c_this_page_row v_count v_letter v_flags v_width v_precision v_page_length a_page_row) → va_S A s.heap H locs → lv_has ls 2 [(0, .ref h_this)] → f_Writer_putPoint_13 v_flags v_page_length a_page_row = some res → W p l e ({ frames := 1, cells := 0, slots := 0, locals := 21 }) s m args below meth c H locs 0 0 (MQ below (va_Qv (fun (u : Int32 × (Nat → Int32)) => some u = some res) (gB (dC, dI) [(c_this_page_row, .byte)] A (fun (u : Int32 × (Nat → Int32)) => (WS_Writer_putPoint g_this_exact g_this_digits h_this h_this_page h_this_page_row c_this_page_row v_count v_letter v_flags v_width v_precision u.1 u.2))) A) args s 0 0 A) (F0 m 13 ls []) := by
  intro v_flags v_page_length a_page_row H locs ls hP hD hS hl h
  obtain ⟨hx, hb, hr, hml, hown, ht, hlk⟩ := id cx
  refine lv_aload_n hx hb d_Writer_putPoint_13 rfl (lv_at hl 0 rfl) ?_
  refine va_get (D := (dC, dI)) (ci := 6) (v := .ref h_this_page) (C := R_Writer) (T := F_Writer) (N := 8) hx hb ht i_Writer hown hK hP 0 rfl rfl 0 (by decide) (ht _ q_241) (fun _ h9 => h9) rfl d_Writer_putPoint_14 ?_
  refine lv_bipush (v := 46) hx hb d_Writer_putPoint_17 (by decide) ?_
  obtain ⟨v1, a2, hf, h⟩ := bi2_x h
  refine clVv (D := (dC, dI)) (n := 1) (As := [.int (46 : Int32)]) ⟨hx, hb, hml, hown, ht⟩ (c_Page_put l dC dI X h_this_page h_this_page_row c_this_page_row H.size v_page_length a_page_row (46 : Int32) (v1, a2) hf) (gV q_242 q_243 q_244 q_245 q_246) (by decide +kernel) ⟨rfl, rfl, Nat.le_of_ble_eq_true rfl, Nat.le_of_ble_eq_true rfl⟩ hK hP hD hS hA hX [1, 2] [0] [0] rfl (wr := [(h_this, .inr (6, [.ref h_this_page, .ref g_this_exact, .ref g_this_digits, .int v_count, .int v_letter, .int v_flags, .int v_width, .int v_precision]))]) rfl (by decide) (by decide) (by decide) rfl (va_recv hK hP (ci := 5) (q0 := 1) rfl rfl) rfl hl.1 rfl (lv_room (Nat.le_of_ble_eq_true rfl)) d_Writer_putPoint_19 ⟨Nat.zero_le _, Nat.zero_le _⟩ (fun u9 H locs h9 hP hD hS => ?_)
  cases h9
  have hP : va_P (dC, dI) classes (WS_Writer_putPoint g_this_exact g_this_digits h_this h_this_page h_this_page_row c_this_page_row v_count v_letter v_flags v_width v_precision v1 a2) H := hP.sub [0, 1, 2] rfl
  have hD : va_D A (WS_Writer_putPoint g_this_exact g_this_digits h_this h_this_page h_this_page_row c_this_page_row v_count v_letter v_flags v_width v_precision v1 a2) := hD.sub [0, 1, 2] (by decide) rfl
  exact W.vret hx hb hr (fun t ht9 hW => ⟨⟨(v1, a2), rfl, h, by rw [ht9]; exact hP, va_K.moved hW.alike hK, hD⟩, hS.F ht9⟩) hS.2.2 d_Writer_putPoint_22 hlk
set_option maxHeartbeats 4000000 in
set_option maxRecDepth 100000 in
theorem s_Writer_putPoint_e {p : Program} {l : Launch} {e : Env} {s : State} {m : MethodId} {args : Array Value} {below : List Frame} {meth : Method} {c : Code} {dC : Nat → ClassId} {dI : Nat → Nat → Nat} {A : Nat → Prop} {X : SXT} {g_this_exact : Nat} {g_this_digits : Nat} {h_this : Nat} {h_this_page : Nat} {h_this_page_row : Nat} {c_this_page_row : ClassId} {v_count : Int32} {v_letter : Int32} {v_width : Int32} {v_precision : Int32} {res : Int32 × (Nat → Int32)} (cx : cxx p s m args meth c b_Writer_putPoint 2 none R_Writer) (hK : va_K (dC, dI) classes [(c_this_page_row, .byte)] s) (hA : ∀ q, s.heap.size ≤ q → A q) (hX : SX X A s s.heap) : ∀ (v_flags : Int32) (v_page_length : Int32) (a_page_row : (Nat → Int32)) (p1 : Int32) (H : Heap) (locs : List Loc) (ls : Array Slot), va_P (dC, dI) classes (WS_Writer_putPoint g_this_exact g_this_digits h_this h_this_page h_this_page_row c_this_page_row v_count v_letter v_flags v_width v_precision v_page_length a_page_row) H → va_D A (WS_Writer_putPoint g_this_exact g_this_digits h_this h_this_page h_this_page_row c_this_page_row v_count v_letter v_flags v_width v_precision v_page_length a_page_row) → va_S A s.heap H locs → lv_has ls 2 [(0, .ref h_this), (1, .int p1)] → f_Writer_putPoint v_flags v_page_length a_page_row p1 = some res → W p l e ({ frames := 1, cells := 0, slots := 0, locals := 21 }) s m args below meth c H locs 0 0 (MQ below (va_Qv (fun (u : Int32 × (Nat → Int32)) => some u = some res) (gB (dC, dI) [(c_this_page_row, .byte)] A (fun (u : Int32 × (Nat → Int32)) => (WS_Writer_putPoint g_this_exact g_this_digits h_this h_this_page h_this_page_row c_this_page_row v_count v_letter v_flags v_width v_precision u.1 u.2))) A) args s 0 0 A) (F0 m 0 ls []) := by
  intro v_flags v_page_length a_page_row p1 H locs ls hP hD hS hl h
  obtain ⟨hx, hb, hr, hml, hown, ht, hlk⟩ := id cx
  refine lv_iload_n hx hb d_Writer_putPoint_0 rfl (lv_at hl 1 rfl) ?_
  refine lv_if_gt (tgt := 13) hx hb d_Writer_putPoint_1 (by decide) (fun c3 => ?_) (fun c3 => ?_)
  · have h := if_t c3 h
    exact s_Writer_putPoint_13 cx hK hA hX v_flags v_page_length a_page_row H locs ls hP hD hS (lv_sub hl [0] rfl) h
  · have h := if_f c3 h
    refine lv_aload_n hx hb d_Writer_putPoint_4 rfl (lv_at hl 0 rfl) ?_
    refine lv_bipush (v := 8) hx hb d_Writer_putPoint_5 (by decide) ?_
    obtain ⟨r4, hf, h⟩ := bi1_x h
    refine clVi (D := (dC, dI)) (n := 1) (As := [.int (8 : Int32)]) ⟨hx, hb, hml, hown, ht⟩ (c_Writer_has l dC dI X h_this_page g_this_exact g_this_digits h_this H.size v_count v_letter v_flags v_width v_precision (8 : Int32) r4 hf) (gV q_236 q_237 q_238 q_239 q_240) (by decide +kernel) ⟨rfl, rfl, Nat.le_of_ble_eq_true rfl, Nat.le_of_ble_eq_true rfl⟩ hK hP hD hS hA hX [0] [1, 2] [] rfl (wr := [(h_this_page, .inr (5, [.ref h_this_page_row, .int v_page_length])), (h_this_page_row, .inl (c_this_page_row, 420, .inl a_page_row))]) rfl (by decide) (by decide) (by decide) rfl (va_recv hK hP (ci := 6) (q0 := 0) rfl rfl) rfl hl.1 rfl (lv_room (Nat.le_of_ble_eq_true rfl)) d_Writer_putPoint_7 ⟨Nat.zero_le _, Nat.zero_le _⟩ (fun r9 u9 H locs h9 hP hD hS => ?_)
    cases h9
    have hP : va_P (dC, dI) classes (WS_Writer_putPoint g_this_exact g_this_digits h_this h_this_page h_this_page_row c_this_page_row v_count v_letter v_flags v_width v_precision v_page_length a_page_row) H := hP.sub [2, 0, 1] rfl
    have hD : va_D A (WS_Writer_putPoint g_this_exact g_this_digits h_this h_this_page h_this_page_row c_this_page_row v_count v_letter v_flags v_width v_precision v_page_length a_page_row) := hD.sub [2, 0, 1] (by decide) rfl
    refine lv_if_eq (tgt := 22) hx hb d_Writer_putPoint_10 (by decide) (fun c5 => ?_) (fun c5 => ?_)
    · have h := if_t c5 h
      exact W.vret hx hb hr (fun t ht9 hW => ⟨⟨(v_page_length, a_page_row), rfl, h, by rw [ht9]; exact hP, va_K.moved hW.alike hK, hD⟩, hS.F ht9⟩) hS.2.2 d_Writer_putPoint_22 hlk
    · have h := if_f c5 h
      exact s_Writer_putPoint_13 cx hK hA hX v_flags v_page_length a_page_row H locs ls hP hD hS (lv_sub hl [0] rfl) h
set_option maxHeartbeats 4000000 in
set_option maxRecDepth 100000 in
theorem c_Writer_putPoint (l : Launch) (dC : Nat → ClassId) (dI : Nat → Nat → Nat) (X : SXT) (g_this_exact : Nat) (g_this_digits : Nat) (h_this : Nat) (h_this_page : Nat) (h_this_page_row : Nat) (c_this_page_row : ClassId) (sz : Nat) (v_count : Int32) (v_letter : Int32) (v_flags : Int32) (v_width : Int32) (v_precision : Int32) (v_page_length : Int32) (a_page_row : (Nat → Int32)) (p1 : Int32) (res : Int32 × (Nat → Int32)) (hf : f_Writer_putPoint v_flags v_page_length a_page_row p1 = some res) : Met l y_Writer_putPoint (.code y_Writer_putPoint b_Writer_putPoint 2 none :: w0) ({ frames := 1, cells := 0, slots := 0, locals := 21 }) (va_Pc [.ref h_this, .int p1] (gP (dC, dI) (WS_Writer_putPoint g_this_exact g_this_digits h_this h_this_page h_this_page_row c_this_page_row v_count v_letter v_flags v_width v_precision v_page_length a_page_row) [(c_this_page_row, .byte)] sz X)) (va_Qv (fun (u : Int32 × (Nat → Int32)) => some u = some res) (gB (dC, dI) [(c_this_page_row, .byte)] (va_A (WS_Writer_putPoint g_this_exact g_this_digits h_this h_this_page h_this_page_row c_this_page_row v_count v_letter v_flags v_width v_precision v_page_length a_page_row) sz) (fun (u : Int32 × (Nat → Int32)) => (WS_Writer_putPoint g_this_exact g_this_digits h_this h_this_page h_this_page_row c_this_page_row v_count v_letter v_flags v_width v_precision u.1 u.2))) (va_A (WS_Writer_putPoint g_this_exact g_this_digits h_this h_this_page h_this_page_row c_this_page_row v_count v_letter v_flags v_width v_precision v_page_length a_page_row) sz)) 0 0 (va_A (WS_Writer_putPoint g_this_exact g_this_digits h_this h_this_page h_this_page_row c_this_page_row v_count v_letter v_flags v_width v_precision v_page_length a_page_row) sz) := by
  refine Met.ofW (cc := b_Writer_putPoint) (maxL := 2) (ret := none) (by decide) rfl ?_
  intro p e s m args below meth c s₁ B hml hv
  obtain ⟨rfl, hsz, hP, hK, hD0, hX⟩ := hv
  subst hsz
  have cx : cxx p s m ([.ref h_this, .int p1] : List Value).toArray meth c b_Writer_putPoint 2 none R_Writer := ⟨B.exec, B.bytes, B.returns, hml, findClass_of_methodNamed B.named, fun w9 hw => atoms_spec (ws := .code y_Writer_putPoint b_Writer_putPoint 2 none :: w0) B.pre w9 (List.mem_cons_of_mem _ hw), B.notSynchronized⟩
  have hD := hD0.self (sz := s.heap.size)
  generalize hAe : va_A (WS_Writer_putPoint g_this_exact g_this_digits h_this h_this_page h_this_page_row c_this_page_row v_count v_letter v_flags v_width v_precision v_page_length a_page_row) s.heap.size = A at hD hX ⊢
  have hA : ∀ q : Nat, s.heap.size ≤ q → A q := fun q h => by rw [← hAe]; exact Or.inr h
  have hS : va_S A s.heap s.heap [] := va_S.rf
  have hl := lv_entry ([.ref h_this, .int p1]) (n := 2) (Nat.le_of_ble_eq_true rfl)
  rw [lg_entry_eq]
  generalize (lg_sl ([.ref h_this, .int p1]) ++ List.replicate (2 - (lg_sl ([.ref h_this, .int p1])).length) Slot.unset).toArray = ls at hl ⊢
  have hl : lv_has ls 2 [(0, .ref h_this), (1, .int p1)] := hl
  exact s_Writer_putPoint_e cx hK hA hX v_flags v_page_length a_page_row p1 s.heap [] ls hP hD hS hl hf
abbrev WS_Writer_putPower (g_this_exact : Nat) (h_this : Nat) (h_this_digits : Nat) (h_this_page : Nat) (h_this_page_row : Nat) (c_this_digits : ClassId) (c_this_page_row : ClassId) (v_count : Int32) (v_letter : Int32) (v_flags : Int32) (v_width : Int32) (v_precision : Int32) (a_digits : (Nat → Int32)) (v_page_length : Int32) (a_page_row : (Nat → Int32)) : va_W := [(h_this, .inr (6, [.ref h_this_page, .ref g_this_exact, .ref h_this_digits, .int v_count, .int v_letter, .int v_flags, .int v_width, .int v_precision])), (h_this_digits, .inl (c_this_digits, 22, .inl a_digits)), (h_this_page, .inr (5, [.ref h_this_page_row, .int v_page_length])), (h_this_page_row, .inl (c_this_page_row, 420, .inl a_page_row))]
def f_Writer_putPower_15 (v_count : Int32) (a_digits : (Nat → Int32)) (v_page_length : Int32) (a_page_row : (Nat → Int32)) (y1 : Int32) (y2 : Int32) (z1 : Int32) : Option (Int32 × (Nat → Int32) × Int32 × (Nat → Int32)) :=
  bi2 (f_Page_put v_page_length a_page_row z1) fun v1 a2 =>
  bi2 (f_Writer_findTens v_count a_digits (y1.toInt64)) fun v3 a4 =>
  bi2 (f_Page_putMany v1 a2 (48 : Int32) (y2 - v3)) fun v5 a6 =>
  bi2 (f_Writer_putFoundDigits v3 a4 v5 a6) fun v7 a8 =>
  some (v3, a4, v7, a8)
def f_Writer_putPower (v_count : Int32) (a_digits : (Nat → Int32)) (v_page_length : Int32) (a_page_row : (Nat → Int32)) (p1 : Int32) (p2 : Int32) : Option (Int32 × (Nat → Int32) × Int32 × (Nat → Int32)) :=
  if 0 ≤ p1 then
    f_Writer_putPower_15 v_count a_digits v_page_length a_page_row p1 p2 (43 : Int32)
  else
    f_Writer_putPower_15 v_count a_digits v_page_length a_page_row p1 p2 (45 : Int32)
set_option maxHeartbeats 4000000 in
set_option maxRecDepth 100000 in
theorem s_Writer_putPower_15 {p : Program} {l : Launch} {e : Env} {s : State} {m : MethodId} {args : Array Value} {below : List Frame} {meth : Method} {c : Code} {dC : Nat → ClassId} {dI : Nat → Nat → Nat} {A : Nat → Prop} {X : SXT} {g_this_exact : Nat} {h_this : Nat} {h_this_digits : Nat} {h_this_page : Nat} {h_this_page_row : Nat} {c_this_digits : ClassId} {c_this_page_row : ClassId} {v_letter : Int32} {v_flags : Int32} {v_width : Int32} {v_precision : Int32} {res : Int32 × (Nat → Int32) × Int32 × (Nat → Int32)}  (cx : cxx p s m args meth c b_Writer_putPower 3 none R_Writer) (hK : va_K (dC, dI) classes [(c_this_digits, .byte), (c_this_page_row, .byte)] s) (hA : ∀ q, s.heap.size ≤ q → A q) (hX : SX X A s s.heap)  : ∀ (v_count : Int32) (a_digits : (Nat → Int32)) (v_page_length : Int32) (a_page_row : (Nat → Int32)) (y1 : Int32) (y2 : Int32) (z1 : Int32) (H : Heap) (locs : List Loc) (ls : Array Slot), va_P (dC, dI) classes (WS_Writer_putPower g_this_exact h_this h_this_digits h_this_page h_this_page_row c_this_digits c_this_page_row v_count v_letter v_flags v_width v_precision a_digits v_page_length a_page_row) H → va_D A (WS_Writer_putPower g_this_exact h_this h_this_digits h_this_page h_this_page_row c_this_digits c_this_page_row v_count v_letter v_flags v_width v_precision a_digits v_page_length a_page_row) → va_S A s.heap H locs → lv_has ls 3 [(0, .ref h_this), (1, .int y1), (2, .int y2)] → f_Writer_putPower_15 v_count a_digits v_page_length a_page_row y1 y2 z1 = some res → W p l e ({ frames := 2, cells := 0, slots := 0, locals := 44 }) s m args below meth c H locs 0 0 (MQ below (va_Qv (fun (u : Int32 × (Nat → Int32) × Int32 × (Nat → Int32)) => some u = some res) (gB (dC, dI) [(c_this_digits, .byte), (c_this_page_row, .byte)] A (fun (u : Int32 × (Nat → Int32) × Int32 × (Nat → Int32)) => (WS_Writer_putPower g_this_exact h_this h_this_digits h_this_page h_this_page_row c_this_digits c_this_page_row u.1 v_letter v_flags v_width v_precision u.2.1 u.2.2.1 u.2.2.2))) A) args s 0 0 A) (F0 m 15 ls [.int z1, .ref h_this_page]) := by
  intro v_count a_digits v_page_length a_page_row y1 y2 z1 H locs ls hP hD hS hl h
  obtain ⟨hx, hb, hr, hml, hown, ht, hlk⟩ := id cx
  obtain ⟨v1, a2, hf, h⟩ := bi2_x h
  refine clVv (D := (dC, dI)) (n := 1) (As := [.int z1]) ⟨hx, hb, hml, hown, ht⟩ (c_Page_put l dC dI X h_this_page h_this_page_row c_this_page_row H.size v_page_length a_page_row z1 (v1, a2) hf) (gV q_242 q_243 q_244 q_245 q_246) (by decide +kernel) ⟨rfl, rfl, Nat.le_of_ble_eq_true rfl, Nat.le_of_ble_eq_true rfl⟩ hK hP hD hS hA hX [2, 3] [0, 1] [1] rfl (wr := [(h_this, .inr (6, [.ref h_this_page, .ref g_this_exact, .ref h_this_digits, .int v_count, .int v_letter, .int v_flags, .int v_width, .int v_precision])), (h_this_digits, .inl (c_this_digits, 22, .inl a_digits))]) rfl (by decide) (by decide) (by decide) rfl (va_recv hK hP (ci := 5) (q0 := 2) rfl rfl) rfl hl.1 rfl (lv_room (Nat.le_of_ble_eq_true rfl)) d_Writer_putPower_15 ⟨Nat.zero_le _, Nat.zero_le _⟩ (fun u9 H locs h9 hP hD hS => ?_)
  cases h9
  have hP : va_P (dC, dI) classes (WS_Writer_putPower g_this_exact h_this h_this_digits h_this_page h_this_page_row c_this_digits c_this_page_row v_count v_letter v_flags v_width v_precision a_digits v1 a2) H := hP.sub [0, 1, 2, 3] rfl
  have hD : va_D A (WS_Writer_putPower g_this_exact h_this h_this_digits h_this_page h_this_page_row c_this_digits c_this_page_row v_count v_letter v_flags v_width v_precision a_digits v1 a2) := hD.sub [0, 1, 2, 3] (by decide) rfl
  refine lv_aload_n hx hb d_Writer_putPower_18 rfl (lv_at hl 0 rfl) ?_
  refine lv_iload_n hx hb d_Writer_putPower_19 rfl (lv_at hl 1 rfl) ?_
  refine lv_i2l (v := y1.toInt64) hx hb d_Writer_putPower_20 rfl ?_
  obtain ⟨v3, a4, hf, h⟩ := bi2_x h
  refine clVv (D := (dC, dI)) (n := 1) (As := [.long (y1.toInt64)]) ⟨hx, hb, hml, hown, ht⟩ (c_Writer_findTens l dC dI X h_this_page g_this_exact h_this h_this_digits c_this_digits H.size v_count v_letter v_flags v_width v_precision a_digits (y1.toInt64) (v3, a4) hf) (gV q_283 q_284 q_285 q_239 q_286) (by decide +kernel) ⟨rfl, rfl, Nat.le_of_ble_eq_true rfl, Nat.le_of_ble_eq_true rfl⟩ hK hP hD hS hA hX [0, 1] [2, 3] [0] rfl (wr := [(h_this_page, .inr (5, [.ref h_this_page_row, .int v1])), (h_this_page_row, .inl (c_this_page_row, 420, .inl a2))]) rfl (by decide) (by decide) (by decide) rfl (va_recv hK hP (ci := 6) (q0 := 0) rfl rfl) rfl hl.1 rfl (lv_room (Nat.le_of_ble_eq_true rfl)) d_Writer_putPower_21 ⟨Nat.zero_le _, Nat.zero_le _⟩ (fun u9 H locs h9 hP hD hS => ?_)
  cases h9
  have hP : va_P (dC, dI) classes (WS_Writer_putPower g_this_exact h_this h_this_digits h_this_page h_this_page_row c_this_digits c_this_page_row v3 v_letter v_flags v_width v_precision a4 v1 a2) H := hP.sub [2, 3, 0, 1] rfl
  have hD : va_D A (WS_Writer_putPower g_this_exact h_this h_this_digits h_this_page h_this_page_row c_this_digits c_this_page_row v3 v_letter v_flags v_width v_precision a4 v1 a2) := hD.sub [2, 3, 0, 1] (by decide) rfl
  refine lv_aload_n hx hb d_Writer_putPower_24 rfl (lv_at hl 0 rfl) ?_
  refine va_get (D := (dC, dI)) (ci := 6) (v := .ref h_this_page) (C := R_Writer) (T := F_Writer) (N := 8) hx hb ht i_Writer hown hK hP 0 rfl rfl 0 (by decide) (ht _ q_241) (fun _ h9 => h9) rfl d_Writer_putPower_25 ?_
  refine lv_bipush (v := 48) hx hb d_Writer_putPower_28 (by decide) ?_
  refine lv_iload_n hx hb d_Writer_putPower_30 rfl (lv_at hl 2 rfl) ?_
  refine lv_aload_n hx hb d_Writer_putPower_31 rfl (lv_at hl 0 rfl) ?_
  refine va_get (D := (dC, dI)) (ci := 6) (v := .int v3) (C := R_Writer) (T := F_Writer) (N := 8) hx hb ht i_Writer hown hK hP 0 rfl rfl 3 (by decide) (ht _ q_247) (fun _ h9 => h9) rfl d_Writer_putPower_32 ?_
  refine lv_isub hx hb d_Writer_putPower_35 ?_
  obtain ⟨v5, a6, hf, h⟩ := bi2_x h
  refine clVv (D := (dC, dI)) (n := 2) (As := [.int (48 : Int32), .int (y2 - v3)]) ⟨hx, hb, hml, hown, ht⟩ (c_Page_putMany l dC dI X h_this_page h_this_page_row c_this_page_row H.size v1 a2 (48 : Int32) (y2 - v3) (v5, a6) hf) (gV q_309 q_298 q_299 q_245 q_300) (by decide +kernel) ⟨rfl, rfl, Nat.le_of_ble_eq_true rfl, Nat.le_of_ble_eq_true rfl⟩ hK hP hD hS hA hX [2, 3] [0, 1] [1] rfl (wr := [(h_this, .inr (6, [.ref h_this_page, .ref g_this_exact, .ref h_this_digits, .int v3, .int v_letter, .int v_flags, .int v_width, .int v_precision])), (h_this_digits, .inl (c_this_digits, 22, .inl a4))]) rfl (by decide) (by decide) (by decide) rfl (va_recv hK hP (ci := 5) (q0 := 2) rfl rfl) rfl hl.1 rfl (lv_room (Nat.le_of_ble_eq_true rfl)) d_Writer_putPower_36 ⟨Nat.zero_le _, Nat.zero_le _⟩ (fun u9 H locs h9 hP hD hS => ?_)
  cases h9
  have hP : va_P (dC, dI) classes (WS_Writer_putPower g_this_exact h_this h_this_digits h_this_page h_this_page_row c_this_digits c_this_page_row v3 v_letter v_flags v_width v_precision a4 v5 a6) H := hP.sub [0, 1, 2, 3] rfl
  have hD : va_D A (WS_Writer_putPower g_this_exact h_this h_this_digits h_this_page h_this_page_row c_this_digits c_this_page_row v3 v_letter v_flags v_width v_precision a4 v5 a6) := hD.sub [0, 1, 2, 3] (by decide) rfl
  refine lv_aload_n hx hb d_Writer_putPower_39 rfl (lv_at hl 0 rfl) ?_
  obtain ⟨v7, a8, hf, h⟩ := bi2_x h
  refine clVv (D := (dC, dI)) (n := 0) (As := []) ⟨hx, hb, hml, hown, ht⟩ (c_Writer_putFoundDigits l dC dI X g_this_exact h_this h_this_digits h_this_page h_this_page_row c_this_digits c_this_page_row H.size v3 v_letter v_flags v_width v_precision a4 v5 a6 (v7, a8) hf) (gV q_314 q_315 q_316 q_239 q_317) (by decide +kernel) ⟨rfl, rfl, Nat.le_of_ble_eq_true rfl, Nat.le_of_ble_eq_true rfl⟩ hK hP hD hS hA hX [0, 1, 2, 3] [] [0, 1] rfl (wr := []) rfl (by decide) (by decide) (by decide) rfl (va_recv hK hP (ci := 6) (q0 := 0) rfl rfl) rfl hl.1 rfl (lv_room (Nat.le_of_ble_eq_true rfl)) d_Writer_putPower_40 ⟨Nat.zero_le _, Nat.zero_le _⟩ (fun u9 H locs h9 hP hD hS => ?_)
  cases h9
  have hP : va_P (dC, dI) classes (WS_Writer_putPower g_this_exact h_this h_this_digits h_this_page h_this_page_row c_this_digits c_this_page_row v3 v_letter v_flags v_width v_precision a4 v7 a8) H := hP.sub [0, 1, 2, 3] rfl
  have hD : va_D A (WS_Writer_putPower g_this_exact h_this h_this_digits h_this_page h_this_page_row c_this_digits c_this_page_row v3 v_letter v_flags v_width v_precision a4 v7 a8) := hD.sub [0, 1, 2, 3] (by decide) rfl
  exact W.vret hx hb hr (fun t ht9 hW => ⟨⟨(v3, a4, v7, a8), rfl, h, by rw [ht9]; exact hP, va_K.moved hW.alike hK, hD⟩, hS.F ht9⟩) hS.2.2 d_Writer_putPower_43 hlk
set_option maxHeartbeats 4000000 in
set_option maxRecDepth 100000 in
theorem s_Writer_putPower_e {p : Program} {l : Launch} {e : Env} {s : State} {m : MethodId} {args : Array Value} {below : List Frame} {meth : Method} {c : Code} {dC : Nat → ClassId} {dI : Nat → Nat → Nat} {A : Nat → Prop} {X : SXT} {g_this_exact : Nat} {h_this : Nat} {h_this_digits : Nat} {h_this_page : Nat} {h_this_page_row : Nat} {c_this_digits : ClassId} {c_this_page_row : ClassId} {v_letter : Int32} {v_flags : Int32} {v_width : Int32} {v_precision : Int32} {res : Int32 × (Nat → Int32) × Int32 × (Nat → Int32)} (cx : cxx p s m args meth c b_Writer_putPower 3 none R_Writer) (hK : va_K (dC, dI) classes [(c_this_digits, .byte), (c_this_page_row, .byte)] s) (hA : ∀ q, s.heap.size ≤ q → A q) (hX : SX X A s s.heap) : ∀ (v_count : Int32) (a_digits : (Nat → Int32)) (v_page_length : Int32) (a_page_row : (Nat → Int32)) (p1 : Int32) (p2 : Int32) (H : Heap) (locs : List Loc) (ls : Array Slot), va_P (dC, dI) classes (WS_Writer_putPower g_this_exact h_this h_this_digits h_this_page h_this_page_row c_this_digits c_this_page_row v_count v_letter v_flags v_width v_precision a_digits v_page_length a_page_row) H → va_D A (WS_Writer_putPower g_this_exact h_this h_this_digits h_this_page h_this_page_row c_this_digits c_this_page_row v_count v_letter v_flags v_width v_precision a_digits v_page_length a_page_row) → va_S A s.heap H locs → lv_has ls 3 [(0, .ref h_this), (1, .int p1), (2, .int p2)] → f_Writer_putPower v_count a_digits v_page_length a_page_row p1 p2 = some res → W p l e ({ frames := 2, cells := 0, slots := 0, locals := 44 }) s m args below meth c H locs 0 0 (MQ below (va_Qv (fun (u : Int32 × (Nat → Int32) × Int32 × (Nat → Int32)) => some u = some res) (gB (dC, dI) [(c_this_digits, .byte), (c_this_page_row, .byte)] A (fun (u : Int32 × (Nat → Int32) × Int32 × (Nat → Int32)) => (WS_Writer_putPower g_this_exact h_this h_this_digits h_this_page h_this_page_row c_this_digits c_this_page_row u.1 v_letter v_flags v_width v_precision u.2.1 u.2.2.1 u.2.2.2))) A) args s 0 0 A) (F0 m 0 ls []) := by
  intro v_count a_digits v_page_length a_page_row p1 p2 H locs ls hP hD hS hl h
  obtain ⟨hx, hb, hr, hml, hown, ht, hlk⟩ := id cx
  refine lv_aload_n hx hb d_Writer_putPower_0 rfl (lv_at hl 0 rfl) ?_
  refine va_get (D := (dC, dI)) (ci := 6) (v := .ref h_this_page) (C := R_Writer) (T := F_Writer) (N := 8) hx hb ht i_Writer hown hK hP 0 rfl rfl 0 (by decide) (ht _ q_241) (fun _ h9 => h9) rfl d_Writer_putPower_1 ?_
  refine lv_iload_n hx hb d_Writer_putPower_4 rfl (lv_at hl 1 rfl) ?_
  refine lv_if_ge (tgt := 13) hx hb d_Writer_putPower_5 (by decide) (fun c9 => ?_) (fun c9 => ?_)
  · have h := if_t c9 h
    refine lv_bipush (v := 43) hx hb d_Writer_putPower_13 (by decide) ?_
    exact s_Writer_putPower_15 cx hK hA hX v_count a_digits v_page_length a_page_row p1 p2 (43 : Int32) H locs ls hP hD hS (lv_sub hl [0, 1, 2] rfl) h
  · have h := if_f c9 h
    refine lv_bipush (v := 45) hx hb d_Writer_putPower_8 (by decide) ?_
    refine lv_goto (tgt := 15) hx hb d_Writer_putPower_10 (by decide) ?_
    exact s_Writer_putPower_15 cx hK hA hX v_count a_digits v_page_length a_page_row p1 p2 (45 : Int32) H locs ls hP hD hS (lv_sub hl [0, 1, 2] rfl) h
set_option maxHeartbeats 4000000 in
set_option maxRecDepth 100000 in
theorem c_Writer_putPower (l : Launch) (dC : Nat → ClassId) (dI : Nat → Nat → Nat) (X : SXT) (g_this_exact : Nat) (h_this : Nat) (h_this_digits : Nat) (h_this_page : Nat) (h_this_page_row : Nat) (c_this_digits : ClassId) (c_this_page_row : ClassId) (sz : Nat) (v_count : Int32) (v_letter : Int32) (v_flags : Int32) (v_width : Int32) (v_precision : Int32) (a_digits : (Nat → Int32)) (v_page_length : Int32) (a_page_row : (Nat → Int32)) (p1 : Int32) (p2 : Int32) (res : Int32 × (Nat → Int32) × Int32 × (Nat → Int32)) (hf : f_Writer_putPower v_count a_digits v_page_length a_page_row p1 p2 = some res) : Met l y_Writer_putPower (.code y_Writer_putPower b_Writer_putPower 3 none :: w0) ({ frames := 2, cells := 0, slots := 0, locals := 44 }) (va_Pc [.ref h_this, .int p1, .int p2] (gP (dC, dI) (WS_Writer_putPower g_this_exact h_this h_this_digits h_this_page h_this_page_row c_this_digits c_this_page_row v_count v_letter v_flags v_width v_precision a_digits v_page_length a_page_row) [(c_this_digits, .byte), (c_this_page_row, .byte)] sz X)) (va_Qv (fun (u : Int32 × (Nat → Int32) × Int32 × (Nat → Int32)) => some u = some res) (gB (dC, dI) [(c_this_digits, .byte), (c_this_page_row, .byte)] (va_A (WS_Writer_putPower g_this_exact h_this h_this_digits h_this_page h_this_page_row c_this_digits c_this_page_row v_count v_letter v_flags v_width v_precision a_digits v_page_length a_page_row) sz) (fun (u : Int32 × (Nat → Int32) × Int32 × (Nat → Int32)) => (WS_Writer_putPower g_this_exact h_this h_this_digits h_this_page h_this_page_row c_this_digits c_this_page_row u.1 v_letter v_flags v_width v_precision u.2.1 u.2.2.1 u.2.2.2))) (va_A (WS_Writer_putPower g_this_exact h_this h_this_digits h_this_page h_this_page_row c_this_digits c_this_page_row v_count v_letter v_flags v_width v_precision a_digits v_page_length a_page_row) sz)) 0 0 (va_A (WS_Writer_putPower g_this_exact h_this h_this_digits h_this_page h_this_page_row c_this_digits c_this_page_row v_count v_letter v_flags v_width v_precision a_digits v_page_length a_page_row) sz) := by
  refine Met.ofW (cc := b_Writer_putPower) (maxL := 3) (ret := none) (by decide) rfl ?_
  intro p e s m args below meth c s₁ B hml hv
  obtain ⟨rfl, hsz, hP, hK, hD0, hX⟩ := hv
  subst hsz
  have cx : cxx p s m ([.ref h_this, .int p1, .int p2] : List Value).toArray meth c b_Writer_putPower 3 none R_Writer := ⟨B.exec, B.bytes, B.returns, hml, findClass_of_methodNamed B.named, fun w9 hw => atoms_spec (ws := .code y_Writer_putPower b_Writer_putPower 3 none :: w0) B.pre w9 (List.mem_cons_of_mem _ hw), B.notSynchronized⟩
  have hD := hD0.self (sz := s.heap.size)
  generalize hAe : va_A (WS_Writer_putPower g_this_exact h_this h_this_digits h_this_page h_this_page_row c_this_digits c_this_page_row v_count v_letter v_flags v_width v_precision a_digits v_page_length a_page_row) s.heap.size = A at hD hX ⊢
  have hA : ∀ q : Nat, s.heap.size ≤ q → A q := fun q h => by rw [← hAe]; exact Or.inr h
  have hS : va_S A s.heap s.heap [] := va_S.rf
  have hl := lv_entry ([.ref h_this, .int p1, .int p2]) (n := 3) (Nat.le_of_ble_eq_true rfl)
  rw [lg_entry_eq]
  generalize (lg_sl ([.ref h_this, .int p1, .int p2]) ++ List.replicate (3 - (lg_sl ([.ref h_this, .int p1, .int p2])).length) Slot.unset).toArray = ls at hl ⊢
  have hl : lv_has ls 3 [(0, .ref h_this), (1, .int p1), (2, .int p2)] := hl
  exact s_Writer_putPower_e cx hK hA hX v_count a_digits v_page_length a_page_row p1 p2 s.heap [] ls hP hD hS hl hf
abbrev WS_Writer_putWith16 (g_this_exact : Nat) (h_this : Nat) (h_this_digits : Nat) (h_this_page : Nat) (h_this_page_row : Nat) (c_this_digits : ClassId) (c_this_page_row : ClassId) (v_count : Int32) (v_letter : Int32) (v_flags : Int32) (v_width : Int32) (v_precision : Int32) (a_digits : (Nat → Int32)) (v_page_length : Int32) (a_page_row : (Nat → Int32)) : va_W := [(h_this, .inr (6, [.ref h_this_page, .ref g_this_exact, .ref h_this_digits, .int v_count, .int v_letter, .int v_flags, .int v_width, .int v_precision])), (h_this_digits, .inl (c_this_digits, 22, .inl a_digits)), (h_this_page, .inr (5, [.ref h_this_page_row, .int v_page_length])), (h_this_page_row, .inl (c_this_page_row, 420, .inl a_page_row))]
def f_Writer_putWith16_161 (v_count : Int32) (v_letter : Int32) (v_flags : Int32) (v_precision : Int32) (a_digits : (Nat → Int32)) (v_page_length : Int32) (a_page_row : (Nat → Int32)) (y5 : Int32) (z1 : Int32) : Option (Int32 × (Nat → Int32) × Int32 × (Nat → Int32)) :=
  bi2 (f_Page_put v_page_length a_page_row z1) fun v1 a2 =>
  bi4 (f_Writer_putPower v_count a_digits v1 a2 y5 (1 : Int32)) fun v3 a4 v5 a6 =>
  some (v3, a4, v5, a6)
def f_Writer_putWith16_143 (v_count : Int32) (v_letter : Int32) (v_flags : Int32) (v_precision : Int32) (a_digits : (Nat → Int32)) (v_page_length : Int32) (a_page_row : (Nat → Int32)) (y5 : Int32) : Option (Int32 × (Nat → Int32) × Int32 × (Nat → Int32)) :=
  bi1 (f_Writer_isGreat v_letter) fun r7 =>
  if r7 = 0 then
    f_Writer_putWith16_161 v_count v_letter v_flags v_precision a_digits v_page_length a_page_row y5 (112 : Int32)
  else
    f_Writer_putWith16_161 v_count v_letter v_flags v_precision a_digits v_page_length a_page_row y5 (80 : Int32)
def f_Writer_putWith16_134 (k97 : Int32 → Int32 → Int32 → Int32 → (Nat → Int32) → Int32 → (Nat → Int32) → Int32 → Int64 → Int32 → Int32 → Option (Int32 × (Nat → Int32) × Int32 × (Nat → Int32))) (v_count : Int32) (v_letter : Int32) (v_flags : Int32) (v_precision : Int32) (a_digits : (Nat → Int32)) (v_page_length : Int32) (a_page_row : (Nat → Int32)) (y5 : Int32) (y6 : Int64) (y8 : Int32) (y9 : Int32) (z1 : Int32) : Option (Int32 × (Nat → Int32) × Int32 × (Nat → Int32)) :=
  bi2 (f_Page_put v_page_length a_page_row z1) fun v9 a10 =>
  bd (y9 + (1 : Int32)) fun x11 =>
  k97 v_count v_letter v_flags v_precision a_digits v9 a10 y5 y6 y8 x11
def f_Writer_putWith16_97b (k97 : Int32 → Int32 → Int32 → Int32 → (Nat → Int32) → Int32 → (Nat → Int32) → Int32 → Int64 → Int32 → Int32 → Option (Int32 × (Nat → Int32) × Int32 × (Nat → Int32))) (v_count : Int32) (v_letter : Int32) (v_flags : Int32) (v_precision : Int32) (a_digits : (Nat → Int32)) (v_page_length : Int32) (a_page_row : (Nat → Int32)) (y5 : Int32) (y6 : Int64) (y8 : Int32) (y9 : Int32) : Option (Int32 × (Nat → Int32) × Int32 × (Nat → Int32)) :=
  if y8 < y9 then
    f_Writer_putWith16_143 v_count v_letter v_flags v_precision a_digits v_page_length a_page_row y5
  else
    if y9 ≤ (13 : Int32) then
      bi1 (f_Writer_digitOf16 v_letter (lus y6 ((4 : Int32) * ((13 : Int32) - y9)))) fun r14 =>
      f_Writer_putWith16_134 k97 v_count v_letter v_flags v_precision a_digits v_page_length a_page_row y5 y6 y8 y9 r14
    else
      f_Writer_putWith16_134 k97 v_count v_letter v_flags v_precision a_digits v_page_length a_page_row y5 y6 y8 y9 (48 : Int32)
def f_Writer_putWith16_97 : Nat → Int32 → Int32 → Int32 → Int32 → (Nat → Int32) → Int32 → (Nat → Int32) → Int32 → Int64 → Int32 → Int32 → Option (Int32 × (Nat → Int32) × Int32 × (Nat → Int32))
  | 0 => fun _ _ _ _ _ _ _ _ _ _ _ => none
  | n + 1 => fun v_count v_letter v_flags v_precision a_digits v_page_length a_page_row y5 y6 y8 y9 => f_Writer_putWith16_97b (f_Writer_putWith16_97 n) v_count v_letter v_flags v_precision a_digits v_page_length a_page_row y5 y6 y8 y9
def f_Writer_putWith16_61 (v_count : Int32) (v_letter : Int32) (v_flags : Int32) (v_precision : Int32) (a_digits : (Nat → Int32)) (v_page_length : Int32) (a_page_row : (Nat → Int32)) (y5 : Int32) (y6 : Int64) (z0 : Int32) : Option (Int32 × (Nat → Int32) × Int32 × (Nat → Int32)) :=
  bi1 (f_Writer_roundedOf16 y6 z0) fun r15 =>
  bi2 (f_Page_put v_page_length a_page_row ((48 : Int32) + ((lus r15 (52 : Int32)).toInt32))) fun v16 a17 =>
  bi2 (f_Writer_putPoint v_flags v16 a17 z0) fun v18 a19 =>
  f_Writer_putWith16_97 fu v_count v_letter v_flags v_precision a_digits v18 a19 y5 r15 z0 (1 : Int32)
def f_Writer_putWith16_28 (v_count : Int32) (v_letter : Int32) (v_flags : Int32) (v_precision : Int32) (a_digits : (Nat → Int32)) (v_page_length : Int32) (a_page_row : (Nat → Int32)) (y1 : Int64) (y3 : Int32) (z0 : Int32) : Option (Int32 × (Nat → Int32) × Int32 × (Nat → Int32)) :=
  bd (lsl y1 ((y3 - z0) + (52 : Int32))) fun x20 =>
  if v_precision = (-1 : Int32) then
    bi1 (f_Writer_neededOf16 x20) fun r22 =>
    f_Writer_putWith16_61 v_count v_letter v_flags v_precision a_digits v_page_length a_page_row z0 x20 r22
  else
    f_Writer_putWith16_61 v_count v_letter v_flags v_precision a_digits v_page_length a_page_row z0 x20 v_precision
def f_Writer_putWith16 (v_count : Int32) (v_letter : Int32) (v_flags : Int32) (v_precision : Int32) (a_digits : (Nat → Int32)) (v_page_length : Int32) (a_page_row : (Nat → Int32)) (p1 : Int64) (p3 : Int32) : Option (Int32 × (Nat → Int32) × Int32 × (Nat → Int32)) :=
  bi1 (f_N_bitsOf p1) fun r23 =>
  bd ((r23 - (1 : Int32)) + p3) fun x24 =>
  if p1 = (0 : Int64) then
    f_Writer_putWith16_28 v_count v_letter v_flags v_precision a_digits v_page_length a_page_row p1 p3 (0 : Int32)
  else
    f_Writer_putWith16_28 v_count v_letter v_flags v_precision a_digits v_page_length a_page_row p1 p3 (imx x24 (-1022 : Int32))
set_option maxHeartbeats 4000000 in
set_option maxRecDepth 100000 in
theorem s_Writer_putWith16_161 {p : Program} {l : Launch} {e : Env} {s : State} {m : MethodId} {args : Array Value} {below : List Frame} {meth : Method} {c : Code} {dC : Nat → ClassId} {dI : Nat → Nat → Nat} {A : Nat → Prop} {X : SXT} {g_this_exact : Nat} {h_this : Nat} {h_this_digits : Nat} {h_this_page : Nat} {h_this_page_row : Nat} {c_this_digits : ClassId} {c_this_page_row : ClassId} {v_width : Int32} {res : Int32 × (Nat → Int32) × Int32 × (Nat → Int32)}  (cx : cxx p s m args meth c b_Writer_putWith16 10 none R_Writer) (hK : va_K (dC, dI) classes [(c_this_digits, .byte), (c_this_page_row, .byte)] s) (hA : ∀ q, s.heap.size ≤ q → A q) (hX : SX X A s s.heap)  : ∀ (v_count : Int32) (v_letter : Int32) (v_flags : Int32) (v_precision : Int32) (a_digits : (Nat → Int32)) (v_page_length : Int32) (a_page_row : (Nat → Int32)) (y5 : Int32) (z1 : Int32) (H : Heap) (locs : List Loc) (ls : Array Slot), va_P (dC, dI) classes (WS_Writer_putWith16 g_this_exact h_this h_this_digits h_this_page h_this_page_row c_this_digits c_this_page_row v_count v_letter v_flags v_width v_precision a_digits v_page_length a_page_row) H → va_D A (WS_Writer_putWith16 g_this_exact h_this h_this_digits h_this_page h_this_page_row c_this_digits c_this_page_row v_count v_letter v_flags v_width v_precision a_digits v_page_length a_page_row) → va_S A s.heap H locs → lv_has ls 10 [(0, .ref h_this), (5, .int y5)] → f_Writer_putWith16_161 v_count v_letter v_flags v_precision a_digits v_page_length a_page_row y5 z1 = some res → W p l e ({ frames := 5, cells := 0, slots := 0, locals := 108 }) s m args below meth c H locs 0 0 (MQ below (va_Qv (fun (u : Int32 × (Nat → Int32) × Int32 × (Nat → Int32)) => some u = some res) (gB (dC, dI) [(c_this_digits, .byte), (c_this_page_row, .byte)] A (fun (u : Int32 × (Nat → Int32) × Int32 × (Nat → Int32)) => (WS_Writer_putWith16 g_this_exact h_this h_this_digits h_this_page h_this_page_row c_this_digits c_this_page_row u.1 v_letter v_flags v_width v_precision u.2.1 u.2.2.1 u.2.2.2))) A) args s 0 0 A) (F0 m 161 ls [.int z1, .ref h_this_page]) := by
  intro v_count v_letter v_flags v_precision a_digits v_page_length a_page_row y5 z1 H locs ls hP hD hS hl h
  obtain ⟨hx, hb, hr, hml, hown, ht, hlk⟩ := id cx
  obtain ⟨v1, a2, hf, h⟩ := bi2_x h
  refine clVv (D := (dC, dI)) (n := 1) (As := [.int z1]) ⟨hx, hb, hml, hown, ht⟩ (c_Page_put l dC dI X h_this_page h_this_page_row c_this_page_row H.size v_page_length a_page_row z1 (v1, a2) hf) (gV q_242 q_243 q_244 q_245 q_246) (by decide +kernel) ⟨rfl, rfl, Nat.le_of_ble_eq_true rfl, Nat.le_of_ble_eq_true rfl⟩ hK hP hD hS hA hX [2, 3] [0, 1] [1] rfl (wr := [(h_this, .inr (6, [.ref h_this_page, .ref g_this_exact, .ref h_this_digits, .int v_count, .int v_letter, .int v_flags, .int v_width, .int v_precision])), (h_this_digits, .inl (c_this_digits, 22, .inl a_digits))]) rfl (by decide) (by decide) (by decide) rfl (va_recv hK hP (ci := 5) (q0 := 2) rfl rfl) rfl hl.1 rfl (lv_room (Nat.le_of_ble_eq_true rfl)) d_Writer_putWith16_161 ⟨Nat.zero_le _, Nat.zero_le _⟩ (fun u9 H locs h9 hP hD hS => ?_)
  cases h9
  have hP : va_P (dC, dI) classes (WS_Writer_putWith16 g_this_exact h_this h_this_digits h_this_page h_this_page_row c_this_digits c_this_page_row v_count v_letter v_flags v_width v_precision a_digits v1 a2) H := hP.sub [0, 1, 2, 3] rfl
  have hD : va_D A (WS_Writer_putWith16 g_this_exact h_this h_this_digits h_this_page h_this_page_row c_this_digits c_this_page_row v_count v_letter v_flags v_width v_precision a_digits v1 a2) := hD.sub [0, 1, 2, 3] (by decide) rfl
  refine lv_aload_n hx hb d_Writer_putWith16_164 rfl (lv_at hl 0 rfl) ?_
  refine lv_iload hx hb d_Writer_putWith16_165 (lv_at hl 1 rfl) ?_
  refine lv_iconst (v := 1) hx hb d_Writer_putWith16_167 (by decide) ?_
  obtain ⟨v3, a4, v5, a6, hf, h⟩ := bi4_x h
  refine clVv (D := (dC, dI)) (n := 2) (As := [.int y5, .int (1 : Int32)]) ⟨hx, hb, hml, hown, ht⟩ (c_Writer_putPower l dC dI X g_this_exact h_this h_this_digits h_this_page h_this_page_row c_this_digits c_this_page_row H.size v_count v_letter v_flags v_width v_precision a_digits v1 a2 y5 (1 : Int32) (v3, a4, v5, a6) hf) (gV q_353 q_354 q_355 q_239 q_356) (by decide +kernel) ⟨rfl, rfl, Nat.le_of_ble_eq_true rfl, Nat.le_of_ble_eq_true rfl⟩ hK hP hD hS hA hX [0, 1, 2, 3] [] [0, 1] rfl (wr := []) rfl (by decide) (by decide) (by decide) rfl (va_recv hK hP (ci := 6) (q0 := 0) rfl rfl) rfl hl.1 rfl (lv_room (Nat.le_of_ble_eq_true rfl)) d_Writer_putWith16_168 ⟨Nat.zero_le _, Nat.zero_le _⟩ (fun u9 H locs h9 hP hD hS => ?_)
  cases h9
  have hP : va_P (dC, dI) classes (WS_Writer_putWith16 g_this_exact h_this h_this_digits h_this_page h_this_page_row c_this_digits c_this_page_row v3 v_letter v_flags v_width v_precision a4 v5 a6) H := hP.sub [0, 1, 2, 3] rfl
  have hD : va_D A (WS_Writer_putWith16 g_this_exact h_this h_this_digits h_this_page h_this_page_row c_this_digits c_this_page_row v3 v_letter v_flags v_width v_precision a4 v5 a6) := hD.sub [0, 1, 2, 3] (by decide) rfl
  exact W.vret hx hb hr (fun t ht9 hW => ⟨⟨(v3, a4, v5, a6), rfl, h, by rw [ht9]; exact hP, va_K.moved hW.alike hK, hD⟩, hS.F ht9⟩) hS.2.2 d_Writer_putWith16_171 hlk
set_option maxHeartbeats 4000000 in
set_option maxRecDepth 100000 in
theorem s_Writer_putWith16_143 {p : Program} {l : Launch} {e : Env} {s : State} {m : MethodId} {args : Array Value} {below : List Frame} {meth : Method} {c : Code} {dC : Nat → ClassId} {dI : Nat → Nat → Nat} {A : Nat → Prop} {X : SXT} {g_this_exact : Nat} {h_this : Nat} {h_this_digits : Nat} {h_this_page : Nat} {h_this_page_row : Nat} {c_this_digits : ClassId} {c_this_page_row : ClassId} {v_width : Int32} {res : Int32 × (Nat → Int32) × Int32 × (Nat → Int32)}  (cx : cxx p s m args meth c b_Writer_putWith16 10 none R_Writer) (hK : va_K (dC, dI) classes [(c_this_digits, .byte), (c_this_page_row, .byte)] s) (hA : ∀ q, s.heap.size ≤ q → A q) (hX : SX X A s s.heap)  : ∀ (v_count : Int32) (v_letter : Int32) (v_flags : Int32) (v_precision : Int32) (a_digits : (Nat → Int32)) (v_page_length : Int32) (a_page_row : (Nat → Int32)) (y5 : Int32) (H : Heap) (locs : List Loc) (ls : Array Slot), va_P (dC, dI) classes (WS_Writer_putWith16 g_this_exact h_this h_this_digits h_this_page h_this_page_row c_this_digits c_this_page_row v_count v_letter v_flags v_width v_precision a_digits v_page_length a_page_row) H → va_D A (WS_Writer_putWith16 g_this_exact h_this h_this_digits h_this_page h_this_page_row c_this_digits c_this_page_row v_count v_letter v_flags v_width v_precision a_digits v_page_length a_page_row) → va_S A s.heap H locs → lv_has ls 10 [(0, .ref h_this), (5, .int y5)] → f_Writer_putWith16_143 v_count v_letter v_flags v_precision a_digits v_page_length a_page_row y5 = some res → W p l e ({ frames := 5, cells := 0, slots := 0, locals := 108 }) s m args below meth c H locs 0 0 (MQ below (va_Qv (fun (u : Int32 × (Nat → Int32) × Int32 × (Nat → Int32)) => some u = some res) (gB (dC, dI) [(c_this_digits, .byte), (c_this_page_row, .byte)] A (fun (u : Int32 × (Nat → Int32) × Int32 × (Nat → Int32)) => (WS_Writer_putWith16 g_this_exact h_this h_this_digits h_this_page h_this_page_row c_this_digits c_this_page_row u.1 v_letter v_flags v_width v_precision u.2.1 u.2.2.1 u.2.2.2))) A) args s 0 0 A) (F0 m 143 ls []) := by
  intro v_count v_letter v_flags v_precision a_digits v_page_length a_page_row y5 H locs ls hP hD hS hl h
  obtain ⟨hx, hb, hr, hml, hown, ht, hlk⟩ := id cx
  refine lv_aload_n hx hb d_Writer_putWith16_143 rfl (lv_at hl 0 rfl) ?_
  refine va_get (D := (dC, dI)) (ci := 6) (v := .ref h_this_page) (C := R_Writer) (T := F_Writer) (N := 8) hx hb ht i_Writer hown hK hP 0 rfl rfl 0 (by decide) (ht _ q_241) (fun _ h9 => h9) rfl d_Writer_putWith16_144 ?_
  refine lv_aload_n hx hb d_Writer_putWith16_147 rfl (lv_at hl 0 rfl) ?_
  obtain ⟨r7, hf, h⟩ := bi1_x h
  refine clVi (D := (dC, dI)) (n := 0) (As := []) ⟨hx, hb, hml, hown, ht⟩ (c_Writer_isGreat l dC dI X h_this_page g_this_exact h_this_digits h_this H.size v_count v_letter v_flags v_width v_precision r7 hf) (gV q_271 q_272 q_273 q_239 q_274) (by decide +kernel) ⟨rfl, rfl, Nat.le_of_ble_eq_true rfl, Nat.le_of_ble_eq_true rfl⟩ hK hP hD hS hA hX [0] [1, 2, 3] [] rfl (wr := [(h_this_digits, .inl (c_this_digits, 22, .inl a_digits)), (h_this_page, .inr (5, [.ref h_this_page_row, .int v_page_length])), (h_this_page_row, .inl (c_this_page_row, 420, .inl a_page_row))]) rfl (by decide) (by decide) (by decide) rfl (va_recv hK hP (ci := 6) (q0 := 0) rfl rfl) rfl hl.1 rfl (lv_room (Nat.le_of_ble_eq_true rfl)) d_Writer_putWith16_148 ⟨Nat.zero_le _, Nat.zero_le _⟩ (fun r9 u9 H locs h9 hP hD hS => ?_)
  cases h9
  have hP : va_P (dC, dI) classes (WS_Writer_putWith16 g_this_exact h_this h_this_digits h_this_page h_this_page_row c_this_digits c_this_page_row v_count v_letter v_flags v_width v_precision a_digits v_page_length a_page_row) H := hP.sub [3, 0, 1, 2] rfl
  have hD : va_D A (WS_Writer_putWith16 g_this_exact h_this h_this_digits h_this_page h_this_page_row c_this_digits c_this_page_row v_count v_letter v_flags v_width v_precision a_digits v_page_length a_page_row) := hD.sub [3, 0, 1, 2] (by decide) rfl
  refine lv_if_eq (tgt := 159) hx hb d_Writer_putWith16_151 (by decide) (fun c8 => ?_) (fun c8 => ?_)
  · have h := if_t c8 h
    refine lv_bipush (v := 112) hx hb d_Writer_putWith16_159 (by decide) ?_
    exact s_Writer_putWith16_161 cx hK hA hX v_count v_letter v_flags v_precision a_digits v_page_length a_page_row y5 (112 : Int32) H locs ls hP hD hS (lv_sub hl [0, 1] rfl) h
  · have h := if_f c8 h
    refine lv_bipush (v := 80) hx hb d_Writer_putWith16_154 (by decide) ?_
    refine lv_goto (tgt := 161) hx hb d_Writer_putWith16_156 (by decide) ?_
    exact s_Writer_putWith16_161 cx hK hA hX v_count v_letter v_flags v_precision a_digits v_page_length a_page_row y5 (80 : Int32) H locs ls hP hD hS (lv_sub hl [0, 1] rfl) h
set_option maxHeartbeats 4000000 in
set_option maxRecDepth 100000 in
theorem s_Writer_putWith16_134 {p : Program} {l : Launch} {e : Env} {s : State} {m : MethodId} {args : Array Value} {below : List Frame} {meth : Method} {c : Code} {dC : Nat → ClassId} {dI : Nat → Nat → Nat} {A : Nat → Prop} {X : SXT} {g_this_exact : Nat} {h_this : Nat} {h_this_digits : Nat} {h_this_page : Nat} {h_this_page_row : Nat} {c_this_digits : ClassId} {c_this_page_row : ClassId} {v_width : Int32} {res : Int32 × (Nat → Int32) × Int32 × (Nat → Int32)} {k97 : Int32 → Int32 → Int32 → Int32 → (Nat → Int32) → Int32 → (Nat → Int32) → Int32 → Int64 → Int32 → Int32 → Option (Int32 × (Nat → Int32) × Int32 × (Nat → Int32))} (cx : cxx p s m args meth c b_Writer_putWith16 10 none R_Writer) (hK : va_K (dC, dI) classes [(c_this_digits, .byte), (c_this_page_row, .byte)] s) (hA : ∀ q, s.heap.size ≤ q → A q) (hX : SX X A s s.heap) (hk97 : ∀ (v_count : Int32) (v_letter : Int32) (v_flags : Int32) (v_precision : Int32) (a_digits : (Nat → Int32)) (v_page_length : Int32) (a_page_row : (Nat → Int32)) (y5 : Int32) (y6 : Int64) (y8 : Int32) (y9 : Int32) (H : Heap) (locs : List Loc) (ls : Array Slot), va_P (dC, dI) classes (WS_Writer_putWith16 g_this_exact h_this h_this_digits h_this_page h_this_page_row c_this_digits c_this_page_row v_count v_letter v_flags v_width v_precision a_digits v_page_length a_page_row) H → va_D A (WS_Writer_putWith16 g_this_exact h_this h_this_digits h_this_page h_this_page_row c_this_digits c_this_page_row v_count v_letter v_flags v_width v_precision a_digits v_page_length a_page_row) → va_S A s.heap H locs → lv_has ls 10 [(0, .ref h_this), (5, .int y5), (6, .long y6), (8, .int y8), (9, .int y9)] → k97 v_count v_letter v_flags v_precision a_digits v_page_length a_page_row y5 y6 y8 y9 = some res → W p l e ({ frames := 5, cells := 0, slots := 0, locals := 108 }) s m args below meth c H locs 0 0 (MQ below (va_Qv (fun (u : Int32 × (Nat → Int32) × Int32 × (Nat → Int32)) => some u = some res) (gB (dC, dI) [(c_this_digits, .byte), (c_this_page_row, .byte)] A (fun (u : Int32 × (Nat → Int32) × Int32 × (Nat → Int32)) => (WS_Writer_putWith16 g_this_exact h_this h_this_digits h_this_page h_this_page_row c_this_digits c_this_page_row u.1 v_letter v_flags v_width v_precision u.2.1 u.2.2.1 u.2.2.2))) A) args s 0 0 A) (F0 m 97 ls [])) : ∀ (v_count : Int32) (v_letter : Int32) (v_flags : Int32) (v_precision : Int32) (a_digits : (Nat → Int32)) (v_page_length : Int32) (a_page_row : (Nat → Int32)) (y5 : Int32) (y6 : Int64) (y8 : Int32) (y9 : Int32) (z1 : Int32) (H : Heap) (locs : List Loc) (ls : Array Slot), va_P (dC, dI) classes (WS_Writer_putWith16 g_this_exact h_this h_this_digits h_this_page h_this_page_row c_this_digits c_this_page_row v_count v_letter v_flags v_width v_precision a_digits v_page_length a_page_row) H → va_D A (WS_Writer_putWith16 g_this_exact h_this h_this_digits h_this_page h_this_page_row c_this_digits c_this_page_row v_count v_letter v_flags v_width v_precision a_digits v_page_length a_page_row) → va_S A s.heap H locs → lv_has ls 10 [(0, .ref h_this), (5, .int y5), (6, .long y6), (8, .int y8), (9, .int y9)] → f_Writer_putWith16_134 k97 v_count v_letter v_flags v_precision a_digits v_page_length a_page_row y5 y6 y8 y9 z1 = some res → W p l e ({ frames := 5, cells := 0, slots := 0, locals := 108 }) s m args below meth c H locs 0 0 (MQ below (va_Qv (fun (u : Int32 × (Nat → Int32) × Int32 × (Nat → Int32)) => some u = some res) (gB (dC, dI) [(c_this_digits, .byte), (c_this_page_row, .byte)] A (fun (u : Int32 × (Nat → Int32) × Int32 × (Nat → Int32)) => (WS_Writer_putWith16 g_this_exact h_this h_this_digits h_this_page h_this_page_row c_this_digits c_this_page_row u.1 v_letter v_flags v_width v_precision u.2.1 u.2.2.1 u.2.2.2))) A) args s 0 0 A) (F0 m 134 ls [.int z1, .ref h_this_page]) := by
  intro v_count v_letter v_flags v_precision a_digits v_page_length a_page_row y5 y6 y8 y9 z1 H locs ls hP hD hS hl h
  obtain ⟨hx, hb, hr, hml, hown, ht, hlk⟩ := id cx
  obtain ⟨v9, a10, hf, h⟩ := bi2_x h
  refine clVv (D := (dC, dI)) (n := 1) (As := [.int z1]) ⟨hx, hb, hml, hown, ht⟩ (c_Page_put l dC dI X h_this_page h_this_page_row c_this_page_row H.size v_page_length a_page_row z1 (v9, a10) hf) (gV q_242 q_243 q_244 q_245 q_246) (by decide +kernel) ⟨rfl, rfl, Nat.le_of_ble_eq_true rfl, Nat.le_of_ble_eq_true rfl⟩ hK hP hD hS hA hX [2, 3] [0, 1] [1] rfl (wr := [(h_this, .inr (6, [.ref h_this_page, .ref g_this_exact, .ref h_this_digits, .int v_count, .int v_letter, .int v_flags, .int v_width, .int v_precision])), (h_this_digits, .inl (c_this_digits, 22, .inl a_digits))]) rfl (by decide) (by decide) (by decide) rfl (va_recv hK hP (ci := 5) (q0 := 2) rfl rfl) rfl hl.1 rfl (lv_room (Nat.le_of_ble_eq_true rfl)) d_Writer_putWith16_134 ⟨Nat.zero_le _, Nat.zero_le _⟩ (fun u9 H locs h9 hP hD hS => ?_)
  cases h9
  have hP : va_P (dC, dI) classes (WS_Writer_putWith16 g_this_exact h_this h_this_digits h_this_page h_this_page_row c_this_digits c_this_page_row v_count v_letter v_flags v_width v_precision a_digits v9 a10) H := hP.sub [0, 1, 2, 3] rfl
  have hD : va_D A (WS_Writer_putWith16 g_this_exact h_this h_this_digits h_this_page h_this_page_row c_this_digits c_this_page_row v_count v_letter v_flags v_width v_precision a_digits v9 a10) := hD.sub [0, 1, 2, 3] (by decide) rfl
  obtain ⟨x11, e_x11⟩ : ∃ y : Int32, y = y9 + (1 : Int32) := ⟨_, rfl⟩
  refine lv_iinc (v := x11) (lv' := [(9, .int x11), (0, .ref h_this), (5, .int y5), (6, .long y6), (8, .int y8)]) hx hb d_Writer_putWith16_137 hl (k := 4) rfl (by rw [e_x11]; rfl) (by decide) rfl (fun ls hl => ?_)
  have h := bd_g e_x11 h
  refine lv_goto (tgt := 97) hx hb d_Writer_putWith16_140 (by decide) ?_
  exact hk97 v_count v_letter v_flags v_precision a_digits v9 a10 y5 y6 y8 x11 H locs ls hP hD hS (lv_sub hl [1, 2, 3, 4, 0] rfl) h
set_option maxHeartbeats 4000000 in
set_option maxRecDepth 100000 in
theorem s_Writer_putWith16_97b {p : Program} {l : Launch} {e : Env} {s : State} {m : MethodId} {args : Array Value} {below : List Frame} {meth : Method} {c : Code} {dC : Nat → ClassId} {dI : Nat → Nat → Nat} {A : Nat → Prop} {X : SXT} {g_this_exact : Nat} {h_this : Nat} {h_this_digits : Nat} {h_this_page : Nat} {h_this_page_row : Nat} {c_this_digits : ClassId} {c_this_page_row : ClassId} {v_width : Int32} {res : Int32 × (Nat → Int32) × Int32 × (Nat → Int32)} {k97 : Int32 → Int32 → Int32 → Int32 → (Nat → Int32) → Int32 → (Nat → Int32) → Int32 → Int64 → Int32 → Int32 → Option (Int32 × (Nat → Int32) × Int32 × (Nat → Int32))} (cx : cxx p s m args meth c b_Writer_putWith16 10 none R_Writer) (hK : va_K (dC, dI) classes [(c_this_digits, .byte), (c_this_page_row, .byte)] s) (hA : ∀ q, s.heap.size ≤ q → A q) (hX : SX X A s s.heap) (hk97 : ∀ (v_count : Int32) (v_letter : Int32) (v_flags : Int32) (v_precision : Int32) (a_digits : (Nat → Int32)) (v_page_length : Int32) (a_page_row : (Nat → Int32)) (y5 : Int32) (y6 : Int64) (y8 : Int32) (y9 : Int32) (H : Heap) (locs : List Loc) (ls : Array Slot), va_P (dC, dI) classes (WS_Writer_putWith16 g_this_exact h_this h_this_digits h_this_page h_this_page_row c_this_digits c_this_page_row v_count v_letter v_flags v_width v_precision a_digits v_page_length a_page_row) H → va_D A (WS_Writer_putWith16 g_this_exact h_this h_this_digits h_this_page h_this_page_row c_this_digits c_this_page_row v_count v_letter v_flags v_width v_precision a_digits v_page_length a_page_row) → va_S A s.heap H locs → lv_has ls 10 [(0, .ref h_this), (5, .int y5), (6, .long y6), (8, .int y8), (9, .int y9)] → k97 v_count v_letter v_flags v_precision a_digits v_page_length a_page_row y5 y6 y8 y9 = some res → W p l e ({ frames := 5, cells := 0, slots := 0, locals := 108 }) s m args below meth c H locs 0 0 (MQ below (va_Qv (fun (u : Int32 × (Nat → Int32) × Int32 × (Nat → Int32)) => some u = some res) (gB (dC, dI) [(c_this_digits, .byte), (c_this_page_row, .byte)] A (fun (u : Int32 × (Nat → Int32) × Int32 × (Nat → Int32)) => (WS_Writer_putWith16 g_this_exact h_this h_this_digits h_this_page h_this_page_row c_this_digits c_this_page_row u.1 v_letter v_flags v_width v_precision u.2.1 u.2.2.1 u.2.2.2))) A) args s 0 0 A) (F0 m 97 ls [])) : ∀ (v_count : Int32) (v_letter : Int32) (v_flags : Int32) (v_precision : Int32) (a_digits : (Nat → Int32)) (v_page_length : Int32) (a_page_row : (Nat → Int32)) (y5 : Int32) (y6 : Int64) (y8 : Int32) (y9 : Int32) (H : Heap) (locs : List Loc) (ls : Array Slot), va_P (dC, dI) classes (WS_Writer_putWith16 g_this_exact h_this h_this_digits h_this_page h_this_page_row c_this_digits c_this_page_row v_count v_letter v_flags v_width v_precision a_digits v_page_length a_page_row) H → va_D A (WS_Writer_putWith16 g_this_exact h_this h_this_digits h_this_page h_this_page_row c_this_digits c_this_page_row v_count v_letter v_flags v_width v_precision a_digits v_page_length a_page_row) → va_S A s.heap H locs → lv_has ls 10 [(0, .ref h_this), (5, .int y5), (6, .long y6), (8, .int y8), (9, .int y9)] → f_Writer_putWith16_97b k97 v_count v_letter v_flags v_precision a_digits v_page_length a_page_row y5 y6 y8 y9 = some res → W p l e ({ frames := 5, cells := 0, slots := 0, locals := 108 }) s m args below meth c H locs 0 0 (MQ below (va_Qv (fun (u : Int32 × (Nat → Int32) × Int32 × (Nat → Int32)) => some u = some res) (gB (dC, dI) [(c_this_digits, .byte), (c_this_page_row, .byte)] A (fun (u : Int32 × (Nat → Int32) × Int32 × (Nat → Int32)) => (WS_Writer_putWith16 g_this_exact h_this h_this_digits h_this_page h_this_page_row c_this_digits c_this_page_row u.1 v_letter v_flags v_width v_precision u.2.1 u.2.2.1 u.2.2.2))) A) args s 0 0 A) (F0 m 97 ls []) := by
  intro v_count v_letter v_flags v_precision a_digits v_page_length a_page_row y5 y6 y8 y9 H locs ls hP hD hS hl h
  obtain ⟨hx, hb, hr, hml, hown, ht, hlk⟩ := id cx
  refine lv_iload hx hb d_Writer_putWith16_97 (lv_at hl 4 rfl) ?_
  refine lv_iload hx hb d_Writer_putWith16_99 (lv_at hl 3 rfl) ?_
  refine lv_icmp_gt (tgt := 143) hx hb d_Writer_putWith16_101 (by decide) (fun c12 => ?_) (fun c12 => ?_)
  · have h := if_t c12 h
    exact s_Writer_putWith16_143 cx hK hA hX v_count v_letter v_flags v_precision a_digits v_page_length a_page_row y5 H locs ls hP hD hS (lv_sub hl [0, 1] rfl) h
  · have h := if_f c12 h
    refine lv_aload_n hx hb d_Writer_putWith16_104 rfl (lv_at hl 0 rfl) ?_
    refine va_get (D := (dC, dI)) (ci := 6) (v := .ref h_this_page) (C := R_Writer) (T := F_Writer) (N := 8) hx hb ht i_Writer hown hK hP 0 rfl rfl 0 (by decide) (ht _ q_241) (fun _ h9 => h9) rfl d_Writer_putWith16_105 ?_
    refine lv_iload hx hb d_Writer_putWith16_108 (lv_at hl 4 rfl) ?_
    refine lv_bipush (v := 13) hx hb d_Writer_putWith16_110 (by decide) ?_
    refine lv_icmp_le (tgt := 120) hx hb d_Writer_putWith16_112 (by decide) (fun c13 => ?_) (fun c13 => ?_)
    · have h := if_t c13 h
      refine lv_aload_n hx hb d_Writer_putWith16_120 rfl (lv_at hl 0 rfl) ?_
      refine lv_lload hx hb d_Writer_putWith16_121 (lv_at hl 2 rfl) ?_
      refine lv_iconst (v := 4) hx hb d_Writer_putWith16_123 (by decide) ?_
      refine lv_bipush (v := 13) hx hb d_Writer_putWith16_124 (by decide) ?_
      refine lv_iload hx hb d_Writer_putWith16_126 (lv_at hl 4 rfl) ?_
      refine lv_isub hx hb d_Writer_putWith16_128 ?_
      refine lv_imul hx hb d_Writer_putWith16_129 ?_
      refine lv_lushr (v := lus y6 ((4 : Int32) * ((13 : Int32) - y9))) hx hb d_Writer_putWith16_130 rfl ?_
      obtain ⟨r14, hf, h⟩ := bi1_x h
      refine clVi (D := (dC, dI)) (n := 1) (As := [.long (lus y6 ((4 : Int32) * ((13 : Int32) - y9)))]) ⟨hx, hb, hml, hown, ht⟩ (c_Writer_digitOf16 l dC dI X h_this_page g_this_exact h_this_digits h_this H.size v_count v_letter v_flags v_width v_precision (lus y6 ((4 : Int32) * ((13 : Int32) - y9))) r14 hf) (gV q_279 q_280 q_281 q_239 q_282) (by decide +kernel) ⟨rfl, rfl, Nat.le_of_ble_eq_true rfl, Nat.le_of_ble_eq_true rfl⟩ hK hP hD hS hA hX [0] [1, 2, 3] [] rfl (wr := [(h_this_digits, .inl (c_this_digits, 22, .inl a_digits)), (h_this_page, .inr (5, [.ref h_this_page_row, .int v_page_length])), (h_this_page_row, .inl (c_this_page_row, 420, .inl a_page_row))]) rfl (by decide) (by decide) (by decide) rfl (va_recv hK hP (ci := 6) (q0 := 0) rfl rfl) rfl hl.1 rfl (lv_room (Nat.le_of_ble_eq_true rfl)) d_Writer_putWith16_131 ⟨Nat.zero_le _, Nat.zero_le _⟩ (fun r9 u9 H locs h9 hP hD hS => ?_)
      cases h9
      have hP : va_P (dC, dI) classes (WS_Writer_putWith16 g_this_exact h_this h_this_digits h_this_page h_this_page_row c_this_digits c_this_page_row v_count v_letter v_flags v_width v_precision a_digits v_page_length a_page_row) H := hP.sub [3, 0, 1, 2] rfl
      have hD : va_D A (WS_Writer_putWith16 g_this_exact h_this h_this_digits h_this_page h_this_page_row c_this_digits c_this_page_row v_count v_letter v_flags v_width v_precision a_digits v_page_length a_page_row) := hD.sub [3, 0, 1, 2] (by decide) rfl
      exact s_Writer_putWith16_134 cx hK hA hX hk97 v_count v_letter v_flags v_precision a_digits v_page_length a_page_row y5 y6 y8 y9 r14 H locs ls hP hD hS (lv_sub hl [0, 1, 2, 3, 4] rfl) h
    · have h := if_f c13 h
      refine lv_bipush (v := 48) hx hb d_Writer_putWith16_115 (by decide) ?_
      refine lv_goto (tgt := 134) hx hb d_Writer_putWith16_117 (by decide) ?_
      exact s_Writer_putWith16_134 cx hK hA hX hk97 v_count v_letter v_flags v_precision a_digits v_page_length a_page_row y5 y6 y8 y9 (48 : Int32) H locs ls hP hD hS (lv_sub hl [0, 1, 2, 3, 4] rfl) h
set_option maxHeartbeats 4000000 in
set_option maxRecDepth 100000 in
theorem s_Writer_putWith16_97 {p : Program} {l : Launch} {e : Env} {s : State} {m : MethodId} {args : Array Value} {below : List Frame} {meth : Method} {c : Code} {dC : Nat → ClassId} {dI : Nat → Nat → Nat} {A : Nat → Prop} {X : SXT} {g_this_exact : Nat} {h_this : Nat} {h_this_digits : Nat} {h_this_page : Nat} {h_this_page_row : Nat} {c_this_digits : ClassId} {c_this_page_row : ClassId} {v_width : Int32} {res : Int32 × (Nat → Int32) × Int32 × (Nat → Int32)}  (cx : cxx p s m args meth c b_Writer_putWith16 10 none R_Writer) (hK : va_K (dC, dI) classes [(c_this_digits, .byte), (c_this_page_row, .byte)] s) (hA : ∀ q, s.heap.size ≤ q → A q) (hX : SX X A s s.heap)  : ∀ n : Nat, ∀ (v_count : Int32) (v_letter : Int32) (v_flags : Int32) (v_precision : Int32) (a_digits : (Nat → Int32)) (v_page_length : Int32) (a_page_row : (Nat → Int32)) (y5 : Int32) (y6 : Int64) (y8 : Int32) (y9 : Int32) (H : Heap) (locs : List Loc) (ls : Array Slot), va_P (dC, dI) classes (WS_Writer_putWith16 g_this_exact h_this h_this_digits h_this_page h_this_page_row c_this_digits c_this_page_row v_count v_letter v_flags v_width v_precision a_digits v_page_length a_page_row) H → va_D A (WS_Writer_putWith16 g_this_exact h_this h_this_digits h_this_page h_this_page_row c_this_digits c_this_page_row v_count v_letter v_flags v_width v_precision a_digits v_page_length a_page_row) → va_S A s.heap H locs → lv_has ls 10 [(0, .ref h_this), (5, .int y5), (6, .long y6), (8, .int y8), (9, .int y9)] → f_Writer_putWith16_97 n v_count v_letter v_flags v_precision a_digits v_page_length a_page_row y5 y6 y8 y9 = some res → W p l e ({ frames := 5, cells := 0, slots := 0, locals := 108 }) s m args below meth c H locs 0 0 (MQ below (va_Qv (fun (u : Int32 × (Nat → Int32) × Int32 × (Nat → Int32)) => some u = some res) (gB (dC, dI) [(c_this_digits, .byte), (c_this_page_row, .byte)] A (fun (u : Int32 × (Nat → Int32) × Int32 × (Nat → Int32)) => (WS_Writer_putWith16 g_this_exact h_this h_this_digits h_this_page h_this_page_row c_this_digits c_this_page_row u.1 v_letter v_flags v_width v_precision u.2.1 u.2.2.1 u.2.2.2))) A) args s 0 0 A) (F0 m 97 ls []) := by
  intro n
  induction n with
  | zero =>
    intro v_count v_letter v_flags v_precision a_digits v_page_length a_page_row y5 y6 y8 y9 H locs ls hP hD hS hl h
    have h9 : (none : Option (Int32 × (Nat → Int32) × Int32 × (Nat → Int32))) = some res := h
    cases h9
  | succ n ih =>
    intro v_count v_letter v_flags v_precision a_digits v_page_length a_page_row y5 y6 y8 y9 H locs ls hP hD hS hl h
    exact s_Writer_putWith16_97b cx hK hA hX ih v_count v_letter v_flags v_precision a_digits v_page_length a_page_row y5 y6 y8 y9 H locs ls hP hD hS hl h
set_option maxHeartbeats 4000000 in
set_option maxRecDepth 100000 in
theorem s_Writer_putWith16_61 {p : Program} {l : Launch} {e : Env} {s : State} {m : MethodId} {args : Array Value} {below : List Frame} {meth : Method} {c : Code} {dC : Nat → ClassId} {dI : Nat → Nat → Nat} {A : Nat → Prop} {X : SXT} {g_this_exact : Nat} {h_this : Nat} {h_this_digits : Nat} {h_this_page : Nat} {h_this_page_row : Nat} {c_this_digits : ClassId} {c_this_page_row : ClassId} {v_width : Int32} {res : Int32 × (Nat → Int32) × Int32 × (Nat → Int32)}  (cx : cxx p s m args meth c b_Writer_putWith16 10 none R_Writer) (hK : va_K (dC, dI) classes [(c_this_digits, .byte), (c_this_page_row, .byte)] s) (hA : ∀ q, s.heap.size ≤ q → A q) (hX : SX X A s s.heap)  : ∀ (v_count : Int32) (v_letter : Int32) (v_flags : Int32) (v_precision : Int32) (a_digits : (Nat → Int32)) (v_page_length : Int32) (a_page_row : (Nat → Int32)) (y5 : Int32) (y6 : Int64) (z0 : Int32) (H : Heap) (locs : List Loc) (ls : Array Slot), va_P (dC, dI) classes (WS_Writer_putWith16 g_this_exact h_this h_this_digits h_this_page h_this_page_row c_this_digits c_this_page_row v_count v_letter v_flags v_width v_precision a_digits v_page_length a_page_row) H → va_D A (WS_Writer_putWith16 g_this_exact h_this h_this_digits h_this_page h_this_page_row c_this_digits c_this_page_row v_count v_letter v_flags v_width v_precision a_digits v_page_length a_page_row) → va_S A s.heap H locs → lv_has ls 10 [(0, .ref h_this), (5, .int y5), (6, .long y6)] → f_Writer_putWith16_61 v_count v_letter v_flags v_precision a_digits v_page_length a_page_row y5 y6 z0 = some res → W p l e ({ frames := 5, cells := 0, slots := 0, locals := 108 }) s m args below meth c H locs 0 0 (MQ below (va_Qv (fun (u : Int32 × (Nat → Int32) × Int32 × (Nat → Int32)) => some u = some res) (gB (dC, dI) [(c_this_digits, .byte), (c_this_page_row, .byte)] A (fun (u : Int32 × (Nat → Int32) × Int32 × (Nat → Int32)) => (WS_Writer_putWith16 g_this_exact h_this h_this_digits h_this_page h_this_page_row c_this_digits c_this_page_row u.1 v_letter v_flags v_width v_precision u.2.1 u.2.2.1 u.2.2.2))) A) args s 0 0 A) (F0 m 61 ls [.int z0]) := by
  intro v_count v_letter v_flags v_precision a_digits v_page_length a_page_row y5 y6 z0 H locs ls hP hD hS hl h
  obtain ⟨hx, hb, hr, hml, hown, ht, hlk⟩ := id cx
  refine lv_istore (lv' := [(8, .int z0), (0, .ref h_this), (5, .int y5), (6, .long y6)]) hx hb d_Writer_putWith16_61 hl (by decide) rfl (fun ls hl => ?_)
  refine lv_lload hx hb d_Writer_putWith16_63 (lv_at hl 3 rfl) ?_
  refine lv_iload hx hb d_Writer_putWith16_65 (lv_at hl 0 rfl) ?_
  obtain ⟨r15, hf, h⟩ := bi1_x h
  refine clSl (D := (dC, dI)) (n := 2) (As := [.long y6, .int z0]) ⟨hx, hb, hml, hown, ht⟩ (c_Writer_roundedOf16 l dC dI X  H.size y6 z0 r15 hf) (gS q_357 q_358 q_239 q_359) (by decide +kernel) ⟨rfl, rfl, Nat.le_of_ble_eq_true rfl, Nat.le_of_ble_eq_true rfl⟩ hK hP hD hS hA hX [] [0, 1, 2, 3] [] rfl (wr := [(h_this, .inr (6, [.ref h_this_page, .ref g_this_exact, .ref h_this_digits, .int v_count, .int v_letter, .int v_flags, .int v_width, .int v_precision])), (h_this_digits, .inl (c_this_digits, 22, .inl a_digits)), (h_this_page, .inr (5, [.ref h_this_page_row, .int v_page_length])), (h_this_page_row, .inl (c_this_page_row, 420, .inl a_page_row))]) rfl (by decide) (by decide) (by decide) rfl rfl hl.1 rfl (lv_room (Nat.le_of_ble_eq_true rfl)) d_Writer_putWith16_67 ⟨Nat.zero_le _, Nat.zero_le _⟩ (fun r9 u9 H locs h9 hP hD hS => ?_)
  cases h9
  have hP : va_P (dC, dI) classes (WS_Writer_putWith16 g_this_exact h_this h_this_digits h_this_page h_this_page_row c_this_digits c_this_page_row v_count v_letter v_flags v_width v_precision a_digits v_page_length a_page_row) H := hP.sub [0, 1, 2, 3] rfl
  have hD : va_D A (WS_Writer_putWith16 g_this_exact h_this h_this_digits h_this_page h_this_page_row c_this_digits c_this_page_row v_count v_letter v_flags v_width v_precision a_digits v_page_length a_page_row) := hD.sub [0, 1, 2, 3] (by decide) rfl
  refine lv_lstore (lv' := [(6, .long r15), (8, .int z0), (0, .ref h_this), (5, .int y5)]) hx hb d_Writer_putWith16_70 hl (by decide) rfl (fun ls hl => ?_)
  refine lv_aload_n hx hb d_Writer_putWith16_72 rfl (lv_at hl 2 rfl) ?_
  refine va_get (D := (dC, dI)) (ci := 6) (v := .ref h_this_page) (C := R_Writer) (T := F_Writer) (N := 8) hx hb ht i_Writer hown hK hP 0 rfl rfl 0 (by decide) (ht _ q_241) (fun _ h9 => h9) rfl d_Writer_putWith16_73 ?_
  refine lv_bipush (v := 48) hx hb d_Writer_putWith16_76 (by decide) ?_
  refine lv_lload hx hb d_Writer_putWith16_78 (lv_at hl 0 rfl) ?_
  refine lv_bipush (v := 52) hx hb d_Writer_putWith16_80 (by decide) ?_
  refine lv_lushr (v := lus r15 (52 : Int32)) hx hb d_Writer_putWith16_82 rfl ?_
  refine lv_l2i (v := (lus r15 (52 : Int32)).toInt32) hx hb d_Writer_putWith16_83 rfl ?_
  refine lv_iadd hx hb d_Writer_putWith16_84 ?_
  obtain ⟨v16, a17, hf, h⟩ := bi2_x h
  refine clVv (D := (dC, dI)) (n := 1) (As := [.int ((48 : Int32) + ((lus r15 (52 : Int32)).toInt32))]) ⟨hx, hb, hml, hown, ht⟩ (c_Page_put l dC dI X h_this_page h_this_page_row c_this_page_row H.size v_page_length a_page_row ((48 : Int32) + ((lus r15 (52 : Int32)).toInt32)) (v16, a17) hf) (gV q_242 q_243 q_244 q_245 q_246) (by decide +kernel) ⟨rfl, rfl, Nat.le_of_ble_eq_true rfl, Nat.le_of_ble_eq_true rfl⟩ hK hP hD hS hA hX [2, 3] [0, 1] [1] rfl (wr := [(h_this, .inr (6, [.ref h_this_page, .ref g_this_exact, .ref h_this_digits, .int v_count, .int v_letter, .int v_flags, .int v_width, .int v_precision])), (h_this_digits, .inl (c_this_digits, 22, .inl a_digits))]) rfl (by decide) (by decide) (by decide) rfl (va_recv hK hP (ci := 5) (q0 := 2) rfl rfl) rfl hl.1 rfl (lv_room (Nat.le_of_ble_eq_true rfl)) d_Writer_putWith16_85 ⟨Nat.zero_le _, Nat.zero_le _⟩ (fun u9 H locs h9 hP hD hS => ?_)
  cases h9
  have hP : va_P (dC, dI) classes (WS_Writer_putWith16 g_this_exact h_this h_this_digits h_this_page h_this_page_row c_this_digits c_this_page_row v_count v_letter v_flags v_width v_precision a_digits v16 a17) H := hP.sub [0, 1, 2, 3] rfl
  have hD : va_D A (WS_Writer_putWith16 g_this_exact h_this h_this_digits h_this_page h_this_page_row c_this_digits c_this_page_row v_count v_letter v_flags v_width v_precision a_digits v16 a17) := hD.sub [0, 1, 2, 3] (by decide) rfl
  refine lv_aload_n hx hb d_Writer_putWith16_88 rfl (lv_at hl 2 rfl) ?_
  refine lv_iload hx hb d_Writer_putWith16_89 (lv_at hl 1 rfl) ?_
  obtain ⟨v18, a19, hf, h⟩ := bi2_x h
  refine clVv (D := (dC, dI)) (n := 1) (As := [.int z0]) ⟨hx, hb, hml, hown, ht⟩ (c_Writer_putPoint l dC dI X g_this_exact h_this_digits h_this h_this_page h_this_page_row c_this_page_row H.size v_count v_letter v_flags v_width v_precision v16 a17 z0 (v18, a19) hf) (gV q_360 q_361 q_362 q_239 q_363) (by decide +kernel) ⟨rfl, rfl, Nat.le_of_ble_eq_true rfl, Nat.le_of_ble_eq_true rfl⟩ hK hP hD hS hA hX [0, 2, 3] [1] [1] rfl (wr := [(h_this_digits, .inl (c_this_digits, 22, .inl a_digits))]) rfl (by decide) (by decide) (by decide) rfl (va_recv hK hP (ci := 6) (q0 := 0) rfl rfl) rfl hl.1 rfl (lv_room (Nat.le_of_ble_eq_true rfl)) d_Writer_putWith16_91 ⟨Nat.zero_le _, Nat.zero_le _⟩ (fun u9 H locs h9 hP hD hS => ?_)
  cases h9
  have hP : va_P (dC, dI) classes (WS_Writer_putWith16 g_this_exact h_this h_this_digits h_this_page h_this_page_row c_this_digits c_this_page_row v_count v_letter v_flags v_width v_precision a_digits v18 a19) H := hP.sub [1, 0, 2, 3] rfl
  have hD : va_D A (WS_Writer_putWith16 g_this_exact h_this h_this_digits h_this_page h_this_page_row c_this_digits c_this_page_row v_count v_letter v_flags v_width v_precision a_digits v18 a19) := hD.sub [1, 0, 2, 3] (by decide) rfl
  refine lv_iconst (v := 1) hx hb d_Writer_putWith16_94 (by decide) ?_
  refine lv_istore (lv' := [(9, .int (1 : Int32)), (6, .long r15), (8, .int z0), (0, .ref h_this), (5, .int y5)]) hx hb d_Writer_putWith16_95 hl (by decide) rfl (fun ls hl => ?_)
  exact s_Writer_putWith16_97 cx hK hA hX fu v_count v_letter v_flags v_precision a_digits v18 a19 y5 r15 z0 (1 : Int32) H locs ls hP hD hS (lv_sub hl [3, 4, 1, 2, 0] rfl) h
set_option maxHeartbeats 4000000 in
set_option maxRecDepth 100000 in
theorem s_Writer_putWith16_28 {p : Program} {l : Launch} {e : Env} {s : State} {m : MethodId} {args : Array Value} {below : List Frame} {meth : Method} {c : Code} {dC : Nat → ClassId} {dI : Nat → Nat → Nat} {A : Nat → Prop} {X : SXT} {g_this_exact : Nat} {h_this : Nat} {h_this_digits : Nat} {h_this_page : Nat} {h_this_page_row : Nat} {c_this_digits : ClassId} {c_this_page_row : ClassId} {v_width : Int32} {res : Int32 × (Nat → Int32) × Int32 × (Nat → Int32)}  (cx : cxx p s m args meth c b_Writer_putWith16 10 none R_Writer) (hK : va_K (dC, dI) classes [(c_this_digits, .byte), (c_this_page_row, .byte)] s) (hA : ∀ q, s.heap.size ≤ q → A q) (hX : SX X A s s.heap)  : ∀ (v_count : Int32) (v_letter : Int32) (v_flags : Int32) (v_precision : Int32) (a_digits : (Nat → Int32)) (v_page_length : Int32) (a_page_row : (Nat → Int32)) (y1 : Int64) (y3 : Int32) (z0 : Int32) (H : Heap) (locs : List Loc) (ls : Array Slot), va_P (dC, dI) classes (WS_Writer_putWith16 g_this_exact h_this h_this_digits h_this_page h_this_page_row c_this_digits c_this_page_row v_count v_letter v_flags v_width v_precision a_digits v_page_length a_page_row) H → va_D A (WS_Writer_putWith16 g_this_exact h_this h_this_digits h_this_page h_this_page_row c_this_digits c_this_page_row v_count v_letter v_flags v_width v_precision a_digits v_page_length a_page_row) → va_S A s.heap H locs → lv_has ls 10 [(0, .ref h_this), (1, .long y1), (3, .int y3)] → f_Writer_putWith16_28 v_count v_letter v_flags v_precision a_digits v_page_length a_page_row y1 y3 z0 = some res → W p l e ({ frames := 5, cells := 0, slots := 0, locals := 108 }) s m args below meth c H locs 0 0 (MQ below (va_Qv (fun (u : Int32 × (Nat → Int32) × Int32 × (Nat → Int32)) => some u = some res) (gB (dC, dI) [(c_this_digits, .byte), (c_this_page_row, .byte)] A (fun (u : Int32 × (Nat → Int32) × Int32 × (Nat → Int32)) => (WS_Writer_putWith16 g_this_exact h_this h_this_digits h_this_page h_this_page_row c_this_digits c_this_page_row u.1 v_letter v_flags v_width v_precision u.2.1 u.2.2.1 u.2.2.2))) A) args s 0 0 A) (F0 m 28 ls [.int z0]) := by
  intro v_count v_letter v_flags v_precision a_digits v_page_length a_page_row y1 y3 z0 H locs ls hP hD hS hl h
  obtain ⟨hx, hb, hr, hml, hown, ht, hlk⟩ := id cx
  refine lv_istore (lv' := [(5, .int z0), (0, .ref h_this), (1, .long y1), (3, .int y3)]) hx hb d_Writer_putWith16_28 hl (by decide) rfl (fun ls hl => ?_)
  refine lv_lload_n hx hb d_Writer_putWith16_30 rfl (lv_at hl 2 rfl) ?_
  refine lv_iload_n hx hb d_Writer_putWith16_31 rfl (lv_at hl 3 rfl) ?_
  refine lv_iload hx hb d_Writer_putWith16_32 (lv_at hl 0 rfl) ?_
  refine lv_isub hx hb d_Writer_putWith16_34 ?_
  refine lv_bipush (v := 52) hx hb d_Writer_putWith16_35 (by decide) ?_
  refine lv_iadd hx hb d_Writer_putWith16_37 ?_
  refine lv_lshl (v := lsl y1 ((y3 - z0) + (52 : Int32))) hx hb d_Writer_putWith16_38 rfl ?_
  refine lv_topl (fun x20 e_x20 => ?_)
  have h := bd_g e_x20 h
  refine lv_lstore (lv' := [(6, .long x20), (5, .int z0), (0, .ref h_this), (1, .long y1), (3, .int y3)]) hx hb d_Writer_putWith16_39 hl (by decide) rfl (fun ls hl => ?_)
  refine lv_aload_n hx hb d_Writer_putWith16_41 rfl (lv_at hl 2 rfl) ?_
  refine va_get (D := (dC, dI)) (ci := 6) (v := .int v_precision) (C := R_Writer) (T := F_Writer) (N := 8) hx hb ht i_Writer hown hK hP 0 rfl rfl 7 (by decide) (ht _ q_233) (fun _ h9 => h9) rfl d_Writer_putWith16_42 ?_
  refine lv_iconst (v := -1) hx hb d_Writer_putWith16_45 (by decide) ?_
  refine lv_icmp_ne (tgt := 57) hx hb d_Writer_putWith16_46 (by decide) (fun c21 => ?_) (fun c21 => ?_)
  · have h := if_f c21 h
    refine lv_aload_n hx hb d_Writer_putWith16_57 rfl (lv_at hl 2 rfl) ?_
    refine va_get (D := (dC, dI)) (ci := 6) (v := .int v_precision) (C := R_Writer) (T := F_Writer) (N := 8) hx hb ht i_Writer hown hK hP 0 rfl rfl 7 (by decide) (ht _ q_233) (fun _ h9 => h9) rfl d_Writer_putWith16_58 ?_
    exact s_Writer_putWith16_61 cx hK hA hX v_count v_letter v_flags v_precision a_digits v_page_length a_page_row z0 x20 v_precision H locs ls hP hD hS (lv_sub hl [2, 1, 0] rfl) h
  · have h := if_t c21 h
    refine lv_lload hx hb d_Writer_putWith16_49 (lv_at hl 0 rfl) ?_
    obtain ⟨r22, hf, h⟩ := bi1_x h
    refine clSi (D := (dC, dI)) (n := 1) (As := [.long x20]) ⟨hx, hb, hml, hown, ht⟩ (c_Writer_neededOf16 l dC dI X  H.size x20 r22 hf) (gS q_364 q_365 q_239 q_366) (by decide +kernel) ⟨rfl, rfl, Nat.le_of_ble_eq_true rfl, Nat.le_of_ble_eq_true rfl⟩ hK hP hD hS hA hX [] [0, 1, 2, 3] [] rfl (wr := [(h_this, .inr (6, [.ref h_this_page, .ref g_this_exact, .ref h_this_digits, .int v_count, .int v_letter, .int v_flags, .int v_width, .int v_precision])), (h_this_digits, .inl (c_this_digits, 22, .inl a_digits)), (h_this_page, .inr (5, [.ref h_this_page_row, .int v_page_length])), (h_this_page_row, .inl (c_this_page_row, 420, .inl a_page_row))]) rfl (by decide) (by decide) (by decide) rfl rfl hl.1 rfl (lv_room (Nat.le_of_ble_eq_true rfl)) d_Writer_putWith16_51 ⟨Nat.zero_le _, Nat.zero_le _⟩ (fun r9 u9 H locs h9 hP hD hS => ?_)
    cases h9
    have hP : va_P (dC, dI) classes (WS_Writer_putWith16 g_this_exact h_this h_this_digits h_this_page h_this_page_row c_this_digits c_this_page_row v_count v_letter v_flags v_width v_precision a_digits v_page_length a_page_row) H := hP.sub [0, 1, 2, 3] rfl
    have hD : va_D A (WS_Writer_putWith16 g_this_exact h_this h_this_digits h_this_page h_this_page_row c_this_digits c_this_page_row v_count v_letter v_flags v_width v_precision a_digits v_page_length a_page_row) := hD.sub [0, 1, 2, 3] (by decide) rfl
    refine lv_goto (tgt := 61) hx hb d_Writer_putWith16_54 (by decide) ?_
    exact s_Writer_putWith16_61 cx hK hA hX v_count v_letter v_flags v_precision a_digits v_page_length a_page_row z0 x20 r22 H locs ls hP hD hS (lv_sub hl [2, 1, 0] rfl) h
set_option maxHeartbeats 4000000 in
set_option maxRecDepth 100000 in
theorem s_Writer_putWith16_e {p : Program} {l : Launch} {e : Env} {s : State} {m : MethodId} {args : Array Value} {below : List Frame} {meth : Method} {c : Code} {dC : Nat → ClassId} {dI : Nat → Nat → Nat} {A : Nat → Prop} {X : SXT} {g_this_exact : Nat} {h_this : Nat} {h_this_digits : Nat} {h_this_page : Nat} {h_this_page_row : Nat} {c_this_digits : ClassId} {c_this_page_row : ClassId} {v_width : Int32} {res : Int32 × (Nat → Int32) × Int32 × (Nat → Int32)} (cx : cxx p s m args meth c b_Writer_putWith16 10 none R_Writer) (hK : va_K (dC, dI) classes [(c_this_digits, .byte), (c_this_page_row, .byte)] s) (hA : ∀ q, s.heap.size ≤ q → A q) (hX : SX X A s s.heap) : ∀ (v_count : Int32) (v_letter : Int32) (v_flags : Int32) (v_precision : Int32) (a_digits : (Nat → Int32)) (v_page_length : Int32) (a_page_row : (Nat → Int32)) (p1 : Int64) (p3 : Int32) (H : Heap) (locs : List Loc) (ls : Array Slot), va_P (dC, dI) classes (WS_Writer_putWith16 g_this_exact h_this h_this_digits h_this_page h_this_page_row c_this_digits c_this_page_row v_count v_letter v_flags v_width v_precision a_digits v_page_length a_page_row) H → va_D A (WS_Writer_putWith16 g_this_exact h_this h_this_digits h_this_page h_this_page_row c_this_digits c_this_page_row v_count v_letter v_flags v_width v_precision a_digits v_page_length a_page_row) → va_S A s.heap H locs → lv_has ls 10 [(0, .ref h_this), (1, .long p1), (3, .int p3)] → f_Writer_putWith16 v_count v_letter v_flags v_precision a_digits v_page_length a_page_row p1 p3 = some res → W p l e ({ frames := 5, cells := 0, slots := 0, locals := 108 }) s m args below meth c H locs 0 0 (MQ below (va_Qv (fun (u : Int32 × (Nat → Int32) × Int32 × (Nat → Int32)) => some u = some res) (gB (dC, dI) [(c_this_digits, .byte), (c_this_page_row, .byte)] A (fun (u : Int32 × (Nat → Int32) × Int32 × (Nat → Int32)) => (WS_Writer_putWith16 g_this_exact h_this h_this_digits h_this_page h_this_page_row c_this_digits c_this_page_row u.1 v_letter v_flags v_width v_precision u.2.1 u.2.2.1 u.2.2.2))) A) args s 0 0 A) (F0 m 0 ls []) := by
  intro v_count v_letter v_flags v_precision a_digits v_page_length a_page_row p1 p3 H locs ls hP hD hS hl h
  obtain ⟨hx, hb, hr, hml, hown, ht, hlk⟩ := id cx
  refine lv_lload_n hx hb d_Writer_putWith16_0 rfl (lv_at hl 1 rfl) ?_
  obtain ⟨r23, hf, h⟩ := bi1_x h
  refine clNi (D := (dC, dI)) (n := 1) (As := [.long p1]) ⟨hx, hb, hml, hown, ht⟩ (c_N_bitsOf l dC dI X  H.size p1 r23 hf) (hX.nest 2 rfl) (gN q_85 q_86 q_87) (by decide +kernel) ⟨rfl, rfl, Nat.le_of_ble_eq_true rfl, Nat.le_of_ble_eq_true rfl⟩ hK hP hD hS hA hX [] [0, 1, 2, 3] [] rfl (wr := [(h_this, .inr (6, [.ref h_this_page, .ref g_this_exact, .ref h_this_digits, .int v_count, .int v_letter, .int v_flags, .int v_width, .int v_precision])), (h_this_digits, .inl (c_this_digits, 22, .inl a_digits)), (h_this_page, .inr (5, [.ref h_this_page_row, .int v_page_length])), (h_this_page_row, .inl (c_this_page_row, 420, .inl a_page_row))]) rfl (by decide) (by decide) (by decide) rfl rfl hl.1 rfl (lv_room (Nat.le_of_ble_eq_true rfl)) d_Writer_putWith16_1 ⟨Nat.zero_le _, Nat.zero_le _⟩ (fun r9 u9 H locs h9 hP hD hS => ?_)
  cases h9
  have hP : va_P (dC, dI) classes (WS_Writer_putWith16 g_this_exact h_this h_this_digits h_this_page h_this_page_row c_this_digits c_this_page_row v_count v_letter v_flags v_width v_precision a_digits v_page_length a_page_row) H := hP.sub [0, 1, 2, 3] rfl
  have hD : va_D A (WS_Writer_putWith16 g_this_exact h_this h_this_digits h_this_page h_this_page_row c_this_digits c_this_page_row v_count v_letter v_flags v_width v_precision a_digits v_page_length a_page_row) := hD.sub [0, 1, 2, 3] (by decide) rfl
  refine lv_iconst (v := 1) hx hb d_Writer_putWith16_4 (by decide) ?_
  refine lv_isub hx hb d_Writer_putWith16_5 ?_
  refine lv_iload_n hx hb d_Writer_putWith16_6 rfl (lv_at hl 2 rfl) ?_
  refine lv_iadd hx hb d_Writer_putWith16_7 ?_
  refine lv_topi (fun x24 e_x24 => ?_)
  have h := bd_g e_x24 h
  refine lv_istore (lv' := [(4, .int x24), (0, .ref h_this), (1, .long p1), (3, .int p3)]) hx hb d_Writer_putWith16_8 hl (by decide) rfl (fun ls hl => ?_)
  refine lv_lload_n hx hb d_Writer_putWith16_10 rfl (lv_at hl 2 rfl) ?_
  refine lv_lconst (v := 0) hx hb d_Writer_putWith16_11 (by decide) ?_
  refine W.lcmp hx hb d_Writer_putWith16_12 ?_
  refine lv_if_ne (tgt := 20) hx hb d_Writer_putWith16_13 (by decide) (fun c25 => ?_) (fun c25 => ?_)
  · have c25 := fun h9 => c25 ((lg_cmp_eq _ _).mpr h9)
    have h := if_f c25 h
    refine lv_iload hx hb d_Writer_putWith16_20 (lv_at hl 0 rfl) ?_
    refine lv_sipush (v := -1022) hx hb d_Writer_putWith16_22 (by decide) ?_
    refine va_mmax hx hb (hml.trans hl.1.symm) hown (ht _ q_326) (ht _ q_101) (ht _ q_40) (ht _ q_102) (Nat.le_of_ble_eq_true rfl) (Nat.le_of_ble_eq_true rfl) (Nat.zero_le _) (Nat.zero_le _) d_Writer_putWith16_25 ?_
    refine W.eq (g2 := F0 m 28 ls (.int (imx x24 (-1022 : Int32)) :: [])) rfl ?_
    exact s_Writer_putWith16_28 cx hK hA hX v_count v_letter v_flags v_precision a_digits v_page_length a_page_row p1 p3 (imx x24 (-1022 : Int32)) H locs ls hP hD hS (lv_sub hl [1, 2, 3] rfl) h
  · have c25 := (lg_cmp_eq _ _).mp c25
    have h := if_t c25 h
    refine lv_iconst (v := 0) hx hb d_Writer_putWith16_16 (by decide) ?_
    refine lv_goto (tgt := 28) hx hb d_Writer_putWith16_17 (by decide) ?_
    exact s_Writer_putWith16_28 cx hK hA hX v_count v_letter v_flags v_precision a_digits v_page_length a_page_row p1 p3 (0 : Int32) H locs ls hP hD hS (lv_sub hl [1, 2, 3] rfl) h
set_option maxHeartbeats 4000000 in
set_option maxRecDepth 100000 in
theorem c_Writer_putWith16 (l : Launch) (dC : Nat → ClassId) (dI : Nat → Nat → Nat) (X : SXT) (g_this_exact : Nat) (h_this : Nat) (h_this_digits : Nat) (h_this_page : Nat) (h_this_page_row : Nat) (c_this_digits : ClassId) (c_this_page_row : ClassId) (sz : Nat) (v_count : Int32) (v_letter : Int32) (v_flags : Int32) (v_width : Int32) (v_precision : Int32) (a_digits : (Nat → Int32)) (v_page_length : Int32) (a_page_row : (Nat → Int32)) (p1 : Int64) (p3 : Int32) (res : Int32 × (Nat → Int32) × Int32 × (Nat → Int32)) (hf : f_Writer_putWith16 v_count v_letter v_flags v_precision a_digits v_page_length a_page_row p1 p3 = some res) : Met l y_Writer_putWith16 (.code y_Writer_putWith16 b_Writer_putWith16 10 none :: w0) ({ frames := 5, cells := 0, slots := 0, locals := 108 }) (va_Pc [.ref h_this, .long p1, .int p3] (gP (dC, dI) (WS_Writer_putWith16 g_this_exact h_this h_this_digits h_this_page h_this_page_row c_this_digits c_this_page_row v_count v_letter v_flags v_width v_precision a_digits v_page_length a_page_row) [(c_this_digits, .byte), (c_this_page_row, .byte)] sz X)) (va_Qv (fun (u : Int32 × (Nat → Int32) × Int32 × (Nat → Int32)) => some u = some res) (gB (dC, dI) [(c_this_digits, .byte), (c_this_page_row, .byte)] (va_A (WS_Writer_putWith16 g_this_exact h_this h_this_digits h_this_page h_this_page_row c_this_digits c_this_page_row v_count v_letter v_flags v_width v_precision a_digits v_page_length a_page_row) sz) (fun (u : Int32 × (Nat → Int32) × Int32 × (Nat → Int32)) => (WS_Writer_putWith16 g_this_exact h_this h_this_digits h_this_page h_this_page_row c_this_digits c_this_page_row u.1 v_letter v_flags v_width v_precision u.2.1 u.2.2.1 u.2.2.2))) (va_A (WS_Writer_putWith16 g_this_exact h_this h_this_digits h_this_page h_this_page_row c_this_digits c_this_page_row v_count v_letter v_flags v_width v_precision a_digits v_page_length a_page_row) sz)) 0 0 (va_A (WS_Writer_putWith16 g_this_exact h_this h_this_digits h_this_page h_this_page_row c_this_digits c_this_page_row v_count v_letter v_flags v_width v_precision a_digits v_page_length a_page_row) sz) := by
  refine Met.ofW (cc := b_Writer_putWith16) (maxL := 10) (ret := none) (by decide) rfl ?_
  intro p e s m args below meth c s₁ B hml hv
  obtain ⟨rfl, hsz, hP, hK, hD0, hX⟩ := hv
  subst hsz
  have cx : cxx p s m ([.ref h_this, .long p1, .int p3] : List Value).toArray meth c b_Writer_putWith16 10 none R_Writer := ⟨B.exec, B.bytes, B.returns, hml, findClass_of_methodNamed B.named, fun w9 hw => atoms_spec (ws := .code y_Writer_putWith16 b_Writer_putWith16 10 none :: w0) B.pre w9 (List.mem_cons_of_mem _ hw), B.notSynchronized⟩
  have hD := hD0.self (sz := s.heap.size)
  generalize hAe : va_A (WS_Writer_putWith16 g_this_exact h_this h_this_digits h_this_page h_this_page_row c_this_digits c_this_page_row v_count v_letter v_flags v_width v_precision a_digits v_page_length a_page_row) s.heap.size = A at hD hX ⊢
  have hA : ∀ q : Nat, s.heap.size ≤ q → A q := fun q h => by rw [← hAe]; exact Or.inr h
  have hS : va_S A s.heap s.heap [] := va_S.rf
  have hl := lv_entry ([.ref h_this, .long p1, .int p3]) (n := 10) (Nat.le_of_ble_eq_true rfl)
  rw [lg_entry_eq]
  generalize (lg_sl ([.ref h_this, .long p1, .int p3]) ++ List.replicate (10 - (lg_sl ([.ref h_this, .long p1, .int p3])).length) Slot.unset).toArray = ls at hl ⊢
  have hl : lv_has ls 10 [(0, .ref h_this), (1, .long p1), (3, .int p3)] := hl
  exact s_Writer_putWith16_e cx hK hA hX v_count v_letter v_flags v_precision a_digits v_page_length a_page_row p1 p3 s.heap [] ls hP hD hS hl hf
abbrev WS_Decimal_digit (h_this : Nat) (h_this_row : Nat) (c_this_row : ClassId) (v_first : Int32) (v_last : Int32) (a_row : (Nat → Int32)) : va_W := [(h_this, .inr (3, [.ref h_this_row, .int v_first, .int v_last])), (h_this_row, .inl (c_this_row, 208, .inl a_row))]
def f_Decimal_digit (a_row : (Nat → Int32)) (p1 : Int32) : Option (Int32) :=
  bi1 (f_Decimal_unitOf p1) fun r1 =>
  if 0 < r1 then
    bi1 (f_Decimal_limbOf p1) fun r3 =>
    bi1 (f_Decimal_limb a_row r3) fun r4 =>
    ck (¬ r1 = 0) <|
    some (irm (r4 / r1) (10 : Int32))
  else
    some (0 : Int32)
set_option maxHeartbeats 4000000 in
set_option maxRecDepth 100000 in
theorem s_Decimal_digit_e {p : Program} {l : Launch} {e : Env} {s : State} {m : MethodId} {args : Array Value} {below : List Frame} {meth : Method} {c : Code} {dC : Nat → ClassId} {dI : Nat → Nat → Nat} {A : Nat → Prop} {X : SXT} {h_this : Nat} {h_this_row : Nat} {c_this_row : ClassId} {v_first : Int32} {v_last : Int32} {res : Int32} (cx : cxx p s m args meth c b_Decimal_digit 3 (some .int) R_Decimal) (hK : va_K (dC, dI) classes [(c_this_row, .int)] s) (hA : ∀ q, s.heap.size ≤ q → A q) (hX : SX X A s s.heap) : ∀ (a_row : (Nat → Int32)) (p1 : Int32) (H : Heap) (locs : List Loc) (ls : Array Slot), va_P (dC, dI) classes (WS_Decimal_digit h_this h_this_row c_this_row v_first v_last a_row) H → va_D A (WS_Decimal_digit h_this h_this_row c_this_row v_first v_last a_row) → va_S A s.heap H locs → lv_has ls 3 [(0, .ref h_this), (1, .int p1)] → f_Decimal_digit a_row p1 = some res → W p l e ({ frames := 1, cells := 0, slots := 0, locals := 21 }) s m args below meth c H locs 0 0 (MQ below (va_Qi (fun (r : Int32) (_ : Unit) => some r = some res) (gB (dC, dI) [(c_this_row, .int)] A (fun (u : Unit) => (WS_Decimal_digit h_this h_this_row c_this_row v_first v_last a_row))) A) args s 0 0 A) (F0 m 0 ls []) := by
  intro a_row p1 H locs ls hP hD hS hl h
  obtain ⟨hx, hb, hr, hml, hown, ht, hlk⟩ := id cx
  refine lv_iload_n hx hb d_Decimal_digit_0 rfl (lv_at hl 1 rfl) ?_
  obtain ⟨r1, hf, h⟩ := bi1_x h
  refine clSi (D := (dC, dI)) (n := 1) (As := [.int p1]) ⟨hx, hb, hml, hown, ht⟩ (c_Decimal_unitOf l dC dI X  H.size p1 r1 hf) (gS q_128 q_129 q_113 q_130) (by decide +kernel) ⟨rfl, rfl, Nat.le_of_ble_eq_true rfl, Nat.le_of_ble_eq_true rfl⟩ hK hP hD hS hA hX [] [0, 1] [] rfl (wr := [(h_this, .inr (3, [.ref h_this_row, .int v_first, .int v_last])), (h_this_row, .inl (c_this_row, 208, .inl a_row))]) rfl (by decide) (by decide) (by decide) rfl rfl hl.1 rfl (lv_room (Nat.le_of_ble_eq_true rfl)) d_Decimal_digit_1 ⟨Nat.zero_le _, Nat.zero_le _⟩ (fun r9 u9 H locs h9 hP hD hS => ?_)
  cases h9
  have hP : va_P (dC, dI) classes (WS_Decimal_digit h_this h_this_row c_this_row v_first v_last a_row) H := hP.sub [0, 1] rfl
  have hD : va_D A (WS_Decimal_digit h_this h_this_row c_this_row v_first v_last a_row) := hD.sub [0, 1] (by decide) rfl
  refine lv_istore_n (lv' := [(2, .int r1), (0, .ref h_this), (1, .int p1)]) hx hb d_Decimal_digit_4 rfl hl (by decide) rfl (fun ls hl => ?_)
  refine lv_iload_n hx hb d_Decimal_digit_5 rfl (lv_at hl 0 rfl) ?_
  refine lv_if_gt (tgt := 13) hx hb d_Decimal_digit_6 (by decide) (fun c2 => ?_) (fun c2 => ?_)
  · have h := if_t c2 h
    refine lv_aload_n hx hb d_Decimal_digit_13 rfl (lv_at hl 1 rfl) ?_
    refine lv_iload_n hx hb d_Decimal_digit_14 rfl (lv_at hl 2 rfl) ?_
    obtain ⟨r3, hf, h⟩ := bi1_x h
    refine clSi (D := (dC, dI)) (n := 1) (As := [.int p1]) ⟨hx, hb, hml, hown, ht⟩ (c_Decimal_limbOf l dC dI X  H.size p1 r3 hf) (gS q_125 q_126 q_113 q_127) (by decide +kernel) ⟨rfl, rfl, Nat.le_of_ble_eq_true rfl, Nat.le_of_ble_eq_true rfl⟩ hK hP hD hS hA hX [] [0, 1] [] rfl (wr := [(h_this, .inr (3, [.ref h_this_row, .int v_first, .int v_last])), (h_this_row, .inl (c_this_row, 208, .inl a_row))]) rfl (by decide) (by decide) (by decide) rfl rfl hl.1 rfl (lv_room (Nat.le_of_ble_eq_true rfl)) d_Decimal_digit_15 ⟨Nat.zero_le _, Nat.zero_le _⟩ (fun r9 u9 H locs h9 hP hD hS => ?_)
    cases h9
    have hP : va_P (dC, dI) classes (WS_Decimal_digit h_this h_this_row c_this_row v_first v_last a_row) H := hP.sub [0, 1] rfl
    have hD : va_D A (WS_Decimal_digit h_this h_this_row c_this_row v_first v_last a_row) := hD.sub [0, 1] (by decide) rfl
    obtain ⟨r4, hf, h⟩ := bi1_x h
    refine clVi (D := (dC, dI)) (n := 1) (As := [.int r3]) ⟨hx, hb, hml, hown, ht⟩ (c_Decimal_limb l dC dI X h_this h_this_row c_this_row H.size v_first v_last a_row r3 r4 hf) (gV q_116 q_117 q_118 q_113 q_119) (by decide +kernel) ⟨rfl, rfl, Nat.le_of_ble_eq_true rfl, Nat.le_of_ble_eq_true rfl⟩ hK hP hD hS hA hX [0, 1] [] [0] rfl (wr := []) rfl (by decide) (by decide) (by decide) rfl (va_recv hK hP (ci := 3) (q0 := 0) rfl rfl) rfl hl.1 rfl (lv_room (Nat.le_of_ble_eq_true rfl)) d_Decimal_digit_18 ⟨Nat.zero_le _, Nat.zero_le _⟩ (fun r9 u9 H locs h9 hP hD hS => ?_)
    cases h9
    have hP : va_P (dC, dI) classes (WS_Decimal_digit h_this h_this_row c_this_row v_first v_last a_row) H := hP.sub [0, 1] rfl
    have hD : va_D A (WS_Decimal_digit h_this h_this_row c_this_row v_first v_last a_row) := hD.sub [0, 1] (by decide) rfl
    refine lv_iload_n hx hb d_Decimal_digit_21 rfl (lv_at hl 0 rfl) ?_
    obtain ⟨c5, h⟩ := ck_x h
    refine lv_idiv hx hb d_Decimal_digit_22 c5 ?_
    refine lv_bipush (v := 10) hx hb d_Decimal_digit_23 (by decide) ?_
    refine lv_irem hx hb d_Decimal_digit_25 (by decide) ?_
    refine W.eq (g2 := F0 m 26 ls (.int (irm (r4 / r1) (10 : Int32)) :: [])) rfl ?_
    exact W.iret (v := (irm (r4 / r1) (10 : Int32))) hx hb hr (fun t ht9 hW => ⟨⟨(irm (r4 / r1) (10 : Int32)), (), rfl, h, by rw [ht9]; exact hP, va_K.moved hW.alike hK, hD⟩, hS.F ht9⟩) hS.2.2 d_Decimal_digit_26 hlk
  · have h := if_f c2 h
    refine lv_iconst (v := 0) hx hb d_Decimal_digit_9 (by decide) ?_
    refine lv_goto (tgt := 26) hx hb d_Decimal_digit_10 (by decide) ?_
    exact W.iret (v := (0 : Int32)) hx hb hr (fun t ht9 hW => ⟨⟨(0 : Int32), (), rfl, h, by rw [ht9]; exact hP, va_K.moved hW.alike hK, hD⟩, hS.F ht9⟩) hS.2.2 d_Decimal_digit_26 hlk
set_option maxHeartbeats 4000000 in
set_option maxRecDepth 100000 in
theorem c_Decimal_digit (l : Launch) (dC : Nat → ClassId) (dI : Nat → Nat → Nat) (X : SXT) (h_this : Nat) (h_this_row : Nat) (c_this_row : ClassId) (sz : Nat) (v_first : Int32) (v_last : Int32) (a_row : (Nat → Int32)) (p1 : Int32) (res : Int32) (hf : f_Decimal_digit a_row p1 = some res) : Met l y_Decimal_digit (.code y_Decimal_digit b_Decimal_digit 3 (some .int) :: w0) ({ frames := 1, cells := 0, slots := 0, locals := 21 }) (va_Pc [.ref h_this, .int p1] (gP (dC, dI) (WS_Decimal_digit h_this h_this_row c_this_row v_first v_last a_row) [(c_this_row, .int)] sz X)) (va_Qi (fun (r : Int32) (_ : Unit) => some r = some res) (gB (dC, dI) [(c_this_row, .int)] (va_A (WS_Decimal_digit h_this h_this_row c_this_row v_first v_last a_row) sz) (fun (u : Unit) => (WS_Decimal_digit h_this h_this_row c_this_row v_first v_last a_row))) (va_A (WS_Decimal_digit h_this h_this_row c_this_row v_first v_last a_row) sz)) 0 0 (va_A (WS_Decimal_digit h_this h_this_row c_this_row v_first v_last a_row) sz) := by
  refine Met.ofW (cc := b_Decimal_digit) (maxL := 3) (ret := (some .int)) (by decide) rfl ?_
  intro p e s m args below meth c s₁ B hml hv
  obtain ⟨rfl, hsz, hP, hK, hD0, hX⟩ := hv
  subst hsz
  have cx : cxx p s m ([.ref h_this, .int p1] : List Value).toArray meth c b_Decimal_digit 3 (some .int) R_Decimal := ⟨B.exec, B.bytes, B.returns, hml, findClass_of_methodNamed B.named, fun w9 hw => atoms_spec (ws := .code y_Decimal_digit b_Decimal_digit 3 (some .int) :: w0) B.pre w9 (List.mem_cons_of_mem _ hw), B.notSynchronized⟩
  have hD := hD0.self (sz := s.heap.size)
  generalize hAe : va_A (WS_Decimal_digit h_this h_this_row c_this_row v_first v_last a_row) s.heap.size = A at hD hX ⊢
  have hA : ∀ q : Nat, s.heap.size ≤ q → A q := fun q h => by rw [← hAe]; exact Or.inr h
  have hS : va_S A s.heap s.heap [] := va_S.rf
  have hl := lv_entry ([.ref h_this, .int p1]) (n := 3) (Nat.le_of_ble_eq_true rfl)
  rw [lg_entry_eq]
  generalize (lg_sl ([.ref h_this, .int p1]) ++ List.replicate (3 - (lg_sl ([.ref h_this, .int p1])).length) Slot.unset).toArray = ls at hl ⊢
  have hl : lv_has ls 3 [(0, .ref h_this), (1, .int p1)] := hl
  exact s_Decimal_digit_e cx hK hA hX a_row p1 s.heap [] ls hP hD hS hl hf
abbrev WS_Decimal_roundsUpAt (h_this : Nat) (h_this_row : Nat) (c_this_row : ClassId) (v_first : Int32) (v_last : Int32) (a_row : (Nat → Int32)) : va_W := [(h_this, .inr (3, [.ref h_this_row, .int v_first, .int v_last])), (h_this_row, .inl (c_this_row, 208, .inl a_row))]
def f_Decimal_roundsUpAt_45 (v_last : Int32) (a_row : (Nat → Int32)) : Option (Int32) :=
  some (1 : Int32)
def f_Decimal_roundsUpAt (v_last : Int32) (a_row : (Nat → Int32)) (p1 : Int32) : Option (Int32) :=
  bi1 (f_Decimal_digit a_row (p1 - (1 : Int32))) fun r1 =>
  if r1 = (5 : Int32) then
    bi1 (f_Decimal_hasBelow v_last a_row (p1 - (1 : Int32))) fun r3 =>
    if r3 = 0 then
      bi1 (f_Decimal_digit a_row p1) fun r5 =>
      if (irm r5 (2 : Int32)) = (1 : Int32) then
        f_Decimal_roundsUpAt_45 v_last a_row
      else
        some (0 : Int32)
    else
      f_Decimal_roundsUpAt_45 v_last a_row
  else
    if r1 ≤ (5 : Int32) then
      some (0 : Int32)
    else
      some (1 : Int32)
set_option maxHeartbeats 4000000 in
set_option maxRecDepth 100000 in
theorem s_Decimal_roundsUpAt_45 {p : Program} {l : Launch} {e : Env} {s : State} {m : MethodId} {args : Array Value} {below : List Frame} {meth : Method} {c : Code} {dC : Nat → ClassId} {dI : Nat → Nat → Nat} {A : Nat → Prop} {X : SXT} {h_this : Nat} {h_this_row : Nat} {c_this_row : ClassId} {v_first : Int32} {res : Int32}  (cx : cxx p s m args meth c b_Decimal_roundsUpAt 3 (some .boolean) R_Decimal) (hK : va_K (dC, dI) classes [(c_this_row, .int)] s) (hA : ∀ q, s.heap.size ≤ q → A q) (hX : SX X A s s.heap)  : ∀ (v_last : Int32) (a_row : (Nat → Int32)) (H : Heap) (locs : List Loc) (ls : Array Slot), va_P (dC, dI) classes (WS_Decimal_roundsUpAt h_this h_this_row c_this_row v_first v_last a_row) H → va_D A (WS_Decimal_roundsUpAt h_this h_this_row c_this_row v_first v_last a_row) → va_S A s.heap H locs → lv_has ls 3 [(0, .ref h_this)] → f_Decimal_roundsUpAt_45 v_last a_row = some res → W p l e ({ frames := 2, cells := 0, slots := 0, locals := 44 }) s m args below meth c H locs 0 0 (MQ below (va_Qi (fun (r : Int32) (_ : Unit) => some r = some res) (gB (dC, dI) [(c_this_row, .int)] A (fun (u : Unit) => (WS_Decimal_roundsUpAt h_this h_this_row c_this_row v_first v_last a_row))) A) args s 0 0 A) (F0 m 45 ls []) := by
  intro v_last a_row H locs ls hP hD hS hl h
  obtain ⟨hx, hb, hr, hml, hown, ht, hlk⟩ := id cx
  refine lv_iconst (v := 1) hx hb d_Decimal_roundsUpAt_45 (by decide) ?_
  refine lv_goto (tgt := 50) hx hb d_Decimal_roundsUpAt_46 (by decide) ?_
  exact W.zret (v := (1 : Int32)) hx hb hr rfl (fun t ht9 hW => ⟨⟨(1 : Int32), (), rfl, h, by rw [ht9]; exact hP, va_K.moved hW.alike hK, hD⟩, hS.F ht9⟩) hS.2.2 d_Decimal_roundsUpAt_50 hlk
set_option maxHeartbeats 4000000 in
set_option maxRecDepth 100000 in
theorem s_Decimal_roundsUpAt_e {p : Program} {l : Launch} {e : Env} {s : State} {m : MethodId} {args : Array Value} {below : List Frame} {meth : Method} {c : Code} {dC : Nat → ClassId} {dI : Nat → Nat → Nat} {A : Nat → Prop} {X : SXT} {h_this : Nat} {h_this_row : Nat} {c_this_row : ClassId} {v_first : Int32} {res : Int32} (cx : cxx p s m args meth c b_Decimal_roundsUpAt 3 (some .boolean) R_Decimal) (hK : va_K (dC, dI) classes [(c_this_row, .int)] s) (hA : ∀ q, s.heap.size ≤ q → A q) (hX : SX X A s s.heap) : ∀ (v_last : Int32) (a_row : (Nat → Int32)) (p1 : Int32) (H : Heap) (locs : List Loc) (ls : Array Slot), va_P (dC, dI) classes (WS_Decimal_roundsUpAt h_this h_this_row c_this_row v_first v_last a_row) H → va_D A (WS_Decimal_roundsUpAt h_this h_this_row c_this_row v_first v_last a_row) → va_S A s.heap H locs → lv_has ls 3 [(0, .ref h_this), (1, .int p1)] → f_Decimal_roundsUpAt v_last a_row p1 = some res → W p l e ({ frames := 2, cells := 0, slots := 0, locals := 44 }) s m args below meth c H locs 0 0 (MQ below (va_Qi (fun (r : Int32) (_ : Unit) => some r = some res) (gB (dC, dI) [(c_this_row, .int)] A (fun (u : Unit) => (WS_Decimal_roundsUpAt h_this h_this_row c_this_row v_first v_last a_row))) A) args s 0 0 A) (F0 m 0 ls []) := by
  intro v_last a_row p1 H locs ls hP hD hS hl h
  obtain ⟨hx, hb, hr, hml, hown, ht, hlk⟩ := id cx
  refine lv_aload_n hx hb d_Decimal_roundsUpAt_0 rfl (lv_at hl 0 rfl) ?_
  refine lv_iload_n hx hb d_Decimal_roundsUpAt_1 rfl (lv_at hl 1 rfl) ?_
  refine lv_iconst (v := 1) hx hb d_Decimal_roundsUpAt_2 (by decide) ?_
  refine lv_isub hx hb d_Decimal_roundsUpAt_3 ?_
  obtain ⟨r1, hf, h⟩ := bi1_x h
  refine clVi (D := (dC, dI)) (n := 1) (As := [.int (p1 - (1 : Int32))]) ⟨hx, hb, hml, hown, ht⟩ (c_Decimal_digit l dC dI X h_this h_this_row c_this_row H.size v_first v_last a_row (p1 - (1 : Int32)) r1 hf) (gV q_367 q_368 q_369 q_113 q_370) (by decide +kernel) ⟨rfl, rfl, Nat.le_of_ble_eq_true rfl, Nat.le_of_ble_eq_true rfl⟩ hK hP hD hS hA hX [0, 1] [] [0] rfl (wr := []) rfl (by decide) (by decide) (by decide) rfl (va_recv hK hP (ci := 3) (q0 := 0) rfl rfl) rfl hl.1 rfl (lv_room (Nat.le_of_ble_eq_true rfl)) d_Decimal_roundsUpAt_4 ⟨Nat.zero_le _, Nat.zero_le _⟩ (fun r9 u9 H locs h9 hP hD hS => ?_)
  cases h9
  have hP : va_P (dC, dI) classes (WS_Decimal_roundsUpAt h_this h_this_row c_this_row v_first v_last a_row) H := hP.sub [0, 1] rfl
  have hD : va_D A (WS_Decimal_roundsUpAt h_this h_this_row c_this_row v_first v_last a_row) := hD.sub [0, 1] (by decide) rfl
  refine lv_istore_n (lv' := [(2, .int r1), (0, .ref h_this), (1, .int p1)]) hx hb d_Decimal_roundsUpAt_7 rfl hl (by decide) rfl (fun ls hl => ?_)
  refine lv_iload_n hx hb d_Decimal_roundsUpAt_8 rfl (lv_at hl 0 rfl) ?_
  refine lv_iconst (v := 5) hx hb d_Decimal_roundsUpAt_9 (by decide) ?_
  refine lv_icmp_eq (tgt := 24) hx hb d_Decimal_roundsUpAt_10 (by decide) (fun c2 => ?_) (fun c2 => ?_)
  · have h := if_t c2 h
    refine lv_aload_n hx hb d_Decimal_roundsUpAt_24 rfl (lv_at hl 1 rfl) ?_
    refine lv_iload_n hx hb d_Decimal_roundsUpAt_25 rfl (lv_at hl 2 rfl) ?_
    refine lv_iconst (v := 1) hx hb d_Decimal_roundsUpAt_26 (by decide) ?_
    refine lv_isub hx hb d_Decimal_roundsUpAt_27 ?_
    obtain ⟨r3, hf, h⟩ := bi1_x h
    refine clVi (D := (dC, dI)) (n := 1) (As := [.int (p1 - (1 : Int32))]) ⟨hx, hb, hml, hown, ht⟩ (c_Decimal_hasBelow l dC dI X h_this h_this_row c_this_row H.size v_first v_last a_row (p1 - (1 : Int32)) r3 hf) (gV q_146 q_147 q_148 q_113 q_149) (by decide +kernel) ⟨rfl, rfl, Nat.le_of_ble_eq_true rfl, Nat.le_of_ble_eq_true rfl⟩ hK hP hD hS hA hX [0, 1] [] [0] rfl (wr := []) rfl (by decide) (by decide) (by decide) rfl (va_recv hK hP (ci := 3) (q0 := 0) rfl rfl) rfl hl.1 rfl (lv_room (Nat.le_of_ble_eq_true rfl)) d_Decimal_roundsUpAt_28 ⟨Nat.zero_le _, Nat.zero_le _⟩ (fun r9 u9 H locs h9 hP hD hS => ?_)
    cases h9
    have hP : va_P (dC, dI) classes (WS_Decimal_roundsUpAt h_this h_this_row c_this_row v_first v_last a_row) H := hP.sub [0, 1] rfl
    have hD : va_D A (WS_Decimal_roundsUpAt h_this h_this_row c_this_row v_first v_last a_row) := hD.sub [0, 1] (by decide) rfl
    refine lv_if_ne (tgt := 45) hx hb d_Decimal_roundsUpAt_31 (by decide) (fun c4 => ?_) (fun c4 => ?_)
    · have h := if_f c4 h
      exact s_Decimal_roundsUpAt_45 cx hK hA hX v_last a_row H locs ls hP hD hS (lv_sub hl [1] rfl) h
    · have h := if_t c4 h
      refine lv_aload_n hx hb d_Decimal_roundsUpAt_34 rfl (lv_at hl 1 rfl) ?_
      refine lv_iload_n hx hb d_Decimal_roundsUpAt_35 rfl (lv_at hl 2 rfl) ?_
      obtain ⟨r5, hf, h⟩ := bi1_x h
      refine clVi (D := (dC, dI)) (n := 1) (As := [.int p1]) ⟨hx, hb, hml, hown, ht⟩ (c_Decimal_digit l dC dI X h_this h_this_row c_this_row H.size v_first v_last a_row p1 r5 hf) (gV q_367 q_368 q_369 q_113 q_370) (by decide +kernel) ⟨rfl, rfl, Nat.le_of_ble_eq_true rfl, Nat.le_of_ble_eq_true rfl⟩ hK hP hD hS hA hX [0, 1] [] [0] rfl (wr := []) rfl (by decide) (by decide) (by decide) rfl (va_recv hK hP (ci := 3) (q0 := 0) rfl rfl) rfl hl.1 rfl (lv_room (Nat.le_of_ble_eq_true rfl)) d_Decimal_roundsUpAt_36 ⟨Nat.zero_le _, Nat.zero_le _⟩ (fun r9 u9 H locs h9 hP hD hS => ?_)
      cases h9
      have hP : va_P (dC, dI) classes (WS_Decimal_roundsUpAt h_this h_this_row c_this_row v_first v_last a_row) H := hP.sub [0, 1] rfl
      have hD : va_D A (WS_Decimal_roundsUpAt h_this h_this_row c_this_row v_first v_last a_row) := hD.sub [0, 1] (by decide) rfl
      refine lv_iconst (v := 2) hx hb d_Decimal_roundsUpAt_39 (by decide) ?_
      refine lv_irem hx hb d_Decimal_roundsUpAt_40 (by decide) ?_
      refine W.eq (g2 := F0 m 41 ls (.int (irm r5 (2 : Int32)) :: [])) rfl ?_
      refine lv_iconst (v := 1) hx hb d_Decimal_roundsUpAt_41 (by decide) ?_
      refine lv_icmp_ne (tgt := 49) hx hb d_Decimal_roundsUpAt_42 (by decide) (fun c6 => ?_) (fun c6 => ?_)
      · have h := if_f c6 h
        refine lv_iconst (v := 0) hx hb d_Decimal_roundsUpAt_49 (by decide) ?_
        exact W.zret (v := (0 : Int32)) hx hb hr rfl (fun t ht9 hW => ⟨⟨(0 : Int32), (), rfl, h, by rw [ht9]; exact hP, va_K.moved hW.alike hK, hD⟩, hS.F ht9⟩) hS.2.2 d_Decimal_roundsUpAt_50 hlk
      · have h := if_t c6 h
        exact s_Decimal_roundsUpAt_45 cx hK hA hX v_last a_row H locs ls hP hD hS (lv_sub hl [1] rfl) h
  · have h := if_f c2 h
    refine lv_iload_n hx hb d_Decimal_roundsUpAt_13 rfl (lv_at hl 0 rfl) ?_
    refine lv_iconst (v := 5) hx hb d_Decimal_roundsUpAt_14 (by decide) ?_
    refine lv_icmp_le (tgt := 22) hx hb d_Decimal_roundsUpAt_15 (by decide) (fun c7 => ?_) (fun c7 => ?_)
    · have h := if_t c7 h
      refine lv_iconst (v := 0) hx hb d_Decimal_roundsUpAt_22 (by decide) ?_
      exact W.zret (v := (0 : Int32)) hx hb hr rfl (fun t ht9 hW => ⟨⟨(0 : Int32), (), rfl, h, by rw [ht9]; exact hP, va_K.moved hW.alike hK, hD⟩, hS.F ht9⟩) hS.2.2 d_Decimal_roundsUpAt_23 hlk
    · have h := if_f c7 h
      refine lv_iconst (v := 1) hx hb d_Decimal_roundsUpAt_18 (by decide) ?_
      refine lv_goto (tgt := 23) hx hb d_Decimal_roundsUpAt_19 (by decide) ?_
      exact W.zret (v := (1 : Int32)) hx hb hr rfl (fun t ht9 hW => ⟨⟨(1 : Int32), (), rfl, h, by rw [ht9]; exact hP, va_K.moved hW.alike hK, hD⟩, hS.F ht9⟩) hS.2.2 d_Decimal_roundsUpAt_23 hlk
set_option maxHeartbeats 4000000 in
set_option maxRecDepth 100000 in
theorem c_Decimal_roundsUpAt (l : Launch) (dC : Nat → ClassId) (dI : Nat → Nat → Nat) (X : SXT) (h_this : Nat) (h_this_row : Nat) (c_this_row : ClassId) (sz : Nat) (v_first : Int32) (v_last : Int32) (a_row : (Nat → Int32)) (p1 : Int32) (res : Int32) (hf : f_Decimal_roundsUpAt v_last a_row p1 = some res) : Met l y_Decimal_roundsUpAt (.code y_Decimal_roundsUpAt b_Decimal_roundsUpAt 3 (some .boolean) :: w0) ({ frames := 2, cells := 0, slots := 0, locals := 44 }) (va_Pc [.ref h_this, .int p1] (gP (dC, dI) (WS_Decimal_roundsUpAt h_this h_this_row c_this_row v_first v_last a_row) [(c_this_row, .int)] sz X)) (va_Qi (fun (r : Int32) (_ : Unit) => some r = some res) (gB (dC, dI) [(c_this_row, .int)] (va_A (WS_Decimal_roundsUpAt h_this h_this_row c_this_row v_first v_last a_row) sz) (fun (u : Unit) => (WS_Decimal_roundsUpAt h_this h_this_row c_this_row v_first v_last a_row))) (va_A (WS_Decimal_roundsUpAt h_this h_this_row c_this_row v_first v_last a_row) sz)) 0 0 (va_A (WS_Decimal_roundsUpAt h_this h_this_row c_this_row v_first v_last a_row) sz) := by
  refine Met.ofW (cc := b_Decimal_roundsUpAt) (maxL := 3) (ret := (some .boolean)) (by decide) rfl ?_
  intro p e s m args below meth c s₁ B hml hv
  obtain ⟨rfl, hsz, hP, hK, hD0, hX⟩ := hv
  subst hsz
  have cx : cxx p s m ([.ref h_this, .int p1] : List Value).toArray meth c b_Decimal_roundsUpAt 3 (some .boolean) R_Decimal := ⟨B.exec, B.bytes, B.returns, hml, findClass_of_methodNamed B.named, fun w9 hw => atoms_spec (ws := .code y_Decimal_roundsUpAt b_Decimal_roundsUpAt 3 (some .boolean) :: w0) B.pre w9 (List.mem_cons_of_mem _ hw), B.notSynchronized⟩
  have hD := hD0.self (sz := s.heap.size)
  generalize hAe : va_A (WS_Decimal_roundsUpAt h_this h_this_row c_this_row v_first v_last a_row) s.heap.size = A at hD hX ⊢
  have hA : ∀ q : Nat, s.heap.size ≤ q → A q := fun q h => by rw [← hAe]; exact Or.inr h
  have hS : va_S A s.heap s.heap [] := va_S.rf
  have hl := lv_entry ([.ref h_this, .int p1]) (n := 3) (Nat.le_of_ble_eq_true rfl)
  rw [lg_entry_eq]
  generalize (lg_sl ([.ref h_this, .int p1]) ++ List.replicate (3 - (lg_sl ([.ref h_this, .int p1])).length) Slot.unset).toArray = ls at hl ⊢
  have hl : lv_has ls 3 [(0, .ref h_this), (1, .int p1)] := hl
  exact s_Decimal_roundsUpAt_e cx hK hA hX v_last a_row p1 s.heap [] ls hP hD hS hl hf
abbrev WS_Decimal_roundAt (h_this : Nat) (h_this_row : Nat) (c_this_row : ClassId) (v_first : Int32) (v_last : Int32) (a_row : (Nat → Int32)) : va_W := [(h_this, .inr (3, [.ref h_this_row, .int v_first, .int v_last])), (h_this_row, .inl (c_this_row, 208, .inl a_row))]
def f_Decimal_roundAt (v_first : Int32) (v_last : Int32) (a_row : (Nat → Int32)) (p1 : Int32) : Option (Int32 × Int32 × (Nat → Int32)) :=
  bi1 (f_Decimal_roundsUpAt v_last a_row p1) fun r1 =>
  bi3 (f_Decimal_cutBelow v_first v_last a_row p1) fun v2 v3 a4 =>
  if r1 = 0 then
    some (v2, v3, a4)
  else
    bi3 (f_Decimal_addAt v2 v3 a4 p1 (1 : Int32)) fun v6 v7 a8 =>
    some (v6, v7, a8)
set_option maxHeartbeats 4000000 in
set_option maxRecDepth 100000 in
theorem s_Decimal_roundAt_e {p : Program} {l : Launch} {e : Env} {s : State} {m : MethodId} {args : Array Value} {below : List Frame} {meth : Method} {c : Code} {dC : Nat → ClassId} {dI : Nat → Nat → Nat} {A : Nat → Prop} {X : SXT} {h_this : Nat} {h_this_row : Nat} {c_this_row : ClassId} {res : Int32 × Int32 × (Nat → Int32)} (cx : cxx p s m args meth c b_Decimal_roundAt 3 none R_Decimal) (hK : va_K (dC, dI) classes [(c_this_row, .int)] s) (hA : ∀ q, s.heap.size ≤ q → A q) (hX : SX X A s s.heap) : ∀ (v_first : Int32) (v_last : Int32) (a_row : (Nat → Int32)) (p1 : Int32) (H : Heap) (locs : List Loc) (ls : Array Slot), va_P (dC, dI) classes (WS_Decimal_roundAt h_this h_this_row c_this_row v_first v_last a_row) H → va_D A (WS_Decimal_roundAt h_this h_this_row c_this_row v_first v_last a_row) → va_S A s.heap H locs → lv_has ls 3 [(0, .ref h_this), (1, .int p1)] → f_Decimal_roundAt v_first v_last a_row p1 = some res → W p l e ({ frames := 3, cells := 0, slots := 0, locals := 66 }) s m args below meth c H locs 0 0 (MQ below (va_Qv (fun (u : Int32 × Int32 × (Nat → Int32)) => some u = some res) (gB (dC, dI) [(c_this_row, .int)] A (fun (u : Int32 × Int32 × (Nat → Int32)) => (WS_Decimal_roundAt h_this h_this_row c_this_row u.1 u.2.1 u.2.2))) A) args s 0 0 A) (F0 m 0 ls []) := by
  intro v_first v_last a_row p1 H locs ls hP hD hS hl h
  obtain ⟨hx, hb, hr, hml, hown, ht, hlk⟩ := id cx
  refine lv_aload_n hx hb d_Decimal_roundAt_0 rfl (lv_at hl 0 rfl) ?_
  refine lv_iload_n hx hb d_Decimal_roundAt_1 rfl (lv_at hl 1 rfl) ?_
  obtain ⟨r1, hf, h⟩ := bi1_x h
  refine clVi (D := (dC, dI)) (n := 1) (As := [.int p1]) ⟨hx, hb, hml, hown, ht⟩ (c_Decimal_roundsUpAt l dC dI X h_this h_this_row c_this_row H.size v_first v_last a_row p1 r1 hf) (gV q_371 q_372 q_373 q_113 q_374) (by decide +kernel) ⟨rfl, rfl, Nat.le_of_ble_eq_true rfl, Nat.le_of_ble_eq_true rfl⟩ hK hP hD hS hA hX [0, 1] [] [0] rfl (wr := []) rfl (by decide) (by decide) (by decide) rfl (va_recv hK hP (ci := 3) (q0 := 0) rfl rfl) rfl hl.1 rfl (lv_room (Nat.le_of_ble_eq_true rfl)) d_Decimal_roundAt_2 ⟨Nat.zero_le _, Nat.zero_le _⟩ (fun r9 u9 H locs h9 hP hD hS => ?_)
  cases h9
  have hP : va_P (dC, dI) classes (WS_Decimal_roundAt h_this h_this_row c_this_row v_first v_last a_row) H := hP.sub [0, 1] rfl
  have hD : va_D A (WS_Decimal_roundAt h_this h_this_row c_this_row v_first v_last a_row) := hD.sub [0, 1] (by decide) rfl
  refine lv_istore_n (lv' := [(2, .int r1), (0, .ref h_this), (1, .int p1)]) hx hb d_Decimal_roundAt_5 rfl hl (by decide) rfl (fun ls hl => ?_)
  refine lv_aload_n hx hb d_Decimal_roundAt_6 rfl (lv_at hl 1 rfl) ?_
  refine lv_iload_n hx hb d_Decimal_roundAt_7 rfl (lv_at hl 2 rfl) ?_
  obtain ⟨v2, v3, a4, hf, h⟩ := bi3_x h
  refine clVv (D := (dC, dI)) (n := 1) (As := [.int p1]) ⟨hx, hb, hml, hown, ht⟩ (c_Decimal_cutBelow l dC dI X h_this h_this_row c_this_row H.size v_first v_last a_row p1 (v2, v3, a4) hf) (gV q_155 q_156 q_157 q_113 q_158) (by decide +kernel) ⟨rfl, rfl, Nat.le_of_ble_eq_true rfl, Nat.le_of_ble_eq_true rfl⟩ hK hP hD hS hA hX [0, 1] [] [0] rfl (wr := []) rfl (by decide) (by decide) (by decide) rfl (va_recv hK hP (ci := 3) (q0 := 0) rfl rfl) rfl hl.1 rfl (lv_room (Nat.le_of_ble_eq_true rfl)) d_Decimal_roundAt_8 ⟨Nat.zero_le _, Nat.zero_le _⟩ (fun u9 H locs h9 hP hD hS => ?_)
  cases h9
  have hP : va_P (dC, dI) classes (WS_Decimal_roundAt h_this h_this_row c_this_row v2 v3 a4) H := hP.sub [0, 1] rfl
  have hD : va_D A (WS_Decimal_roundAt h_this h_this_row c_this_row v2 v3 a4) := hD.sub [0, 1] (by decide) rfl
  refine lv_iload_n hx hb d_Decimal_roundAt_11 rfl (lv_at hl 0 rfl) ?_
  refine lv_if_eq (tgt := 21) hx hb d_Decimal_roundAt_12 (by decide) (fun c5 => ?_) (fun c5 => ?_)
  · have h := if_t c5 h
    exact W.vret hx hb hr (fun t ht9 hW => ⟨⟨(v2, v3, a4), rfl, h, by rw [ht9]; exact hP, va_K.moved hW.alike hK, hD⟩, hS.F ht9⟩) hS.2.2 d_Decimal_roundAt_21 hlk
  · have h := if_f c5 h
    refine lv_aload_n hx hb d_Decimal_roundAt_15 rfl (lv_at hl 1 rfl) ?_
    refine lv_iload_n hx hb d_Decimal_roundAt_16 rfl (lv_at hl 2 rfl) ?_
    refine lv_iconst (v := 1) hx hb d_Decimal_roundAt_17 (by decide) ?_
    obtain ⟨v6, v7, a8, hf, h⟩ := bi3_x h
    refine clVv (D := (dC, dI)) (n := 2) (As := [.int p1, .int (1 : Int32)]) ⟨hx, hb, hml, hown, ht⟩ (c_Decimal_addAt l dC dI X h_this h_this_row c_this_row H.size v2 v3 a4 p1 (1 : Int32) (v6, v7, a8) hf) (gV q_375 q_132 q_133 q_113 q_134) (by decide +kernel) ⟨rfl, rfl, Nat.le_of_ble_eq_true rfl, Nat.le_of_ble_eq_true rfl⟩ hK hP hD hS hA hX [0, 1] [] [0] rfl (wr := []) rfl (by decide) (by decide) (by decide) rfl (va_recv hK hP (ci := 3) (q0 := 0) rfl rfl) rfl hl.1 rfl (lv_room (Nat.le_of_ble_eq_true rfl)) d_Decimal_roundAt_18 ⟨Nat.zero_le _, Nat.zero_le _⟩ (fun u9 H locs h9 hP hD hS => ?_)
    cases h9
    have hP : va_P (dC, dI) classes (WS_Decimal_roundAt h_this h_this_row c_this_row v6 v7 a8) H := hP.sub [0, 1] rfl
    have hD : va_D A (WS_Decimal_roundAt h_this h_this_row c_this_row v6 v7 a8) := hD.sub [0, 1] (by decide) rfl
    exact W.vret hx hb hr (fun t ht9 hW => ⟨⟨(v6, v7, a8), rfl, h, by rw [ht9]; exact hP, va_K.moved hW.alike hK, hD⟩, hS.F ht9⟩) hS.2.2 d_Decimal_roundAt_21 hlk
set_option maxHeartbeats 4000000 in
set_option maxRecDepth 100000 in
theorem c_Decimal_roundAt (l : Launch) (dC : Nat → ClassId) (dI : Nat → Nat → Nat) (X : SXT) (h_this : Nat) (h_this_row : Nat) (c_this_row : ClassId) (sz : Nat) (v_first : Int32) (v_last : Int32) (a_row : (Nat → Int32)) (p1 : Int32) (res : Int32 × Int32 × (Nat → Int32)) (hf : f_Decimal_roundAt v_first v_last a_row p1 = some res) : Met l y_Decimal_roundAt (.code y_Decimal_roundAt b_Decimal_roundAt 3 none :: w0) ({ frames := 3, cells := 0, slots := 0, locals := 66 }) (va_Pc [.ref h_this, .int p1] (gP (dC, dI) (WS_Decimal_roundAt h_this h_this_row c_this_row v_first v_last a_row) [(c_this_row, .int)] sz X)) (va_Qv (fun (u : Int32 × Int32 × (Nat → Int32)) => some u = some res) (gB (dC, dI) [(c_this_row, .int)] (va_A (WS_Decimal_roundAt h_this h_this_row c_this_row v_first v_last a_row) sz) (fun (u : Int32 × Int32 × (Nat → Int32)) => (WS_Decimal_roundAt h_this h_this_row c_this_row u.1 u.2.1 u.2.2))) (va_A (WS_Decimal_roundAt h_this h_this_row c_this_row v_first v_last a_row) sz)) 0 0 (va_A (WS_Decimal_roundAt h_this h_this_row c_this_row v_first v_last a_row) sz) := by
  refine Met.ofW (cc := b_Decimal_roundAt) (maxL := 3) (ret := none) (by decide) rfl ?_
  intro p e s m args below meth c s₁ B hml hv
  obtain ⟨rfl, hsz, hP, hK, hD0, hX⟩ := hv
  subst hsz
  have cx : cxx p s m ([.ref h_this, .int p1] : List Value).toArray meth c b_Decimal_roundAt 3 none R_Decimal := ⟨B.exec, B.bytes, B.returns, hml, findClass_of_methodNamed B.named, fun w9 hw => atoms_spec (ws := .code y_Decimal_roundAt b_Decimal_roundAt 3 none :: w0) B.pre w9 (List.mem_cons_of_mem _ hw), B.notSynchronized⟩
  have hD := hD0.self (sz := s.heap.size)
  generalize hAe : va_A (WS_Decimal_roundAt h_this h_this_row c_this_row v_first v_last a_row) s.heap.size = A at hD hX ⊢
  have hA : ∀ q : Nat, s.heap.size ≤ q → A q := fun q h => by rw [← hAe]; exact Or.inr h
  have hS : va_S A s.heap s.heap [] := va_S.rf
  have hl := lv_entry ([.ref h_this, .int p1]) (n := 3) (Nat.le_of_ble_eq_true rfl)
  rw [lg_entry_eq]
  generalize (lg_sl ([.ref h_this, .int p1]) ++ List.replicate (3 - (lg_sl ([.ref h_this, .int p1])).length) Slot.unset).toArray = ls at hl ⊢
  have hl : lv_has ls 3 [(0, .ref h_this), (1, .int p1)] := hl
  exact s_Decimal_roundAt_e cx hK hA hX v_first v_last a_row p1 s.heap [] ls hP hD hS hl hf
abbrev WS_Decimal_topPlace (h_this : Nat) (h_this_row : Nat) (c_this_row : ClassId) (v_first : Int32) (v_last : Int32) (a_row : (Nat → Int32)) : va_W := [(h_this, .inr (3, [.ref h_this_row, .int v_first, .int v_last])), (h_this_row, .inl (c_this_row, 208, .inl a_row))]
def f_Decimal_topPlace_28b (k28 : Int32 → (Nat → Int32) → Int32 → Int32 → Int32 → Option (Int32)) (v_first : Int32) (a_row : (Nat → Int32)) (y1 : Int32) (y2 : Int32) (y3 : Int32) : Option (Int32) :=
  if (9 : Int32) ≤ y3 then
    some y1
  else
    ck (gin y3 9) <|
    if y2 < (tb_Decimal_TENS y3.toNatClampNeg) then
      some y1
    else
      bd (y1 + (1 : Int32)) fun x4 =>
      bd (y3 + (1 : Int32)) fun x5 =>
      k28 v_first a_row x4 y2 x5
def f_Decimal_topPlace_28 : Nat → Int32 → (Nat → Int32) → Int32 → Int32 → Int32 → Option (Int32)
  | 0 => fun _ _ _ _ _ => none
  | n + 1 => fun v_first a_row y1 y2 y3 => f_Decimal_topPlace_28b (f_Decimal_topPlace_28 n) v_first a_row y1 y2 y3
def f_Decimal_topPlace (v_first : Int32) (a_row : (Nat → Int32)) : Option (Int32) :=
  bd ((9 : Int32) * ((35 : Int32) - v_first)) fun x6 =>
  bi1 (f_Decimal_limb a_row v_first) fun r7 =>
  if r7 = 0 then
    some (0 : Int32)
  else
    f_Decimal_topPlace_28 fu v_first a_row x6 r7 (1 : Int32)
set_option maxHeartbeats 4000000 in
set_option maxRecDepth 100000 in
theorem s_Decimal_topPlace_28b {p : Program} {l : Launch} {e : Env} {s : State} {m : MethodId} {args : Array Value} {below : List Frame} {meth : Method} {c : Code} {dC : Nat → ClassId} {dI : Nat → Nat → Nat} {A : Nat → Prop} {X : SXT} {h_this : Nat} {h_this_row : Nat} {c_this_row : ClassId} {v_last : Int32} {res : Int32} {k28 : Int32 → (Nat → Int32) → Int32 → Int32 → Int32 → Option (Int32)} (cx : cxx p s m args meth c b_Decimal_topPlace 4 (some .int) R_Decimal) (hK : va_K (dC, dI) classes [(c_this_row, .int)] s) (hA : ∀ q, s.heap.size ≤ q → A q) (hX : SX X A s s.heap) (hk28 : ∀ (v_first : Int32) (a_row : (Nat → Int32)) (y1 : Int32) (y2 : Int32) (y3 : Int32) (H : Heap) (locs : List Loc) (ls : Array Slot), va_P (dC, dI) classes (WS_Decimal_topPlace h_this h_this_row c_this_row v_first v_last a_row) H → va_D A (WS_Decimal_topPlace h_this h_this_row c_this_row v_first v_last a_row) → va_S A s.heap H locs → lv_has ls 4 [(0, .ref h_this), (1, .int y1), (2, .int y2), (3, .int y3)] → k28 v_first a_row y1 y2 y3 = some res → W p l e ({ frames := 1, cells := 0, slots := 0, locals := 21 }) s m args below meth c H locs 0 0 (MQ below (va_Qi (fun (r : Int32) (_ : Unit) => some r = some res) (gB (dC, dI) [(c_this_row, .int)] A (fun (u : Unit) => (WS_Decimal_topPlace h_this h_this_row c_this_row v_first v_last a_row))) A) args s 0 0 A) (F0 m 28 ls [])) : ∀ (v_first : Int32) (a_row : (Nat → Int32)) (y1 : Int32) (y2 : Int32) (y3 : Int32) (H : Heap) (locs : List Loc) (ls : Array Slot), va_P (dC, dI) classes (WS_Decimal_topPlace h_this h_this_row c_this_row v_first v_last a_row) H → va_D A (WS_Decimal_topPlace h_this h_this_row c_this_row v_first v_last a_row) → va_S A s.heap H locs → lv_has ls 4 [(0, .ref h_this), (1, .int y1), (2, .int y2), (3, .int y3)] → f_Decimal_topPlace_28b k28 v_first a_row y1 y2 y3 = some res → W p l e ({ frames := 1, cells := 0, slots := 0, locals := 21 }) s m args below meth c H locs 0 0 (MQ below (va_Qi (fun (r : Int32) (_ : Unit) => some r = some res) (gB (dC, dI) [(c_this_row, .int)] A (fun (u : Unit) => (WS_Decimal_topPlace h_this h_this_row c_this_row v_first v_last a_row))) A) args s 0 0 A) (F0 m 28 ls []) := by
  intro v_first a_row y1 y2 y3 H locs ls hP hD hS hl h
  obtain ⟨hx, hb, hr, hml, hown, ht, hlk⟩ := id cx
  refine lv_iload_n hx hb d_Decimal_topPlace_28 rfl (lv_at hl 3 rfl) ?_
  refine va_gets hx hb (hX.st_Decimal_TENS) hS hown (ht _ q_115) (fun _ h9 => h9) d_Decimal_topPlace_29 ?_
  refine va_tlen (v := 9) hx hb (hX.tb_Decimal_TENS) hS rfl d_Decimal_topPlace_32 ?_
  refine lv_icmp_ge (tgt := 54) hx hb d_Decimal_topPlace_33 (by decide) (fun c1 => ?_) (fun c1 => ?_)
  · have h := if_t c1 h
    refine lv_iload_n hx hb d_Decimal_topPlace_54 rfl (lv_at hl 1 rfl) ?_
    exact W.iret (v := y1) hx hb hr (fun t ht9 hW => ⟨⟨y1, (), rfl, h, by rw [ht9]; exact hP, va_K.moved hW.alike hK, hD⟩, hS.F ht9⟩) hS.2.2 d_Decimal_topPlace_55 hlk
  · have h := if_f c1 h
    refine va_gets hx hb (hX.st_Decimal_TENS) hS hown (ht _ q_115) (fun _ h9 => h9) d_Decimal_topPlace_36 ?_
    refine lv_iload_n hx hb d_Decimal_topPlace_39 rfl (lv_at hl 3 rfl) ?_
    obtain ⟨c2, h⟩ := ck_x h
    refine va_ti hx hb (hX.tb_Decimal_TENS) hS c2 rfl d_Decimal_topPlace_40 ?_
    refine lv_iload_n hx hb d_Decimal_topPlace_41 rfl (lv_at hl 2 rfl) ?_
    refine lv_icmp_gt (tgt := 54) hx hb d_Decimal_topPlace_42 (by decide) (fun c3 => ?_) (fun c3 => ?_)
    · have h := if_t c3 h
      refine lv_iload_n hx hb d_Decimal_topPlace_54 rfl (lv_at hl 1 rfl) ?_
      exact W.iret (v := y1) hx hb hr (fun t ht9 hW => ⟨⟨y1, (), rfl, h, by rw [ht9]; exact hP, va_K.moved hW.alike hK, hD⟩, hS.F ht9⟩) hS.2.2 d_Decimal_topPlace_55 hlk
    · have h := if_f c3 h
      obtain ⟨x4, e_x4⟩ : ∃ y : Int32, y = y1 + (1 : Int32) := ⟨_, rfl⟩
      refine lv_iinc (v := x4) (lv' := [(1, .int x4), (0, .ref h_this), (2, .int y2), (3, .int y3)]) hx hb d_Decimal_topPlace_45 hl (k := 1) rfl (by rw [e_x4]; rfl) (by decide) rfl (fun ls hl => ?_)
      have h := bd_g e_x4 h
      obtain ⟨x5, e_x5⟩ : ∃ y : Int32, y = y3 + (1 : Int32) := ⟨_, rfl⟩
      refine lv_iinc (v := x5) (lv' := [(3, .int x5), (1, .int x4), (0, .ref h_this), (2, .int y2)]) hx hb d_Decimal_topPlace_48 hl (k := 3) rfl (by rw [e_x5]; rfl) (by decide) rfl (fun ls hl => ?_)
      have h := bd_g e_x5 h
      refine lv_goto (tgt := 28) hx hb d_Decimal_topPlace_51 (by decide) ?_
      exact hk28 v_first a_row x4 y2 x5 H locs ls hP hD hS (lv_sub hl [2, 1, 3, 0] rfl) h
set_option maxHeartbeats 4000000 in
set_option maxRecDepth 100000 in
theorem s_Decimal_topPlace_28 {p : Program} {l : Launch} {e : Env} {s : State} {m : MethodId} {args : Array Value} {below : List Frame} {meth : Method} {c : Code} {dC : Nat → ClassId} {dI : Nat → Nat → Nat} {A : Nat → Prop} {X : SXT} {h_this : Nat} {h_this_row : Nat} {c_this_row : ClassId} {v_last : Int32} {res : Int32}  (cx : cxx p s m args meth c b_Decimal_topPlace 4 (some .int) R_Decimal) (hK : va_K (dC, dI) classes [(c_this_row, .int)] s) (hA : ∀ q, s.heap.size ≤ q → A q) (hX : SX X A s s.heap)  : ∀ n : Nat, ∀ (v_first : Int32) (a_row : (Nat → Int32)) (y1 : Int32) (y2 : Int32) (y3 : Int32) (H : Heap) (locs : List Loc) (ls : Array Slot), va_P (dC, dI) classes (WS_Decimal_topPlace h_this h_this_row c_this_row v_first v_last a_row) H → va_D A (WS_Decimal_topPlace h_this h_this_row c_this_row v_first v_last a_row) → va_S A s.heap H locs → lv_has ls 4 [(0, .ref h_this), (1, .int y1), (2, .int y2), (3, .int y3)] → f_Decimal_topPlace_28 n v_first a_row y1 y2 y3 = some res → W p l e ({ frames := 1, cells := 0, slots := 0, locals := 21 }) s m args below meth c H locs 0 0 (MQ below (va_Qi (fun (r : Int32) (_ : Unit) => some r = some res) (gB (dC, dI) [(c_this_row, .int)] A (fun (u : Unit) => (WS_Decimal_topPlace h_this h_this_row c_this_row v_first v_last a_row))) A) args s 0 0 A) (F0 m 28 ls []) := by
  intro n
  induction n with
  | zero =>
    intro v_first a_row y1 y2 y3 H locs ls hP hD hS hl h
    have h9 : (none : Option (Int32)) = some res := h
    cases h9
  | succ n ih =>
    intro v_first a_row y1 y2 y3 H locs ls hP hD hS hl h
    exact s_Decimal_topPlace_28b cx hK hA hX ih v_first a_row y1 y2 y3 H locs ls hP hD hS hl h
set_option maxHeartbeats 4000000 in
set_option maxRecDepth 100000 in
theorem s_Decimal_topPlace_e {p : Program} {l : Launch} {e : Env} {s : State} {m : MethodId} {args : Array Value} {below : List Frame} {meth : Method} {c : Code} {dC : Nat → ClassId} {dI : Nat → Nat → Nat} {A : Nat → Prop} {X : SXT} {h_this : Nat} {h_this_row : Nat} {c_this_row : ClassId} {v_last : Int32} {res : Int32} (cx : cxx p s m args meth c b_Decimal_topPlace 4 (some .int) R_Decimal) (hK : va_K (dC, dI) classes [(c_this_row, .int)] s) (hA : ∀ q, s.heap.size ≤ q → A q) (hX : SX X A s s.heap) : ∀ (v_first : Int32) (a_row : (Nat → Int32)) (H : Heap) (locs : List Loc) (ls : Array Slot), va_P (dC, dI) classes (WS_Decimal_topPlace h_this h_this_row c_this_row v_first v_last a_row) H → va_D A (WS_Decimal_topPlace h_this h_this_row c_this_row v_first v_last a_row) → va_S A s.heap H locs → lv_has ls 4 [(0, .ref h_this)] → f_Decimal_topPlace v_first a_row = some res → W p l e ({ frames := 1, cells := 0, slots := 0, locals := 21 }) s m args below meth c H locs 0 0 (MQ below (va_Qi (fun (r : Int32) (_ : Unit) => some r = some res) (gB (dC, dI) [(c_this_row, .int)] A (fun (u : Unit) => (WS_Decimal_topPlace h_this h_this_row c_this_row v_first v_last a_row))) A) args s 0 0 A) (F0 m 0 ls []) := by
  intro v_first a_row H locs ls hP hD hS hl h
  obtain ⟨hx, hb, hr, hml, hown, ht, hlk⟩ := id cx
  refine lv_bipush (v := 9) hx hb d_Decimal_topPlace_0 (by decide) ?_
  refine lv_bipush (v := 35) hx hb d_Decimal_topPlace_2 (by decide) ?_
  refine lv_aload_n hx hb d_Decimal_topPlace_4 rfl (lv_at hl 0 rfl) ?_
  refine va_get (D := (dC, dI)) (ci := 3) (v := .int v_first) (C := R_Decimal) (T := F_Decimal) (N := 3) hx hb ht i_Decimal hown hK hP 0 rfl rfl 1 (by decide) (ht _ q_109) (fun _ h9 => h9) rfl d_Decimal_topPlace_5 ?_
  refine lv_isub hx hb d_Decimal_topPlace_8 ?_
  refine lv_imul hx hb d_Decimal_topPlace_9 ?_
  refine lv_topi (fun x6 e_x6 => ?_)
  have h := bd_g e_x6 h
  refine lv_istore_n (lv' := [(1, .int x6), (0, .ref h_this)]) hx hb d_Decimal_topPlace_10 rfl hl (by decide) rfl (fun ls hl => ?_)
  refine lv_aload_n hx hb d_Decimal_topPlace_11 rfl (lv_at hl 1 rfl) ?_
  refine lv_aload_n hx hb d_Decimal_topPlace_12 rfl (lv_at hl 1 rfl) ?_
  refine va_get (D := (dC, dI)) (ci := 3) (v := .int v_first) (C := R_Decimal) (T := F_Decimal) (N := 3) hx hb ht i_Decimal hown hK hP 0 rfl rfl 1 (by decide) (ht _ q_109) (fun _ h9 => h9) rfl d_Decimal_topPlace_13 ?_
  obtain ⟨r7, hf, h⟩ := bi1_x h
  refine clVi (D := (dC, dI)) (n := 1) (As := [.int v_first]) ⟨hx, hb, hml, hown, ht⟩ (c_Decimal_limb l dC dI X h_this h_this_row c_this_row H.size v_first v_last a_row v_first r7 hf) (gV q_116 q_117 q_118 q_113 q_119) (by decide +kernel) ⟨rfl, rfl, Nat.le_of_ble_eq_true rfl, Nat.le_of_ble_eq_true rfl⟩ hK hP hD hS hA hX [0, 1] [] [0] rfl (wr := []) rfl (by decide) (by decide) (by decide) rfl (va_recv hK hP (ci := 3) (q0 := 0) rfl rfl) rfl hl.1 rfl (lv_room (Nat.le_of_ble_eq_true rfl)) d_Decimal_topPlace_16 ⟨Nat.zero_le _, Nat.zero_le _⟩ (fun r9 u9 H locs h9 hP hD hS => ?_)
  cases h9
  have hP : va_P (dC, dI) classes (WS_Decimal_topPlace h_this h_this_row c_this_row v_first v_last a_row) H := hP.sub [0, 1] rfl
  have hD : va_D A (WS_Decimal_topPlace h_this h_this_row c_this_row v_first v_last a_row) := hD.sub [0, 1] (by decide) rfl
  refine lv_istore_n (lv' := [(2, .int r7), (1, .int x6), (0, .ref h_this)]) hx hb d_Decimal_topPlace_19 rfl hl (by decide) rfl (fun ls hl => ?_)
  refine lv_iload_n hx hb d_Decimal_topPlace_20 rfl (lv_at hl 0 rfl) ?_
  refine lv_if_ne (tgt := 26) hx hb d_Decimal_topPlace_21 (by decide) (fun c8 => ?_) (fun c8 => ?_)
  · have h := if_f c8 h
    refine lv_iconst (v := 1) hx hb d_Decimal_topPlace_26 (by decide) ?_
    refine lv_istore_n (lv' := [(3, .int (1 : Int32)), (2, .int r7), (1, .int x6), (0, .ref h_this)]) hx hb d_Decimal_topPlace_27 rfl hl (by decide) rfl (fun ls hl => ?_)
    exact s_Decimal_topPlace_28 cx hK hA hX fu v_first a_row x6 r7 (1 : Int32) H locs ls hP hD hS (lv_sub hl [3, 2, 1, 0] rfl) h
  · have h := if_t c8 h
    refine lv_iconst (v := 0) hx hb d_Decimal_topPlace_24 (by decide) ?_
    exact W.iret (v := (0 : Int32)) hx hb hr (fun t ht9 hW => ⟨⟨(0 : Int32), (), rfl, h, by rw [ht9]; exact hP, va_K.moved hW.alike hK, hD⟩, hS.F ht9⟩) hS.2.2 d_Decimal_topPlace_25 hlk
set_option maxHeartbeats 4000000 in
set_option maxRecDepth 100000 in
theorem c_Decimal_topPlace (l : Launch) (dC : Nat → ClassId) (dI : Nat → Nat → Nat) (X : SXT) (h_this : Nat) (h_this_row : Nat) (c_this_row : ClassId) (sz : Nat) (v_first : Int32) (v_last : Int32) (a_row : (Nat → Int32)) (res : Int32) (hf : f_Decimal_topPlace v_first a_row = some res) : Met l y_Decimal_topPlace (.code y_Decimal_topPlace b_Decimal_topPlace 4 (some .int) :: w0) ({ frames := 1, cells := 0, slots := 0, locals := 21 }) (va_Pc [.ref h_this] (gP (dC, dI) (WS_Decimal_topPlace h_this h_this_row c_this_row v_first v_last a_row) [(c_this_row, .int)] sz X)) (va_Qi (fun (r : Int32) (_ : Unit) => some r = some res) (gB (dC, dI) [(c_this_row, .int)] (va_A (WS_Decimal_topPlace h_this h_this_row c_this_row v_first v_last a_row) sz) (fun (u : Unit) => (WS_Decimal_topPlace h_this h_this_row c_this_row v_first v_last a_row))) (va_A (WS_Decimal_topPlace h_this h_this_row c_this_row v_first v_last a_row) sz)) 0 0 (va_A (WS_Decimal_topPlace h_this h_this_row c_this_row v_first v_last a_row) sz) := by
  refine Met.ofW (cc := b_Decimal_topPlace) (maxL := 4) (ret := (some .int)) (by decide) rfl ?_
  intro p e s m args below meth c s₁ B hml hv
  obtain ⟨rfl, hsz, hP, hK, hD0, hX⟩ := hv
  subst hsz
  have cx : cxx p s m ([.ref h_this] : List Value).toArray meth c b_Decimal_topPlace 4 (some .int) R_Decimal := ⟨B.exec, B.bytes, B.returns, hml, findClass_of_methodNamed B.named, fun w9 hw => atoms_spec (ws := .code y_Decimal_topPlace b_Decimal_topPlace 4 (some .int) :: w0) B.pre w9 (List.mem_cons_of_mem _ hw), B.notSynchronized⟩
  have hD := hD0.self (sz := s.heap.size)
  generalize hAe : va_A (WS_Decimal_topPlace h_this h_this_row c_this_row v_first v_last a_row) s.heap.size = A at hD hX ⊢
  have hA : ∀ q : Nat, s.heap.size ≤ q → A q := fun q h => by rw [← hAe]; exact Or.inr h
  have hS : va_S A s.heap s.heap [] := va_S.rf
  have hl := lv_entry ([.ref h_this]) (n := 4) (Nat.le_of_ble_eq_true rfl)
  rw [lg_entry_eq]
  generalize (lg_sl ([.ref h_this]) ++ List.replicate (4 - (lg_sl ([.ref h_this])).length) Slot.unset).toArray = ls at hl ⊢
  have hl : lv_has ls 4 [(0, .ref h_this)] := hl
  exact s_Decimal_topPlace_e cx hK hA hX v_first a_row s.heap [] ls hP hD hS hl hf
abbrev WS_Writer_putBehind (g_this_digits : Nat) (h_this : Nat) (h_this_exact : Nat) (h_this_page : Nat) (h_this_exact_row : Nat) (h_this_page_row : Nat) (c_this_exact_row : ClassId) (c_this_page_row : ClassId) (v_count : Int32) (v_letter : Int32) (v_flags : Int32) (v_width : Int32) (v_precision : Int32) (v_exact_first : Int32) (v_exact_last : Int32) (v_page_length : Int32) (a_exact_row : (Nat → Int32)) (a_page_row : (Nat → Int32)) : va_W := [(h_this, .inr (6, [.ref h_this_page, .ref h_this_exact, .ref g_this_digits, .int v_count, .int v_letter, .int v_flags, .int v_width, .int v_precision])), (h_this_exact, .inr (3, [.ref h_this_exact_row, .int v_exact_first, .int v_exact_last])), (h_this_page, .inr (5, [.ref h_this_page_row, .int v_page_length])), (h_this_exact_row, .inl (c_this_exact_row, 208, .inl a_exact_row)), (h_this_page_row, .inl (c_this_page_row, 420, .inl a_page_row))]
def f_Writer_putBehind_7b (k7 : Int32 → Int32 → (Nat → Int32) → (Nat → Int32) → Int32 → Int32 → Int32 → Option (Int32 × (Nat → Int32))) (v_flags : Int32) (v_page_length : Int32) (a_exact_row : (Nat → Int32)) (a_page_row : (Nat → Int32)) (y1 : Int32) (y2 : Int32) (y3 : Int32) : Option (Int32 × (Nat → Int32)) :=
  if y2 ≤ y3 then
    some (v_page_length, a_page_row)
  else
    bi1 (f_Decimal_digit a_exact_row (y1 - y3)) fun r2 =>
    bi2 (f_Page_put v_page_length a_page_row ((48 : Int32) + r2)) fun v3 a4 =>
    bd (y3 + (1 : Int32)) fun x5 =>
    k7 v_flags v3 a_exact_row a4 y1 y2 x5
def f_Writer_putBehind_7 : Nat → Int32 → Int32 → (Nat → Int32) → (Nat → Int32) → Int32 → Int32 → Int32 → Option (Int32 × (Nat → Int32))
  | 0 => fun _ _ _ _ _ _ _ => none
  | n + 1 => fun v_flags v_page_length a_exact_row a_page_row y1 y2 y3 => f_Writer_putBehind_7b (f_Writer_putBehind_7 n) v_flags v_page_length a_exact_row a_page_row y1 y2 y3
def f_Writer_putBehind (v_flags : Int32) (v_page_length : Int32) (a_exact_row : (Nat → Int32)) (a_page_row : (Nat → Int32)) (p1 : Int32) (p2 : Int32) : Option (Int32 × (Nat → Int32)) :=
  bi2 (f_Writer_putPoint v_flags v_page_length a_page_row p2) fun v6 a7 =>
  f_Writer_putBehind_7 fu v_flags v6 a_exact_row a7 p1 p2 (0 : Int32)
set_option maxHeartbeats 4000000 in
set_option maxRecDepth 100000 in
theorem s_Writer_putBehind_7b {p : Program} {l : Launch} {e : Env} {s : State} {m : MethodId} {args : Array Value} {below : List Frame} {meth : Method} {c : Code} {dC : Nat → ClassId} {dI : Nat → Nat → Nat} {A : Nat → Prop} {X : SXT} {g_this_digits : Nat} {h_this : Nat} {h_this_exact : Nat} {h_this_page : Nat} {h_this_exact_row : Nat} {h_this_page_row : Nat} {c_this_exact_row : ClassId} {c_this_page_row : ClassId} {v_count : Int32} {v_letter : Int32} {v_width : Int32} {v_precision : Int32} {v_exact_first : Int32} {v_exact_last : Int32} {res : Int32 × (Nat → Int32)} {k7 : Int32 → Int32 → (Nat → Int32) → (Nat → Int32) → Int32 → Int32 → Int32 → Option (Int32 × (Nat → Int32))} (cx : cxx p s m args meth c b_Writer_putBehind 4 none R_Writer) (hK : va_K (dC, dI) classes [(c_this_exact_row, .int), (c_this_page_row, .byte)] s) (hA : ∀ q, s.heap.size ≤ q → A q) (hX : SX X A s s.heap) (hk7 : ∀ (v_flags : Int32) (v_page_length : Int32) (a_exact_row : (Nat → Int32)) (a_page_row : (Nat → Int32)) (y1 : Int32) (y2 : Int32) (y3 : Int32) (H : Heap) (locs : List Loc) (ls : Array Slot), va_P (dC, dI) classes (WS_Writer_putBehind g_this_digits h_this h_this_exact h_this_page h_this_exact_row h_this_page_row c_this_exact_row c_this_page_row v_count v_letter v_flags v_width v_precision v_exact_first v_exact_last v_page_length a_exact_row a_page_row) H → va_D A (WS_Writer_putBehind g_this_digits h_this h_this_exact h_this_page h_this_exact_row h_this_page_row c_this_exact_row c_this_page_row v_count v_letter v_flags v_width v_precision v_exact_first v_exact_last v_page_length a_exact_row a_page_row) → va_S A s.heap H locs → lv_has ls 4 [(0, .ref h_this), (1, .int y1), (2, .int y2), (3, .int y3)] → k7 v_flags v_page_length a_exact_row a_page_row y1 y2 y3 = some res → W p l e ({ frames := 2, cells := 0, slots := 0, locals := 43 }) s m args below meth c H locs 0 0 (MQ below (va_Qv (fun (u : Int32 × (Nat → Int32)) => some u = some res) (gB (dC, dI) [(c_this_exact_row, .int), (c_this_page_row, .byte)] A (fun (u : Int32 × (Nat → Int32)) => (WS_Writer_putBehind g_this_digits h_this h_this_exact h_this_page h_this_exact_row h_this_page_row c_this_exact_row c_this_page_row v_count v_letter v_flags v_width v_precision v_exact_first v_exact_last u.1 a_exact_row u.2))) A) args s 0 0 A) (F0 m 7 ls [])) : ∀ (v_flags : Int32) (v_page_length : Int32) (a_exact_row : (Nat → Int32)) (a_page_row : (Nat → Int32)) (y1 : Int32) (y2 : Int32) (y3 : Int32) (H : Heap) (locs : List Loc) (ls : Array Slot), va_P (dC, dI) classes (WS_Writer_putBehind g_this_digits h_this h_this_exact h_this_page h_this_exact_row h_this_page_row c_this_exact_row c_this_page_row v_count v_letter v_flags v_width v_precision v_exact_first v_exact_last v_page_length a_exact_row a_page_row) H → va_D A (WS_Writer_putBehind g_this_digits h_this h_this_exact h_this_page h_this_exact_row h_this_page_row c_this_exact_row c_this_page_row v_count v_letter v_flags v_width v_precision v_exact_first v_exact_last v_page_length a_exact_row a_page_row) → va_S A s.heap H locs → lv_has ls 4 [(0, .ref h_this), (1, .int y1), (2, .int y2), (3, .int y3)] → f_Writer_putBehind_7b k7 v_flags v_page_length a_exact_row a_page_row y1 y2 y3 = some res → W p l e ({ frames := 2, cells := 0, slots := 0, locals := 43 }) s m args below meth c H locs 0 0 (MQ below (va_Qv (fun (u : Int32 × (Nat → Int32)) => some u = some res) (gB (dC, dI) [(c_this_exact_row, .int), (c_this_page_row, .byte)] A (fun (u : Int32 × (Nat → Int32)) => (WS_Writer_putBehind g_this_digits h_this h_this_exact h_this_page h_this_exact_row h_this_page_row c_this_exact_row c_this_page_row v_count v_letter v_flags v_width v_precision v_exact_first v_exact_last u.1 a_exact_row u.2))) A) args s 0 0 A) (F0 m 7 ls []) := by
  intro v_flags v_page_length a_exact_row a_page_row y1 y2 y3 H locs ls hP hD hS hl h
  obtain ⟨hx, hb, hr, hml, hown, ht, hlk⟩ := id cx
  refine lv_iload_n hx hb d_Writer_putBehind_7 rfl (lv_at hl 3 rfl) ?_
  refine lv_iload_n hx hb d_Writer_putBehind_8 rfl (lv_at hl 2 rfl) ?_
  refine lv_icmp_ge (tgt := 38) hx hb d_Writer_putBehind_9 (by decide) (fun c1 => ?_) (fun c1 => ?_)
  · have h := if_t c1 h
    exact W.vret hx hb hr (fun t ht9 hW => ⟨⟨(v_page_length, a_page_row), rfl, h, by rw [ht9]; exact hP, va_K.moved hW.alike hK, hD⟩, hS.F ht9⟩) hS.2.2 d_Writer_putBehind_38 hlk
  · have h := if_f c1 h
    refine lv_aload_n hx hb d_Writer_putBehind_12 rfl (lv_at hl 0 rfl) ?_
    refine va_get (D := (dC, dI)) (ci := 6) (v := .ref h_this_page) (C := R_Writer) (T := F_Writer) (N := 8) hx hb ht i_Writer hown hK hP 0 rfl rfl 0 (by decide) (ht _ q_241) (fun _ h9 => h9) rfl d_Writer_putBehind_13 ?_
    refine lv_bipush (v := 48) hx hb d_Writer_putBehind_16 (by decide) ?_
    refine lv_aload_n hx hb d_Writer_putBehind_18 rfl (lv_at hl 0 rfl) ?_
    refine va_get (D := (dC, dI)) (ci := 6) (v := .ref h_this_exact) (C := R_Writer) (T := F_Writer) (N := 8) hx hb ht i_Writer hown hK hP 0 rfl rfl 1 (by decide) (ht _ q_376) (fun _ h9 => h9) rfl d_Writer_putBehind_19 ?_
    refine lv_iload_n hx hb d_Writer_putBehind_22 rfl (lv_at hl 1 rfl) ?_
    refine lv_iload_n hx hb d_Writer_putBehind_23 rfl (lv_at hl 3 rfl) ?_
    refine lv_isub hx hb d_Writer_putBehind_24 ?_
    obtain ⟨r2, hf, h⟩ := bi1_x h
    refine clVi (D := (dC, dI)) (n := 1) (As := [.int (y1 - y3)]) ⟨hx, hb, hml, hown, ht⟩ (c_Decimal_digit l dC dI X h_this_exact h_this_exact_row c_this_exact_row H.size v_exact_first v_exact_last a_exact_row (y1 - y3) r2 hf) (gV q_377 q_368 q_369 q_113 q_370) (by decide +kernel) ⟨rfl, rfl, Nat.le_of_ble_eq_true rfl, Nat.le_of_ble_eq_true rfl⟩ hK hP hD hS hA hX [1, 3] [0, 2, 4] [0] rfl (wr := [(h_this, .inr (6, [.ref h_this_page, .ref h_this_exact, .ref g_this_digits, .int v_count, .int v_letter, .int v_flags, .int v_width, .int v_precision])), (h_this_page, .inr (5, [.ref h_this_page_row, .int v_page_length])), (h_this_page_row, .inl (c_this_page_row, 420, .inl a_page_row))]) rfl (by decide) (by decide) (by decide) rfl (va_recv hK hP (ci := 3) (q0 := 1) rfl rfl) rfl hl.1 rfl (lv_room (Nat.le_of_ble_eq_true rfl)) d_Writer_putBehind_25 ⟨Nat.zero_le _, Nat.zero_le _⟩ (fun r9 u9 H locs h9 hP hD hS => ?_)
    cases h9
    have hP : va_P (dC, dI) classes (WS_Writer_putBehind g_this_digits h_this h_this_exact h_this_page h_this_exact_row h_this_page_row c_this_exact_row c_this_page_row v_count v_letter v_flags v_width v_precision v_exact_first v_exact_last v_page_length a_exact_row a_page_row) H := hP.sub [0, 3, 1, 4, 2] rfl
    have hD : va_D A (WS_Writer_putBehind g_this_digits h_this h_this_exact h_this_page h_this_exact_row h_this_page_row c_this_exact_row c_this_page_row v_count v_letter v_flags v_width v_precision v_exact_first v_exact_last v_page_length a_exact_row a_page_row) := hD.sub [0, 3, 1, 4, 2] (by decide) rfl
    refine lv_iadd hx hb d_Writer_putBehind_28 ?_
    obtain ⟨v3, a4, hf, h⟩ := bi2_x h
    refine clVv (D := (dC, dI)) (n := 1) (As := [.int ((48 : Int32) + r2)]) ⟨hx, hb, hml, hown, ht⟩ (c_Page_put l dC dI X h_this_page h_this_page_row c_this_page_row H.size v_page_length a_page_row ((48 : Int32) + r2) (v3, a4) hf) (gV q_242 q_243 q_244 q_245 q_246) (by decide +kernel) ⟨rfl, rfl, Nat.le_of_ble_eq_true rfl, Nat.le_of_ble_eq_true rfl⟩ hK hP hD hS hA hX [2, 4] [0, 1, 3] [1] rfl (wr := [(h_this, .inr (6, [.ref h_this_page, .ref h_this_exact, .ref g_this_digits, .int v_count, .int v_letter, .int v_flags, .int v_width, .int v_precision])), (h_this_exact, .inr (3, [.ref h_this_exact_row, .int v_exact_first, .int v_exact_last])), (h_this_exact_row, .inl (c_this_exact_row, 208, .inl a_exact_row))]) rfl (by decide) (by decide) (by decide) rfl (va_recv hK hP (ci := 5) (q0 := 2) rfl rfl) rfl hl.1 rfl (lv_room (Nat.le_of_ble_eq_true rfl)) d_Writer_putBehind_29 ⟨Nat.zero_le _, Nat.zero_le _⟩ (fun u9 H locs h9 hP hD hS => ?_)
    cases h9
    have hP : va_P (dC, dI) classes (WS_Writer_putBehind g_this_digits h_this h_this_exact h_this_page h_this_exact_row h_this_page_row c_this_exact_row c_this_page_row v_count v_letter v_flags v_width v_precision v_exact_first v_exact_last v3 a_exact_row a4) H := hP.sub [0, 1, 3, 2, 4] rfl
    have hD : va_D A (WS_Writer_putBehind g_this_digits h_this h_this_exact h_this_page h_this_exact_row h_this_page_row c_this_exact_row c_this_page_row v_count v_letter v_flags v_width v_precision v_exact_first v_exact_last v3 a_exact_row a4) := hD.sub [0, 1, 3, 2, 4] (by decide) rfl
    obtain ⟨x5, e_x5⟩ : ∃ y : Int32, y = y3 + (1 : Int32) := ⟨_, rfl⟩
    refine lv_iinc (v := x5) (lv' := [(3, .int x5), (0, .ref h_this), (1, .int y1), (2, .int y2)]) hx hb d_Writer_putBehind_32 hl (k := 3) rfl (by rw [e_x5]; rfl) (by decide) rfl (fun ls hl => ?_)
    have h := bd_g e_x5 h
    refine lv_goto (tgt := 7) hx hb d_Writer_putBehind_35 (by decide) ?_
    exact hk7 v_flags v3 a_exact_row a4 y1 y2 x5 H locs ls hP hD hS (lv_sub hl [1, 2, 3, 0] rfl) h
set_option maxHeartbeats 4000000 in
set_option maxRecDepth 100000 in
theorem s_Writer_putBehind_7 {p : Program} {l : Launch} {e : Env} {s : State} {m : MethodId} {args : Array Value} {below : List Frame} {meth : Method} {c : Code} {dC : Nat → ClassId} {dI : Nat → Nat → Nat} {A : Nat → Prop} {X : SXT} {g_this_digits : Nat} {h_this : Nat} {h_this_exact : Nat} {h_this_page : Nat} {h_this_exact_row : Nat} {h_this_page_row : Nat} {c_this_exact_row : ClassId} {c_this_page_row : ClassId} {v_count : Int32} {v_letter : Int32} {v_width : Int32} {v_precision : Int32} {v_exact_first : Int32} {v_exact_last : Int32} {res : Int32 × (Nat → Int32)}  (cx : cxx p s m args meth c b_Writer_putBehind 4 none R_Writer) (hK : va_K (dC, dI) classes [(c_this_exact_row, .int), (c_this_page_row, .byte)] s) (hA : ∀ q, s.heap.size ≤ q → A q) (hX : SX X A s s.heap)  : ∀ n : Nat, ∀ (v_flags : Int32) (v_page_length : Int32) (a_exact_row : (Nat → Int32)) (a_page_row : (Nat → Int32)) (y1 : Int32) (y2 : Int32) (y3 : Int32) (H : Heap) (locs : List Loc) (ls : Array Slot), va_P (dC, dI) classes (WS_Writer_putBehind g_this_digits h_this h_this_exact h_this_page h_this_exact_row h_this_page_row c_this_exact_row c_this_page_row v_count v_letter v_flags v_width v_precision v_exact_first v_exact_last v_page_length a_exact_row a_page_row) H → va_D A (WS_Writer_putBehind g_this_digits h_this h_this_exact h_this_page h_this_exact_row h_this_page_row c_this_exact_row c_this_page_row v_count v_letter v_flags v_width v_precision v_exact_first v_exact_last v_page_length a_exact_row a_page_row) → va_S A s.heap H locs → lv_has ls 4 [(0, .ref h_this), (1, .int y1), (2, .int y2), (3, .int y3)] → f_Writer_putBehind_7 n v_flags v_page_length a_exact_row a_page_row y1 y2 y3 = some res → W p l e ({ frames := 2, cells := 0, slots := 0, locals := 43 }) s m args below meth c H locs 0 0 (MQ below (va_Qv (fun (u : Int32 × (Nat → Int32)) => some u = some res) (gB (dC, dI) [(c_this_exact_row, .int), (c_this_page_row, .byte)] A (fun (u : Int32 × (Nat → Int32)) => (WS_Writer_putBehind g_this_digits h_this h_this_exact h_this_page h_this_exact_row h_this_page_row c_this_exact_row c_this_page_row v_count v_letter v_flags v_width v_precision v_exact_first v_exact_last u.1 a_exact_row u.2))) A) args s 0 0 A) (F0 m 7 ls []) := by
  intro n
  induction n with
  | zero =>
    intro v_flags v_page_length a_exact_row a_page_row y1 y2 y3 H locs ls hP hD hS hl h
    have h9 : (none : Option (Int32 × (Nat → Int32))) = some res := h
    cases h9
  | succ n ih =>
    intro v_flags v_page_length a_exact_row a_page_row y1 y2 y3 H locs ls hP hD hS hl h
    exact s_Writer_putBehind_7b cx hK hA hX ih v_flags v_page_length a_exact_row a_page_row y1 y2 y3 H locs ls hP hD hS hl h
set_option maxHeartbeats 4000000 in
set_option maxRecDepth 100000 in
theorem s_Writer_putBehind_e {p : Program} {l : Launch} {e : Env} {s : State} {m : MethodId} {args : Array Value} {below : List Frame} {meth : Method} {c : Code} {dC : Nat → ClassId} {dI : Nat → Nat → Nat} {A : Nat → Prop} {X : SXT} {g_this_digits : Nat} {h_this : Nat} {h_this_exact : Nat} {h_this_page : Nat} {h_this_exact_row : Nat} {h_this_page_row : Nat} {c_this_exact_row : ClassId} {c_this_page_row : ClassId} {v_count : Int32} {v_letter : Int32} {v_width : Int32} {v_precision : Int32} {v_exact_first : Int32} {v_exact_last : Int32} {res : Int32 × (Nat → Int32)} (cx : cxx p s m args meth c b_Writer_putBehind 4 none R_Writer) (hK : va_K (dC, dI) classes [(c_this_exact_row, .int), (c_this_page_row, .byte)] s) (hA : ∀ q, s.heap.size ≤ q → A q) (hX : SX X A s s.heap) : ∀ (v_flags : Int32) (v_page_length : Int32) (a_exact_row : (Nat → Int32)) (a_page_row : (Nat → Int32)) (p1 : Int32) (p2 : Int32) (H : Heap) (locs : List Loc) (ls : Array Slot), va_P (dC, dI) classes (WS_Writer_putBehind g_this_digits h_this h_this_exact h_this_page h_this_exact_row h_this_page_row c_this_exact_row c_this_page_row v_count v_letter v_flags v_width v_precision v_exact_first v_exact_last v_page_length a_exact_row a_page_row) H → va_D A (WS_Writer_putBehind g_this_digits h_this h_this_exact h_this_page h_this_exact_row h_this_page_row c_this_exact_row c_this_page_row v_count v_letter v_flags v_width v_precision v_exact_first v_exact_last v_page_length a_exact_row a_page_row) → va_S A s.heap H locs → lv_has ls 4 [(0, .ref h_this), (1, .int p1), (2, .int p2)] → f_Writer_putBehind v_flags v_page_length a_exact_row a_page_row p1 p2 = some res → W p l e ({ frames := 2, cells := 0, slots := 0, locals := 43 }) s m args below meth c H locs 0 0 (MQ below (va_Qv (fun (u : Int32 × (Nat → Int32)) => some u = some res) (gB (dC, dI) [(c_this_exact_row, .int), (c_this_page_row, .byte)] A (fun (u : Int32 × (Nat → Int32)) => (WS_Writer_putBehind g_this_digits h_this h_this_exact h_this_page h_this_exact_row h_this_page_row c_this_exact_row c_this_page_row v_count v_letter v_flags v_width v_precision v_exact_first v_exact_last u.1 a_exact_row u.2))) A) args s 0 0 A) (F0 m 0 ls []) := by
  intro v_flags v_page_length a_exact_row a_page_row p1 p2 H locs ls hP hD hS hl h
  obtain ⟨hx, hb, hr, hml, hown, ht, hlk⟩ := id cx
  refine lv_aload_n hx hb d_Writer_putBehind_0 rfl (lv_at hl 0 rfl) ?_
  refine lv_iload_n hx hb d_Writer_putBehind_1 rfl (lv_at hl 2 rfl) ?_
  obtain ⟨v6, a7, hf, h⟩ := bi2_x h
  refine clVv (D := (dC, dI)) (n := 1) (As := [.int p2]) ⟨hx, hb, hml, hown, ht⟩ (c_Writer_putPoint l dC dI X h_this_exact g_this_digits h_this h_this_page h_this_page_row c_this_page_row H.size v_count v_letter v_flags v_width v_precision v_page_length a_page_row p2 (v6, a7) hf) (gV q_360 q_361 q_362 q_239 q_363) (by decide +kernel) ⟨rfl, rfl, Nat.le_of_ble_eq_true rfl, Nat.le_of_ble_eq_true rfl⟩ hK hP hD hS hA hX [0, 2, 4] [1, 3] [1] rfl (wr := [(h_this_exact, .inr (3, [.ref h_this_exact_row, .int v_exact_first, .int v_exact_last])), (h_this_exact_row, .inl (c_this_exact_row, 208, .inl a_exact_row))]) rfl (by decide) (by decide) (by decide) rfl (va_recv hK hP (ci := 6) (q0 := 0) rfl rfl) rfl hl.1 rfl (lv_room (Nat.le_of_ble_eq_true rfl)) d_Writer_putBehind_2 ⟨Nat.zero_le _, Nat.zero_le _⟩ (fun u9 H locs h9 hP hD hS => ?_)
  cases h9
  have hP : va_P (dC, dI) classes (WS_Writer_putBehind g_this_digits h_this h_this_exact h_this_page h_this_exact_row h_this_page_row c_this_exact_row c_this_page_row v_count v_letter v_flags v_width v_precision v_exact_first v_exact_last v6 a_exact_row a7) H := hP.sub [2, 0, 3, 1, 4] rfl
  have hD : va_D A (WS_Writer_putBehind g_this_digits h_this h_this_exact h_this_page h_this_exact_row h_this_page_row c_this_exact_row c_this_page_row v_count v_letter v_flags v_width v_precision v_exact_first v_exact_last v6 a_exact_row a7) := hD.sub [2, 0, 3, 1, 4] (by decide) rfl
  refine lv_iconst (v := 0) hx hb d_Writer_putBehind_5 (by decide) ?_
  refine lv_istore_n (lv' := [(3, .int (0 : Int32)), (0, .ref h_this), (1, .int p1), (2, .int p2)]) hx hb d_Writer_putBehind_6 rfl hl (by decide) rfl (fun ls hl => ?_)
  exact s_Writer_putBehind_7 cx hK hA hX fu v_flags v6 a_exact_row a7 p1 p2 (0 : Int32) H locs ls hP hD hS (lv_sub hl [1, 2, 3, 0] rfl) h
set_option maxHeartbeats 4000000 in
set_option maxRecDepth 100000 in
theorem c_Writer_putBehind (l : Launch) (dC : Nat → ClassId) (dI : Nat → Nat → Nat) (X : SXT) (g_this_digits : Nat) (h_this : Nat) (h_this_exact : Nat) (h_this_page : Nat) (h_this_exact_row : Nat) (h_this_page_row : Nat) (c_this_exact_row : ClassId) (c_this_page_row : ClassId) (sz : Nat) (v_count : Int32) (v_letter : Int32) (v_flags : Int32) (v_width : Int32) (v_precision : Int32) (v_exact_first : Int32) (v_exact_last : Int32) (v_page_length : Int32) (a_exact_row : (Nat → Int32)) (a_page_row : (Nat → Int32)) (p1 : Int32) (p2 : Int32) (res : Int32 × (Nat → Int32)) (hf : f_Writer_putBehind v_flags v_page_length a_exact_row a_page_row p1 p2 = some res) : Met l y_Writer_putBehind (.code y_Writer_putBehind b_Writer_putBehind 4 none :: w0) ({ frames := 2, cells := 0, slots := 0, locals := 43 }) (va_Pc [.ref h_this, .int p1, .int p2] (gP (dC, dI) (WS_Writer_putBehind g_this_digits h_this h_this_exact h_this_page h_this_exact_row h_this_page_row c_this_exact_row c_this_page_row v_count v_letter v_flags v_width v_precision v_exact_first v_exact_last v_page_length a_exact_row a_page_row) [(c_this_exact_row, .int), (c_this_page_row, .byte)] sz X)) (va_Qv (fun (u : Int32 × (Nat → Int32)) => some u = some res) (gB (dC, dI) [(c_this_exact_row, .int), (c_this_page_row, .byte)] (va_A (WS_Writer_putBehind g_this_digits h_this h_this_exact h_this_page h_this_exact_row h_this_page_row c_this_exact_row c_this_page_row v_count v_letter v_flags v_width v_precision v_exact_first v_exact_last v_page_length a_exact_row a_page_row) sz) (fun (u : Int32 × (Nat → Int32)) => (WS_Writer_putBehind g_this_digits h_this h_this_exact h_this_page h_this_exact_row h_this_page_row c_this_exact_row c_this_page_row v_count v_letter v_flags v_width v_precision v_exact_first v_exact_last u.1 a_exact_row u.2))) (va_A (WS_Writer_putBehind g_this_digits h_this h_this_exact h_this_page h_this_exact_row h_this_page_row c_this_exact_row c_this_page_row v_count v_letter v_flags v_width v_precision v_exact_first v_exact_last v_page_length a_exact_row a_page_row) sz)) 0 0 (va_A (WS_Writer_putBehind g_this_digits h_this h_this_exact h_this_page h_this_exact_row h_this_page_row c_this_exact_row c_this_page_row v_count v_letter v_flags v_width v_precision v_exact_first v_exact_last v_page_length a_exact_row a_page_row) sz) := by
  refine Met.ofW (cc := b_Writer_putBehind) (maxL := 4) (ret := none) (by decide) rfl ?_
  intro p e s m args below meth c s₁ B hml hv
  obtain ⟨rfl, hsz, hP, hK, hD0, hX⟩ := hv
  subst hsz
  have cx : cxx p s m ([.ref h_this, .int p1, .int p2] : List Value).toArray meth c b_Writer_putBehind 4 none R_Writer := ⟨B.exec, B.bytes, B.returns, hml, findClass_of_methodNamed B.named, fun w9 hw => atoms_spec (ws := .code y_Writer_putBehind b_Writer_putBehind 4 none :: w0) B.pre w9 (List.mem_cons_of_mem _ hw), B.notSynchronized⟩
  have hD := hD0.self (sz := s.heap.size)
  generalize hAe : va_A (WS_Writer_putBehind g_this_digits h_this h_this_exact h_this_page h_this_exact_row h_this_page_row c_this_exact_row c_this_page_row v_count v_letter v_flags v_width v_precision v_exact_first v_exact_last v_page_length a_exact_row a_page_row) s.heap.size = A at hD hX ⊢
  have hA : ∀ q : Nat, s.heap.size ≤ q → A q := fun q h => by rw [← hAe]; exact Or.inr h
  have hS : va_S A s.heap s.heap [] := va_S.rf
  have hl := lv_entry ([.ref h_this, .int p1, .int p2]) (n := 4) (Nat.le_of_ble_eq_true rfl)
  rw [lg_entry_eq]
  generalize (lg_sl ([.ref h_this, .int p1, .int p2]) ++ List.replicate (4 - (lg_sl ([.ref h_this, .int p1, .int p2])).length) Slot.unset).toArray = ls at hl ⊢
  have hl : lv_has ls 4 [(0, .ref h_this), (1, .int p1), (2, .int p2)] := hl
  exact s_Writer_putBehind_e cx hK hA hX v_flags v_page_length a_exact_row a_page_row p1 p2 s.heap [] ls hP hD hS hl hf
abbrev WS_Writer_putPointForm (g_this_digits : Nat) (h_this : Nat) (h_this_exact : Nat) (h_this_page : Nat) (h_this_exact_row : Nat) (h_this_page_row : Nat) (c_this_exact_row : ClassId) (c_this_page_row : ClassId) (v_count : Int32) (v_letter : Int32) (v_flags : Int32) (v_width : Int32) (v_precision : Int32) (v_exact_first : Int32) (v_exact_last : Int32) (v_page_length : Int32) (a_exact_row : (Nat → Int32)) (a_page_row : (Nat → Int32)) : va_W := [(h_this, .inr (6, [.ref h_this_page, .ref h_this_exact, .ref g_this_digits, .int v_count, .int v_letter, .int v_flags, .int v_width, .int v_precision])), (h_this_exact, .inr (3, [.ref h_this_exact_row, .int v_exact_first, .int v_exact_last])), (h_this_page, .inr (5, [.ref h_this_page_row, .int v_page_length])), (h_this_exact_row, .inl (c_this_exact_row, 208, .inl a_exact_row)), (h_this_page_row, .inl (c_this_page_row, 420, .inl a_page_row))]
def f_Writer_putPointForm_40 (v_flags : Int32) (v_exact_first : Int32) (v_page_length : Int32) (a_exact_row : (Nat → Int32)) (a_page_row : (Nat → Int32)) (y1 : Int32) : Option (Int32 × (Nat → Int32)) :=
  bi2 (f_Writer_putBehind v_flags v_page_length a_exact_row a_page_row (-1 : Int32) y1) fun v1 a2 =>
  some (v1, a2)
def f_Writer_putPointForm_12b (k12 : Int32 → Int32 → Int32 → (Nat → Int32) → (Nat → Int32) → Int32 → Int32 → Option (Int32 × (Nat → Int32))) (v_flags : Int32) (v_exact_first : Int32) (v_page_length : Int32) (a_exact_row : (Nat → Int32)) (a_page_row : (Nat → Int32)) (y1 : Int32) (y2 : Int32) : Option (Int32 × (Nat → Int32)) :=
  if y2 < 0 then
    f_Writer_putPointForm_40 v_flags v_exact_first v_page_length a_exact_row a_page_row y1
  else
    bi1 (f_Decimal_digit a_exact_row y2) fun r4 =>
    bi2 (f_Page_put v_page_length a_page_row ((48 : Int32) + r4)) fun v5 a6 =>
    bd (y2 + (-1 : Int32)) fun x7 =>
    k12 v_flags v_exact_first v5 a_exact_row a6 y1 x7
def f_Writer_putPointForm_12 : Nat → Int32 → Int32 → Int32 → (Nat → Int32) → (Nat → Int32) → Int32 → Int32 → Option (Int32 × (Nat → Int32))
  | 0 => fun _ _ _ _ _ _ _ => none
  | n + 1 => fun v_flags v_exact_first v_page_length a_exact_row a_page_row y1 y2 => f_Writer_putPointForm_12b (f_Writer_putPointForm_12 n) v_flags v_exact_first v_page_length a_exact_row a_page_row y1 y2
def f_Writer_putPointForm (v_flags : Int32) (v_exact_first : Int32) (v_page_length : Int32) (a_exact_row : (Nat → Int32)) (a_page_row : (Nat → Int32)) (p1 : Int32) : Option (Int32 × (Nat → Int32)) :=
  bi1 (f_Decimal_topPlace v_exact_first a_exact_row) fun r8 =>
  bd (imx (0 : Int32) r8) fun x9 =>
  f_Writer_putPointForm_12 fu v_flags v_exact_first v_page_length a_exact_row a_page_row p1 x9
set_option maxHeartbeats 4000000 in
set_option maxRecDepth 100000 in
theorem s_Writer_putPointForm_40 {p : Program} {l : Launch} {e : Env} {s : State} {m : MethodId} {args : Array Value} {below : List Frame} {meth : Method} {c : Code} {dC : Nat → ClassId} {dI : Nat → Nat → Nat} {A : Nat → Prop} {X : SXT} {g_this_digits : Nat} {h_this : Nat} {h_this_exact : Nat} {h_this_page : Nat} {h_this_exact_row : Nat} {h_this_page_row : Nat} {c_this_exact_row : ClassId} {c_this_page_row : ClassId} {v_count : Int32} {v_letter : Int32} {v_width : Int32} {v_precision : Int32} {v_exact_last : Int32} {res : Int32 × (Nat → Int32)}  (cx : cxx p s m args meth c b_Writer_putPointForm 3 none R_Writer) (hK : va_K (dC, dI) classes [(c_this_exact_row, .int), (c_this_page_row, .byte)] s) (hA : ∀ q, s.heap.size ≤ q → A q) (hX : SX X A s s.heap)  : ∀ (v_flags : Int32) (v_exact_first : Int32) (v_page_length : Int32) (a_exact_row : (Nat → Int32)) (a_page_row : (Nat → Int32)) (y1 : Int32) (H : Heap) (locs : List Loc) (ls : Array Slot), va_P (dC, dI) classes (WS_Writer_putPointForm g_this_digits h_this h_this_exact h_this_page h_this_exact_row h_this_page_row c_this_exact_row c_this_page_row v_count v_letter v_flags v_width v_precision v_exact_first v_exact_last v_page_length a_exact_row a_page_row) H → va_D A (WS_Writer_putPointForm g_this_digits h_this h_this_exact h_this_page h_this_exact_row h_this_page_row c_this_exact_row c_this_page_row v_count v_letter v_flags v_width v_precision v_exact_first v_exact_last v_page_length a_exact_row a_page_row) → va_S A s.heap H locs → lv_has ls 3 [(0, .ref h_this), (1, .int y1)] → f_Writer_putPointForm_40 v_flags v_exact_first v_page_length a_exact_row a_page_row y1 = some res → W p l e ({ frames := 3, cells := 0, slots := 0, locals := 66 }) s m args below meth c H locs 0 0 (MQ below (va_Qv (fun (u : Int32 × (Nat → Int32)) => some u = some res) (gB (dC, dI) [(c_this_exact_row, .int), (c_this_page_row, .byte)] A (fun (u : Int32 × (Nat → Int32)) => (WS_Writer_putPointForm g_this_digits h_this h_this_exact h_this_page h_this_exact_row h_this_page_row c_this_exact_row c_this_page_row v_count v_letter v_flags v_width v_precision v_exact_first v_exact_last u.1 a_exact_row u.2))) A) args s 0 0 A) (F0 m 40 ls []) := by
  intro v_flags v_exact_first v_page_length a_exact_row a_page_row y1 H locs ls hP hD hS hl h
  obtain ⟨hx, hb, hr, hml, hown, ht, hlk⟩ := id cx
  refine lv_aload_n hx hb d_Writer_putPointForm_40 rfl (lv_at hl 0 rfl) ?_
  refine lv_iconst (v := -1) hx hb d_Writer_putPointForm_41 (by decide) ?_
  refine lv_iload_n hx hb d_Writer_putPointForm_42 rfl (lv_at hl 1 rfl) ?_
  obtain ⟨v1, a2, hf, h⟩ := bi2_x h
  refine clVv (D := (dC, dI)) (n := 2) (As := [.int (-1 : Int32), .int y1]) ⟨hx, hb, hml, hown, ht⟩ (c_Writer_putBehind l dC dI X g_this_digits h_this h_this_exact h_this_page h_this_exact_row h_this_page_row c_this_exact_row c_this_page_row H.size v_count v_letter v_flags v_width v_precision v_exact_first v_exact_last v_page_length a_exact_row a_page_row (-1 : Int32) y1 (v1, a2) hf) (gV q_378 q_379 q_380 q_239 q_381) (by decide +kernel) ⟨rfl, rfl, Nat.le_of_ble_eq_true rfl, Nat.le_of_ble_eq_true rfl⟩ hK hP hD hS hA hX [0, 1, 2, 3, 4] [] [0, 1] rfl (wr := []) rfl (by decide) (by decide) (by decide) rfl (va_recv hK hP (ci := 6) (q0 := 0) rfl rfl) rfl hl.1 rfl (lv_room (Nat.le_of_ble_eq_true rfl)) d_Writer_putPointForm_43 ⟨Nat.zero_le _, Nat.zero_le _⟩ (fun u9 H locs h9 hP hD hS => ?_)
  cases h9
  have hP : va_P (dC, dI) classes (WS_Writer_putPointForm g_this_digits h_this h_this_exact h_this_page h_this_exact_row h_this_page_row c_this_exact_row c_this_page_row v_count v_letter v_flags v_width v_precision v_exact_first v_exact_last v1 a_exact_row a2) H := hP.sub [0, 1, 2, 3, 4] rfl
  have hD : va_D A (WS_Writer_putPointForm g_this_digits h_this h_this_exact h_this_page h_this_exact_row h_this_page_row c_this_exact_row c_this_page_row v_count v_letter v_flags v_width v_precision v_exact_first v_exact_last v1 a_exact_row a2) := hD.sub [0, 1, 2, 3, 4] (by decide) rfl
  exact W.vret hx hb hr (fun t ht9 hW => ⟨⟨(v1, a2), rfl, h, by rw [ht9]; exact hP, va_K.moved hW.alike hK, hD⟩, hS.F ht9⟩) hS.2.2 d_Writer_putPointForm_46 hlk
set_option maxHeartbeats 4000000 in
set_option maxRecDepth 100000 in
theorem s_Writer_putPointForm_12b {p : Program} {l : Launch} {e : Env} {s : State} {m : MethodId} {args : Array Value} {below : List Frame} {meth : Method} {c : Code} {dC : Nat → ClassId} {dI : Nat → Nat → Nat} {A : Nat → Prop} {X : SXT} {g_this_digits : Nat} {h_this : Nat} {h_this_exact : Nat} {h_this_page : Nat} {h_this_exact_row : Nat} {h_this_page_row : Nat} {c_this_exact_row : ClassId} {c_this_page_row : ClassId} {v_count : Int32} {v_letter : Int32} {v_width : Int32} {v_precision : Int32} {v_exact_last : Int32} {res : Int32 × (Nat → Int32)} {k12 : Int32 → Int32 → Int32 → (Nat → Int32) → (Nat → Int32) → Int32 → Int32 → Option (Int32 × (Nat → Int32))} (cx : cxx p s m args meth c b_Writer_putPointForm 3 none R_Writer) (hK : va_K (dC, dI) classes [(c_this_exact_row, .int), (c_this_page_row, .byte)] s) (hA : ∀ q, s.heap.size ≤ q → A q) (hX : SX X A s s.heap) (hk12 : ∀ (v_flags : Int32) (v_exact_first : Int32) (v_page_length : Int32) (a_exact_row : (Nat → Int32)) (a_page_row : (Nat → Int32)) (y1 : Int32) (y2 : Int32) (H : Heap) (locs : List Loc) (ls : Array Slot), va_P (dC, dI) classes (WS_Writer_putPointForm g_this_digits h_this h_this_exact h_this_page h_this_exact_row h_this_page_row c_this_exact_row c_this_page_row v_count v_letter v_flags v_width v_precision v_exact_first v_exact_last v_page_length a_exact_row a_page_row) H → va_D A (WS_Writer_putPointForm g_this_digits h_this h_this_exact h_this_page h_this_exact_row h_this_page_row c_this_exact_row c_this_page_row v_count v_letter v_flags v_width v_precision v_exact_first v_exact_last v_page_length a_exact_row a_page_row) → va_S A s.heap H locs → lv_has ls 3 [(0, .ref h_this), (1, .int y1), (2, .int y2)] → k12 v_flags v_exact_first v_page_length a_exact_row a_page_row y1 y2 = some res → W p l e ({ frames := 3, cells := 0, slots := 0, locals := 66 }) s m args below meth c H locs 0 0 (MQ below (va_Qv (fun (u : Int32 × (Nat → Int32)) => some u = some res) (gB (dC, dI) [(c_this_exact_row, .int), (c_this_page_row, .byte)] A (fun (u : Int32 × (Nat → Int32)) => (WS_Writer_putPointForm g_this_digits h_this h_this_exact h_this_page h_this_exact_row h_this_page_row c_this_exact_row c_this_page_row v_count v_letter v_flags v_width v_precision v_exact_first v_exact_last u.1 a_exact_row u.2))) A) args s 0 0 A) (F0 m 12 ls [])) : ∀ (v_flags : Int32) (v_exact_first : Int32) (v_page_length : Int32) (a_exact_row : (Nat → Int32)) (a_page_row : (Nat → Int32)) (y1 : Int32) (y2 : Int32) (H : Heap) (locs : List Loc) (ls : Array Slot), va_P (dC, dI) classes (WS_Writer_putPointForm g_this_digits h_this h_this_exact h_this_page h_this_exact_row h_this_page_row c_this_exact_row c_this_page_row v_count v_letter v_flags v_width v_precision v_exact_first v_exact_last v_page_length a_exact_row a_page_row) H → va_D A (WS_Writer_putPointForm g_this_digits h_this h_this_exact h_this_page h_this_exact_row h_this_page_row c_this_exact_row c_this_page_row v_count v_letter v_flags v_width v_precision v_exact_first v_exact_last v_page_length a_exact_row a_page_row) → va_S A s.heap H locs → lv_has ls 3 [(0, .ref h_this), (1, .int y1), (2, .int y2)] → f_Writer_putPointForm_12b k12 v_flags v_exact_first v_page_length a_exact_row a_page_row y1 y2 = some res → W p l e ({ frames := 3, cells := 0, slots := 0, locals := 66 }) s m args below meth c H locs 0 0 (MQ below (va_Qv (fun (u : Int32 × (Nat → Int32)) => some u = some res) (gB (dC, dI) [(c_this_exact_row, .int), (c_this_page_row, .byte)] A (fun (u : Int32 × (Nat → Int32)) => (WS_Writer_putPointForm g_this_digits h_this h_this_exact h_this_page h_this_exact_row h_this_page_row c_this_exact_row c_this_page_row v_count v_letter v_flags v_width v_precision v_exact_first v_exact_last u.1 a_exact_row u.2))) A) args s 0 0 A) (F0 m 12 ls []) := by
  intro v_flags v_exact_first v_page_length a_exact_row a_page_row y1 y2 H locs ls hP hD hS hl h
  obtain ⟨hx, hb, hr, hml, hown, ht, hlk⟩ := id cx
  refine lv_iload_n hx hb d_Writer_putPointForm_12 rfl (lv_at hl 2 rfl) ?_
  refine lv_if_lt (tgt := 40) hx hb d_Writer_putPointForm_13 (by decide) (fun c3 => ?_) (fun c3 => ?_)
  · have h := if_t c3 h
    exact s_Writer_putPointForm_40 cx hK hA hX v_flags v_exact_first v_page_length a_exact_row a_page_row y1 H locs ls hP hD hS (lv_sub hl [0, 1] rfl) h
  · have h := if_f c3 h
    refine lv_aload_n hx hb d_Writer_putPointForm_16 rfl (lv_at hl 0 rfl) ?_
    refine va_get (D := (dC, dI)) (ci := 6) (v := .ref h_this_page) (C := R_Writer) (T := F_Writer) (N := 8) hx hb ht i_Writer hown hK hP 0 rfl rfl 0 (by decide) (ht _ q_241) (fun _ h9 => h9) rfl d_Writer_putPointForm_17 ?_
    refine lv_bipush (v := 48) hx hb d_Writer_putPointForm_20 (by decide) ?_
    refine lv_aload_n hx hb d_Writer_putPointForm_22 rfl (lv_at hl 0 rfl) ?_
    refine va_get (D := (dC, dI)) (ci := 6) (v := .ref h_this_exact) (C := R_Writer) (T := F_Writer) (N := 8) hx hb ht i_Writer hown hK hP 0 rfl rfl 1 (by decide) (ht _ q_376) (fun _ h9 => h9) rfl d_Writer_putPointForm_23 ?_
    refine lv_iload_n hx hb d_Writer_putPointForm_26 rfl (lv_at hl 2 rfl) ?_
    obtain ⟨r4, hf, h⟩ := bi1_x h
    refine clVi (D := (dC, dI)) (n := 1) (As := [.int y2]) ⟨hx, hb, hml, hown, ht⟩ (c_Decimal_digit l dC dI X h_this_exact h_this_exact_row c_this_exact_row H.size v_exact_first v_exact_last a_exact_row y2 r4 hf) (gV q_377 q_368 q_369 q_113 q_370) (by decide +kernel) ⟨rfl, rfl, Nat.le_of_ble_eq_true rfl, Nat.le_of_ble_eq_true rfl⟩ hK hP hD hS hA hX [1, 3] [0, 2, 4] [0] rfl (wr := [(h_this, .inr (6, [.ref h_this_page, .ref h_this_exact, .ref g_this_digits, .int v_count, .int v_letter, .int v_flags, .int v_width, .int v_precision])), (h_this_page, .inr (5, [.ref h_this_page_row, .int v_page_length])), (h_this_page_row, .inl (c_this_page_row, 420, .inl a_page_row))]) rfl (by decide) (by decide) (by decide) rfl (va_recv hK hP (ci := 3) (q0 := 1) rfl rfl) rfl hl.1 rfl (lv_room (Nat.le_of_ble_eq_true rfl)) d_Writer_putPointForm_27 ⟨Nat.zero_le _, Nat.zero_le _⟩ (fun r9 u9 H locs h9 hP hD hS => ?_)
    cases h9
    have hP : va_P (dC, dI) classes (WS_Writer_putPointForm g_this_digits h_this h_this_exact h_this_page h_this_exact_row h_this_page_row c_this_exact_row c_this_page_row v_count v_letter v_flags v_width v_precision v_exact_first v_exact_last v_page_length a_exact_row a_page_row) H := hP.sub [0, 3, 1, 4, 2] rfl
    have hD : va_D A (WS_Writer_putPointForm g_this_digits h_this h_this_exact h_this_page h_this_exact_row h_this_page_row c_this_exact_row c_this_page_row v_count v_letter v_flags v_width v_precision v_exact_first v_exact_last v_page_length a_exact_row a_page_row) := hD.sub [0, 3, 1, 4, 2] (by decide) rfl
    refine lv_iadd hx hb d_Writer_putPointForm_30 ?_
    obtain ⟨v5, a6, hf, h⟩ := bi2_x h
    refine clVv (D := (dC, dI)) (n := 1) (As := [.int ((48 : Int32) + r4)]) ⟨hx, hb, hml, hown, ht⟩ (c_Page_put l dC dI X h_this_page h_this_page_row c_this_page_row H.size v_page_length a_page_row ((48 : Int32) + r4) (v5, a6) hf) (gV q_242 q_243 q_244 q_245 q_246) (by decide +kernel) ⟨rfl, rfl, Nat.le_of_ble_eq_true rfl, Nat.le_of_ble_eq_true rfl⟩ hK hP hD hS hA hX [2, 4] [0, 1, 3] [1] rfl (wr := [(h_this, .inr (6, [.ref h_this_page, .ref h_this_exact, .ref g_this_digits, .int v_count, .int v_letter, .int v_flags, .int v_width, .int v_precision])), (h_this_exact, .inr (3, [.ref h_this_exact_row, .int v_exact_first, .int v_exact_last])), (h_this_exact_row, .inl (c_this_exact_row, 208, .inl a_exact_row))]) rfl (by decide) (by decide) (by decide) rfl (va_recv hK hP (ci := 5) (q0 := 2) rfl rfl) rfl hl.1 rfl (lv_room (Nat.le_of_ble_eq_true rfl)) d_Writer_putPointForm_31 ⟨Nat.zero_le _, Nat.zero_le _⟩ (fun u9 H locs h9 hP hD hS => ?_)
    cases h9
    have hP : va_P (dC, dI) classes (WS_Writer_putPointForm g_this_digits h_this h_this_exact h_this_page h_this_exact_row h_this_page_row c_this_exact_row c_this_page_row v_count v_letter v_flags v_width v_precision v_exact_first v_exact_last v5 a_exact_row a6) H := hP.sub [0, 1, 3, 2, 4] rfl
    have hD : va_D A (WS_Writer_putPointForm g_this_digits h_this h_this_exact h_this_page h_this_exact_row h_this_page_row c_this_exact_row c_this_page_row v_count v_letter v_flags v_width v_precision v_exact_first v_exact_last v5 a_exact_row a6) := hD.sub [0, 1, 3, 2, 4] (by decide) rfl
    obtain ⟨x7, e_x7⟩ : ∃ y : Int32, y = y2 + (-1 : Int32) := ⟨_, rfl⟩
    refine lv_iinc (v := x7) (lv' := [(2, .int x7), (0, .ref h_this), (1, .int y1)]) hx hb d_Writer_putPointForm_34 hl (k := 2) rfl (by rw [e_x7]; rfl) (by decide) rfl (fun ls hl => ?_)
    have h := bd_g e_x7 h
    refine lv_goto (tgt := 12) hx hb d_Writer_putPointForm_37 (by decide) ?_
    exact hk12 v_flags v_exact_first v5 a_exact_row a6 y1 x7 H locs ls hP hD hS (lv_sub hl [1, 2, 0] rfl) h
set_option maxHeartbeats 4000000 in
set_option maxRecDepth 100000 in
theorem s_Writer_putPointForm_12 {p : Program} {l : Launch} {e : Env} {s : State} {m : MethodId} {args : Array Value} {below : List Frame} {meth : Method} {c : Code} {dC : Nat → ClassId} {dI : Nat → Nat → Nat} {A : Nat → Prop} {X : SXT} {g_this_digits : Nat} {h_this : Nat} {h_this_exact : Nat} {h_this_page : Nat} {h_this_exact_row : Nat} {h_this_page_row : Nat} {c_this_exact_row : ClassId} {c_this_page_row : ClassId} {v_count : Int32} {v_letter : Int32} {v_width : Int32} {v_precision : Int32} {v_exact_last : Int32} {res : Int32 × (Nat → Int32)}  (cx : cxx p s m args meth c b_Writer_putPointForm 3 none R_Writer) (hK : va_K (dC, dI) classes [(c_this_exact_row, .int), (c_this_page_row, .byte)] s) (hA : ∀ q, s.heap.size ≤ q → A q) (hX : SX X A s s.heap)  : ∀ n : Nat, ∀ (v_flags : Int32) (v_exact_first : Int32) (v_page_length : Int32) (a_exact_row : (Nat → Int32)) (a_page_row : (Nat → Int32)) (y1 : Int32) (y2 : Int32) (H : Heap) (locs : List Loc) (ls : Array Slot), va_P (dC, dI) classes (WS_Writer_putPointForm g_this_digits h_this h_this_exact h_this_page h_this_exact_row h_this_page_row c_this_exact_row c_this_page_row v_count v_letter v_flags v_width v_precision v_exact_first v_exact_last v_page_length a_exact_row a_page_row) H → va_D A (WS_Writer_putPointForm g_this_digits h_this h_this_exact h_this_page h_this_exact_row h_this_page_row c_this_exact_row c_this_page_row v_count v_letter v_flags v_width v_precision v_exact_first v_exact_last v_page_length a_exact_row a_page_row) → va_S A s.heap H locs → lv_has ls 3 [(0, .ref h_this), (1, .int y1), (2, .int y2)] → f_Writer_putPointForm_12 n v_flags v_exact_first v_page_length a_exact_row a_page_row y1 y2 = some res → W p l e ({ frames := 3, cells := 0, slots := 0, locals := 66 }) s m args below meth c H locs 0 0 (MQ below (va_Qv (fun (u : Int32 × (Nat → Int32)) => some u = some res) (gB (dC, dI) [(c_this_exact_row, .int), (c_this_page_row, .byte)] A (fun (u : Int32 × (Nat → Int32)) => (WS_Writer_putPointForm g_this_digits h_this h_this_exact h_this_page h_this_exact_row h_this_page_row c_this_exact_row c_this_page_row v_count v_letter v_flags v_width v_precision v_exact_first v_exact_last u.1 a_exact_row u.2))) A) args s 0 0 A) (F0 m 12 ls []) := by
  intro n
  induction n with
  | zero =>
    intro v_flags v_exact_first v_page_length a_exact_row a_page_row y1 y2 H locs ls hP hD hS hl h
    have h9 : (none : Option (Int32 × (Nat → Int32))) = some res := h
    cases h9
  | succ n ih =>
    intro v_flags v_exact_first v_page_length a_exact_row a_page_row y1 y2 H locs ls hP hD hS hl h
    exact s_Writer_putPointForm_12b cx hK hA hX ih v_flags v_exact_first v_page_length a_exact_row a_page_row y1 y2 H locs ls hP hD hS hl h
set_option maxHeartbeats 4000000 in
set_option maxRecDepth 100000 in
theorem s_Writer_putPointForm_e {p : Program} {l : Launch} {e : Env} {s : State} {m : MethodId} {args : Array Value} {below : List Frame} {meth : Method} {c : Code} {dC : Nat → ClassId} {dI : Nat → Nat → Nat} {A : Nat → Prop} {X : SXT} {g_this_digits : Nat} {h_this : Nat} {h_this_exact : Nat} {h_this_page : Nat} {h_this_exact_row : Nat} {h_this_page_row : Nat} {c_this_exact_row : ClassId} {c_this_page_row : ClassId} {v_count : Int32} {v_letter : Int32} {v_width : Int32} {v_precision : Int32} {v_exact_last : Int32} {res : Int32 × (Nat → Int32)} (cx : cxx p s m args meth c b_Writer_putPointForm 3 none R_Writer) (hK : va_K (dC, dI) classes [(c_this_exact_row, .int), (c_this_page_row, .byte)] s) (hA : ∀ q, s.heap.size ≤ q → A q) (hX : SX X A s s.heap) : ∀ (v_flags : Int32) (v_exact_first : Int32) (v_page_length : Int32) (a_exact_row : (Nat → Int32)) (a_page_row : (Nat → Int32)) (p1 : Int32) (H : Heap) (locs : List Loc) (ls : Array Slot), va_P (dC, dI) classes (WS_Writer_putPointForm g_this_digits h_this h_this_exact h_this_page h_this_exact_row h_this_page_row c_this_exact_row c_this_page_row v_count v_letter v_flags v_width v_precision v_exact_first v_exact_last v_page_length a_exact_row a_page_row) H → va_D A (WS_Writer_putPointForm g_this_digits h_this h_this_exact h_this_page h_this_exact_row h_this_page_row c_this_exact_row c_this_page_row v_count v_letter v_flags v_width v_precision v_exact_first v_exact_last v_page_length a_exact_row a_page_row) → va_S A s.heap H locs → lv_has ls 3 [(0, .ref h_this), (1, .int p1)] → f_Writer_putPointForm v_flags v_exact_first v_page_length a_exact_row a_page_row p1 = some res → W p l e ({ frames := 3, cells := 0, slots := 0, locals := 66 }) s m args below meth c H locs 0 0 (MQ below (va_Qv (fun (u : Int32 × (Nat → Int32)) => some u = some res) (gB (dC, dI) [(c_this_exact_row, .int), (c_this_page_row, .byte)] A (fun (u : Int32 × (Nat → Int32)) => (WS_Writer_putPointForm g_this_digits h_this h_this_exact h_this_page h_this_exact_row h_this_page_row c_this_exact_row c_this_page_row v_count v_letter v_flags v_width v_precision v_exact_first v_exact_last u.1 a_exact_row u.2))) A) args s 0 0 A) (F0 m 0 ls []) := by
  intro v_flags v_exact_first v_page_length a_exact_row a_page_row p1 H locs ls hP hD hS hl h
  obtain ⟨hx, hb, hr, hml, hown, ht, hlk⟩ := id cx
  refine lv_iconst (v := 0) hx hb d_Writer_putPointForm_0 (by decide) ?_
  refine lv_aload_n hx hb d_Writer_putPointForm_1 rfl (lv_at hl 0 rfl) ?_
  refine va_get (D := (dC, dI)) (ci := 6) (v := .ref h_this_exact) (C := R_Writer) (T := F_Writer) (N := 8) hx hb ht i_Writer hown hK hP 0 rfl rfl 1 (by decide) (ht _ q_376) (fun _ h9 => h9) rfl d_Writer_putPointForm_2 ?_
  obtain ⟨r8, hf, h⟩ := bi1_x h
  refine clVi (D := (dC, dI)) (n := 0) (As := []) ⟨hx, hb, hml, hown, ht⟩ (c_Decimal_topPlace l dC dI X h_this_exact h_this_exact_row c_this_exact_row H.size v_exact_first v_exact_last a_exact_row r8 hf) (gV q_382 q_383 q_384 q_113 q_385) (by decide +kernel) ⟨rfl, rfl, Nat.le_of_ble_eq_true rfl, Nat.le_of_ble_eq_true rfl⟩ hK hP hD hS hA hX [1, 3] [0, 2, 4] [0] rfl (wr := [(h_this, .inr (6, [.ref h_this_page, .ref h_this_exact, .ref g_this_digits, .int v_count, .int v_letter, .int v_flags, .int v_width, .int v_precision])), (h_this_page, .inr (5, [.ref h_this_page_row, .int v_page_length])), (h_this_page_row, .inl (c_this_page_row, 420, .inl a_page_row))]) rfl (by decide) (by decide) (by decide) rfl (va_recv hK hP (ci := 3) (q0 := 1) rfl rfl) rfl hl.1 rfl (lv_room (Nat.le_of_ble_eq_true rfl)) d_Writer_putPointForm_5 ⟨Nat.zero_le _, Nat.zero_le _⟩ (fun r9 u9 H locs h9 hP hD hS => ?_)
  cases h9
  have hP : va_P (dC, dI) classes (WS_Writer_putPointForm g_this_digits h_this h_this_exact h_this_page h_this_exact_row h_this_page_row c_this_exact_row c_this_page_row v_count v_letter v_flags v_width v_precision v_exact_first v_exact_last v_page_length a_exact_row a_page_row) H := hP.sub [0, 3, 1, 4, 2] rfl
  have hD : va_D A (WS_Writer_putPointForm g_this_digits h_this h_this_exact h_this_page h_this_exact_row h_this_page_row c_this_exact_row c_this_page_row v_count v_letter v_flags v_width v_precision v_exact_first v_exact_last v_page_length a_exact_row a_page_row) := hD.sub [0, 3, 1, 4, 2] (by decide) rfl
  refine va_mmax hx hb (hml.trans hl.1.symm) hown (ht _ q_326) (ht _ q_101) (ht _ q_40) (ht _ q_102) (Nat.le_of_ble_eq_true rfl) (Nat.le_of_ble_eq_true rfl) (Nat.zero_le _) (Nat.zero_le _) d_Writer_putPointForm_8 ?_
  refine W.eq (g2 := F0 m 11 ls (.int (imx (0 : Int32) r8) :: [])) rfl ?_
  refine lv_topi (fun x9 e_x9 => ?_)
  have h := bd_g e_x9 h
  refine lv_istore_n (lv' := [(2, .int x9), (0, .ref h_this), (1, .int p1)]) hx hb d_Writer_putPointForm_11 rfl hl (by decide) rfl (fun ls hl => ?_)
  exact s_Writer_putPointForm_12 cx hK hA hX fu v_flags v_exact_first v_page_length a_exact_row a_page_row p1 x9 H locs ls hP hD hS (lv_sub hl [1, 2, 0] rfl) h
set_option maxHeartbeats 4000000 in
set_option maxRecDepth 100000 in
theorem c_Writer_putPointForm (l : Launch) (dC : Nat → ClassId) (dI : Nat → Nat → Nat) (X : SXT) (g_this_digits : Nat) (h_this : Nat) (h_this_exact : Nat) (h_this_page : Nat) (h_this_exact_row : Nat) (h_this_page_row : Nat) (c_this_exact_row : ClassId) (c_this_page_row : ClassId) (sz : Nat) (v_count : Int32) (v_letter : Int32) (v_flags : Int32) (v_width : Int32) (v_precision : Int32) (v_exact_first : Int32) (v_exact_last : Int32) (v_page_length : Int32) (a_exact_row : (Nat → Int32)) (a_page_row : (Nat → Int32)) (p1 : Int32) (res : Int32 × (Nat → Int32)) (hf : f_Writer_putPointForm v_flags v_exact_first v_page_length a_exact_row a_page_row p1 = some res) : Met l y_Writer_putPointForm (.code y_Writer_putPointForm b_Writer_putPointForm 3 none :: w0) ({ frames := 3, cells := 0, slots := 0, locals := 66 }) (va_Pc [.ref h_this, .int p1] (gP (dC, dI) (WS_Writer_putPointForm g_this_digits h_this h_this_exact h_this_page h_this_exact_row h_this_page_row c_this_exact_row c_this_page_row v_count v_letter v_flags v_width v_precision v_exact_first v_exact_last v_page_length a_exact_row a_page_row) [(c_this_exact_row, .int), (c_this_page_row, .byte)] sz X)) (va_Qv (fun (u : Int32 × (Nat → Int32)) => some u = some res) (gB (dC, dI) [(c_this_exact_row, .int), (c_this_page_row, .byte)] (va_A (WS_Writer_putPointForm g_this_digits h_this h_this_exact h_this_page h_this_exact_row h_this_page_row c_this_exact_row c_this_page_row v_count v_letter v_flags v_width v_precision v_exact_first v_exact_last v_page_length a_exact_row a_page_row) sz) (fun (u : Int32 × (Nat → Int32)) => (WS_Writer_putPointForm g_this_digits h_this h_this_exact h_this_page h_this_exact_row h_this_page_row c_this_exact_row c_this_page_row v_count v_letter v_flags v_width v_precision v_exact_first v_exact_last u.1 a_exact_row u.2))) (va_A (WS_Writer_putPointForm g_this_digits h_this h_this_exact h_this_page h_this_exact_row h_this_page_row c_this_exact_row c_this_page_row v_count v_letter v_flags v_width v_precision v_exact_first v_exact_last v_page_length a_exact_row a_page_row) sz)) 0 0 (va_A (WS_Writer_putPointForm g_this_digits h_this h_this_exact h_this_page h_this_exact_row h_this_page_row c_this_exact_row c_this_page_row v_count v_letter v_flags v_width v_precision v_exact_first v_exact_last v_page_length a_exact_row a_page_row) sz) := by
  refine Met.ofW (cc := b_Writer_putPointForm) (maxL := 3) (ret := none) (by decide) rfl ?_
  intro p e s m args below meth c s₁ B hml hv
  obtain ⟨rfl, hsz, hP, hK, hD0, hX⟩ := hv
  subst hsz
  have cx : cxx p s m ([.ref h_this, .int p1] : List Value).toArray meth c b_Writer_putPointForm 3 none R_Writer := ⟨B.exec, B.bytes, B.returns, hml, findClass_of_methodNamed B.named, fun w9 hw => atoms_spec (ws := .code y_Writer_putPointForm b_Writer_putPointForm 3 none :: w0) B.pre w9 (List.mem_cons_of_mem _ hw), B.notSynchronized⟩
  have hD := hD0.self (sz := s.heap.size)
  generalize hAe : va_A (WS_Writer_putPointForm g_this_digits h_this h_this_exact h_this_page h_this_exact_row h_this_page_row c_this_exact_row c_this_page_row v_count v_letter v_flags v_width v_precision v_exact_first v_exact_last v_page_length a_exact_row a_page_row) s.heap.size = A at hD hX ⊢
  have hA : ∀ q : Nat, s.heap.size ≤ q → A q := fun q h => by rw [← hAe]; exact Or.inr h
  have hS : va_S A s.heap s.heap [] := va_S.rf
  have hl := lv_entry ([.ref h_this, .int p1]) (n := 3) (Nat.le_of_ble_eq_true rfl)
  rw [lg_entry_eq]
  generalize (lg_sl ([.ref h_this, .int p1]) ++ List.replicate (3 - (lg_sl ([.ref h_this, .int p1])).length) Slot.unset).toArray = ls at hl ⊢
  have hl : lv_has ls 3 [(0, .ref h_this), (1, .int p1)] := hl
  exact s_Writer_putPointForm_e cx hK hA hX v_flags v_exact_first v_page_length a_exact_row a_page_row p1 s.heap [] ls hP hD hS hl hf

theorem d_Tape_init_0 : decode b_Tape_init 0 = .ok (.aload_n 0, 1) := by decide +kernel
theorem d_Tape_init_1 : decode b_Tape_init 1 = .ok (.invokespecial 1, 3) := by decide +kernel
theorem d_Tape_init_4 : decode b_Tape_init 4 = .ok (.aload_n 0, 1) := by decide +kernel
theorem d_Tape_init_5 : decode b_Tape_init 5 = .ok (.sipush 1200, 3) := by decide +kernel
theorem d_Tape_init_8 : decode b_Tape_init 8 = .ok (.newarray .byte, 2) := by decide +kernel
theorem d_Tape_init_10 : decode b_Tape_init 10 = .ok (.putfield 9, 3) := by decide +kernel
theorem d_Tape_init_13 : decode b_Tape_init 13 = .ok (.aload_n 0, 1) := by decide +kernel
theorem d_Tape_init_14 : decode b_Tape_init 14 = .ok (.iconst 0, 1) := by decide +kernel
theorem d_Tape_init_15 : decode b_Tape_init 15 = .ok (.putfield 13, 3) := by decide +kernel
theorem d_Tape_init_18 : decode b_Tape_init 18 = .ok (.return_, 1) := by decide +kernel
theorem d_Numeral_init_0 : decode b_Numeral_init 0 = .ok (.aload_n 0, 1) := by decide +kernel
theorem d_Numeral_init_1 : decode b_Numeral_init 1 = .ok (.invokespecial 1, 3) := by decide +kernel
theorem d_Numeral_init_4 : decode b_Numeral_init 4 = .ok (.aload_n 0, 1) := by decide +kernel
theorem d_Numeral_init_5 : decode b_Numeral_init 5 = .ok (.aload_n 1, 1) := by decide +kernel
theorem d_Numeral_init_6 : decode b_Numeral_init 6 = .ok (.putfield 7, 3) := by decide +kernel
theorem d_Numeral_init_9 : decode b_Numeral_init 9 = .ok (.return_, 1) := by decide +kernel
theorem d_Decimal_init_0 : decode b_Decimal_init 0 = .ok (.aload_n 0, 1) := by decide +kernel
theorem d_Decimal_init_1 : decode b_Decimal_init 1 = .ok (.invokespecial 3, 3) := by decide +kernel
theorem d_Decimal_init_4 : decode b_Decimal_init 4 = .ok (.aload_n 0, 1) := by decide +kernel
theorem d_Decimal_init_5 : decode b_Decimal_init 5 = .ok (.sipush 208, 3) := by decide +kernel
theorem d_Decimal_init_8 : decode b_Decimal_init 8 = .ok (.newarray .int, 2) := by decide +kernel
theorem d_Decimal_init_10 : decode b_Decimal_init 10 = .ok (.putfield 9, 3) := by decide +kernel
theorem d_Decimal_init_13 : decode b_Decimal_init 13 = .ok (.aload_n 0, 1) := by decide +kernel
theorem d_Decimal_init_14 : decode b_Decimal_init 14 = .ok (.bipush 35, 2) := by decide +kernel
theorem d_Decimal_init_16 : decode b_Decimal_init 16 = .ok (.putfield 13, 3) := by decide +kernel
theorem d_Decimal_init_19 : decode b_Decimal_init 19 = .ok (.aload_n 0, 1) := by decide +kernel
theorem d_Decimal_init_20 : decode b_Decimal_init 20 = .ok (.bipush 35, 2) := by decide +kernel
theorem d_Decimal_init_22 : decode b_Decimal_init 22 = .ok (.putfield 17, 3) := by decide +kernel
theorem d_Decimal_init_25 : decode b_Decimal_init 25 = .ok (.return_, 1) := by decide +kernel
theorem d_Size_init_0 : decode b_Size_init 0 = .ok (.aload_n 0, 1) := by decide +kernel
theorem d_Size_init_1 : decode b_Size_init 1 = .ok (.invokespecial 1, 3) := by decide +kernel
theorem d_Size_init_4 : decode b_Size_init 4 = .ok (.aload_n 0, 1) := by decide +kernel
theorem d_Size_init_5 : decode b_Size_init 5 = .ok (.lconst 0, 1) := by decide +kernel
theorem d_Size_init_6 : decode b_Size_init 6 = .ok (.putfield 7, 3) := by decide +kernel
theorem d_Size_init_9 : decode b_Size_init 9 = .ok (.aload_n 0, 1) := by decide +kernel
theorem d_Size_init_10 : decode b_Size_init 10 = .ok (.iconst 0, 1) := by decide +kernel
theorem d_Size_init_11 : decode b_Size_init 11 = .ok (.putfield 13, 3) := by decide +kernel
theorem d_Size_init_14 : decode b_Size_init 14 = .ok (.aload_n 0, 1) := by decide +kernel
theorem d_Size_init_15 : decode b_Size_init 15 = .ok (.iconst 0, 1) := by decide +kernel
theorem d_Size_init_16 : decode b_Size_init 16 = .ok (.putfield 17, 3) := by decide +kernel
theorem d_Size_init_19 : decode b_Size_init 19 = .ok (.return_, 1) := by decide +kernel
theorem d_Page_init_0 : decode b_Page_init 0 = .ok (.aload_n 0, 1) := by decide +kernel
theorem d_Page_init_1 : decode b_Page_init 1 = .ok (.invokespecial 3, 3) := by decide +kernel
theorem d_Page_init_4 : decode b_Page_init 4 = .ok (.aload_n 0, 1) := by decide +kernel
theorem d_Page_init_5 : decode b_Page_init 5 = .ok (.sipush 420, 3) := by decide +kernel
theorem d_Page_init_8 : decode b_Page_init 8 = .ok (.newarray .byte, 2) := by decide +kernel
theorem d_Page_init_10 : decode b_Page_init 10 = .ok (.putfield 11, 3) := by decide +kernel
theorem d_Page_init_13 : decode b_Page_init 13 = .ok (.aload_n 0, 1) := by decide +kernel
theorem d_Page_init_14 : decode b_Page_init 14 = .ok (.iconst 0, 1) := by decide +kernel
theorem d_Page_init_15 : decode b_Page_init 15 = .ok (.putfield 15, 3) := by decide +kernel
theorem d_Page_init_18 : decode b_Page_init 18 = .ok (.return_, 1) := by decide +kernel
theorem d_Writer_init_0 : decode b_Writer_init 0 = .ok (.aload_n 0, 1) := by decide +kernel
theorem d_Writer_init_1 : decode b_Writer_init 1 = .ok (.invokespecial 1, 3) := by decide +kernel
theorem d_Writer_init_4 : decode b_Writer_init 4 = .ok (.aload_n 0, 1) := by decide +kernel
theorem d_Writer_init_5 : decode b_Writer_init 5 = .ok (.bipush 22, 2) := by decide +kernel
theorem d_Writer_init_7 : decode b_Writer_init 7 = .ok (.newarray .byte, 2) := by decide +kernel
theorem d_Writer_init_9 : decode b_Writer_init 9 = .ok (.putfield 9, 3) := by decide +kernel
theorem d_Writer_init_12 : decode b_Writer_init 12 = .ok (.aload_n 0, 1) := by decide +kernel
theorem d_Writer_init_13 : decode b_Writer_init 13 = .ok (.iconst 0, 1) := by decide +kernel
theorem d_Writer_init_14 : decode b_Writer_init 14 = .ok (.putfield 13, 3) := by decide +kernel
theorem d_Writer_init_17 : decode b_Writer_init 17 = .ok (.aload_n 0, 1) := by decide +kernel
theorem d_Writer_init_18 : decode b_Writer_init 18 = .ok (.bipush 100, 2) := by decide +kernel
theorem d_Writer_init_20 : decode b_Writer_init 20 = .ok (.putfield 17, 3) := by decide +kernel
theorem d_Writer_init_23 : decode b_Writer_init 23 = .ok (.aload_n 0, 1) := by decide +kernel
theorem d_Writer_init_24 : decode b_Writer_init 24 = .ok (.iconst 0, 1) := by decide +kernel
theorem d_Writer_init_25 : decode b_Writer_init 25 = .ok (.putfield 21, 3) := by decide +kernel
theorem d_Writer_init_28 : decode b_Writer_init 28 = .ok (.aload_n 0, 1) := by decide +kernel
theorem d_Writer_init_29 : decode b_Writer_init 29 = .ok (.iconst 0, 1) := by decide +kernel
theorem d_Writer_init_30 : decode b_Writer_init 30 = .ok (.putfield 24, 3) := by decide +kernel
theorem d_Writer_init_33 : decode b_Writer_init 33 = .ok (.aload_n 0, 1) := by decide +kernel
theorem d_Writer_init_34 : decode b_Writer_init 34 = .ok (.iconst (-1), 1) := by decide +kernel
theorem d_Writer_init_35 : decode b_Writer_init 35 = .ok (.putfield 27, 3) := by decide +kernel
theorem d_Writer_init_38 : decode b_Writer_init 38 = .ok (.aload_n 0, 1) := by decide +kernel
theorem d_Writer_init_39 : decode b_Writer_init 39 = .ok (.aload_n 1, 1) := by decide +kernel
theorem d_Writer_init_40 : decode b_Writer_init 40 = .ok (.putfield 30, 3) := by decide +kernel
theorem d_Writer_init_43 : decode b_Writer_init 43 = .ok (.aload_n 0, 1) := by decide +kernel
theorem d_Writer_init_44 : decode b_Writer_init 44 = .ok (.aload_n 2, 1) := by decide +kernel
theorem d_Writer_init_45 : decode b_Writer_init 45 = .ok (.putfield 34, 3) := by decide +kernel
theorem d_Writer_init_48 : decode b_Writer_init 48 = .ok (.return_, 1) := by decide +kernel
theorem d_N_init_0 : decode b_N_init 0 = .ok (.aload_n 0, 1) := by decide +kernel
theorem d_N_init_1 : decode b_N_init 1 = .ok (.invokespecial 1, 3) := by decide +kernel
theorem d_N_init_4 : decode b_N_init 4 = .ok (.aload_n 0, 1) := by decide +kernel
theorem d_N_init_5 : decode b_N_init 5 = .ok (.new 7, 3) := by decide +kernel
theorem d_N_init_8 : decode b_N_init 8 = .ok (.dup, 1) := by decide +kernel
theorem d_N_init_9 : decode b_N_init 9 = .ok (.invokespecial 9, 3) := by decide +kernel
theorem d_N_init_12 : decode b_N_init 12 = .ok (.putfield 10, 3) := by decide +kernel
theorem d_N_init_15 : decode b_N_init 15 = .ok (.aload_n 0, 1) := by decide +kernel
theorem d_N_init_16 : decode b_N_init 16 = .ok (.new 16, 3) := by decide +kernel
theorem d_N_init_19 : decode b_N_init 19 = .ok (.dup, 1) := by decide +kernel
theorem d_N_init_20 : decode b_N_init 20 = .ok (.aload_n 0, 1) := by decide +kernel
theorem d_N_init_21 : decode b_N_init 21 = .ok (.getfield 10, 3) := by decide +kernel
theorem d_N_init_24 : decode b_N_init 24 = .ok (.invokespecial 18, 3) := by decide +kernel
theorem d_N_init_27 : decode b_N_init 27 = .ok (.putfield 21, 3) := by decide +kernel
theorem d_N_init_30 : decode b_N_init 30 = .ok (.aload_n 0, 1) := by decide +kernel
theorem d_N_init_31 : decode b_N_init 31 = .ok (.new 25, 3) := by decide +kernel
theorem d_N_init_34 : decode b_N_init 34 = .ok (.dup, 1) := by decide +kernel
theorem d_N_init_35 : decode b_N_init 35 = .ok (.invokespecial 27, 3) := by decide +kernel
theorem d_N_init_38 : decode b_N_init 38 = .ok (.putfield 28, 3) := by decide +kernel
theorem d_N_init_41 : decode b_N_init 41 = .ok (.aload_n 0, 1) := by decide +kernel
theorem d_N_init_42 : decode b_N_init 42 = .ok (.new 25, 3) := by decide +kernel
theorem d_N_init_45 : decode b_N_init 45 = .ok (.dup, 1) := by decide +kernel
theorem d_N_init_46 : decode b_N_init 46 = .ok (.invokespecial 27, 3) := by decide +kernel
theorem d_N_init_49 : decode b_N_init 49 = .ok (.putfield 32, 3) := by decide +kernel
theorem d_N_init_52 : decode b_N_init 52 = .ok (.aload_n 0, 1) := by decide +kernel
theorem d_N_init_53 : decode b_N_init 53 = .ok (.new 35, 3) := by decide +kernel
theorem d_N_init_56 : decode b_N_init 56 = .ok (.dup, 1) := by decide +kernel
theorem d_N_init_57 : decode b_N_init 57 = .ok (.invokespecial 37, 3) := by decide +kernel
theorem d_N_init_60 : decode b_N_init 60 = .ok (.putfield 38, 3) := by decide +kernel
theorem d_N_init_63 : decode b_N_init 63 = .ok (.aload_n 0, 1) := by decide +kernel
theorem d_N_init_64 : decode b_N_init 64 = .ok (.new 35, 3) := by decide +kernel
theorem d_N_init_67 : decode b_N_init 67 = .ok (.dup, 1) := by decide +kernel
theorem d_N_init_68 : decode b_N_init 68 = .ok (.invokespecial 37, 3) := by decide +kernel
theorem d_N_init_71 : decode b_N_init 71 = .ok (.putfield 42, 3) := by decide +kernel
theorem d_N_init_74 : decode b_N_init 74 = .ok (.aload_n 0, 1) := by decide +kernel
theorem d_N_init_75 : decode b_N_init 75 = .ok (.new 45, 3) := by decide +kernel
theorem d_N_init_78 : decode b_N_init 78 = .ok (.dup, 1) := by decide +kernel
theorem d_N_init_79 : decode b_N_init 79 = .ok (.invokespecial 47, 3) := by decide +kernel
theorem d_N_init_82 : decode b_N_init 82 = .ok (.putfield 48, 3) := by decide +kernel
theorem d_N_init_85 : decode b_N_init 85 = .ok (.aload_n 0, 1) := by decide +kernel
theorem d_N_init_86 : decode b_N_init 86 = .ok (.new 52, 3) := by decide +kernel
theorem d_N_init_89 : decode b_N_init 89 = .ok (.dup, 1) := by decide +kernel
theorem d_N_init_90 : decode b_N_init 90 = .ok (.aload_n 0, 1) := by decide +kernel
theorem d_N_init_91 : decode b_N_init 91 = .ok (.getfield 48, 3) := by decide +kernel
theorem d_N_init_94 : decode b_N_init 94 = .ok (.aload_n 0, 1) := by decide +kernel
theorem d_N_init_95 : decode b_N_init 95 = .ok (.getfield 32, 3) := by decide +kernel
theorem d_N_init_98 : decode b_N_init 98 = .ok (.invokespecial 54, 3) := by decide +kernel
theorem d_N_init_101 : decode b_N_init 101 = .ok (.putfield 57, 3) := by decide +kernel
theorem d_N_init_104 : decode b_N_init 104 = .ok (.aload_n 0, 1) := by decide +kernel
theorem d_N_init_105 : decode b_N_init 105 = .ok (.iconst 1, 1) := by decide +kernel
theorem d_N_init_106 : decode b_N_init 106 = .ok (.putfield 61, 3) := by decide +kernel
theorem d_N_init_109 : decode b_N_init 109 = .ok (.aload_n 0, 1) := by decide +kernel
theorem d_N_init_110 : decode b_N_init 110 = .ok (.lconst 0, 1) := by decide +kernel
theorem d_N_init_111 : decode b_N_init 111 = .ok (.putfield 65, 3) := by decide +kernel
theorem d_N_init_114 : decode b_N_init 114 = .ok (.aload_n 0, 1) := by decide +kernel
theorem d_N_init_115 : decode b_N_init 115 = .ok (.iconst 0, 1) := by decide +kernel
theorem d_N_init_116 : decode b_N_init 116 = .ok (.putfield 69, 3) := by decide +kernel
theorem d_N_init_119 : decode b_N_init 119 = .ok (.return_, 1) := by decide +kernel
theorem d_M_init_0 : decode b_M_init 0 = .ok (.aload_n 0, 1) := by decide +kernel
theorem d_M_init_1 : decode b_M_init 1 = .ok (.invokespecial 1, 3) := by decide +kernel
theorem d_M_init_4 : decode b_M_init 4 = .ok (.aload_n 0, 1) := by decide +kernel
theorem d_M_init_5 : decode b_M_init 5 = .ok (.sipush 1200, 3) := by decide +kernel
theorem d_M_init_8 : decode b_M_init 8 = .ok (.newarray .byte, 2) := by decide +kernel
theorem d_M_init_10 : decode b_M_init 10 = .ok (.putfield 7, 3) := by decide +kernel
theorem d_M_init_13 : decode b_M_init 13 = .ok (.aload_n 0, 1) := by decide +kernel
theorem d_M_init_14 : decode b_M_init 14 = .ok (.iconst 1, 1) := by decide +kernel
theorem d_M_init_15 : decode b_M_init 15 = .ok (.putfield 13, 3) := by decide +kernel
theorem d_M_init_18 : decode b_M_init 18 = .ok (.aload_n 0, 1) := by decide +kernel
theorem d_M_init_19 : decode b_M_init 19 = .ok (.sipush 400, 3) := by decide +kernel
theorem d_M_init_22 : decode b_M_init 22 = .ok (.newarray .int, 2) := by decide +kernel
theorem d_M_init_24 : decode b_M_init 24 = .ok (.putfield 17, 3) := by decide +kernel
theorem d_M_init_27 : decode b_M_init 27 = .ok (.aload_n 0, 1) := by decide +kernel
theorem d_M_init_28 : decode b_M_init 28 = .ok (.sipush 400, 3) := by decide +kernel
theorem d_M_init_31 : decode b_M_init 31 = .ok (.newarray .int, 2) := by decide +kernel
theorem d_M_init_33 : decode b_M_init 33 = .ok (.putfield 21, 3) := by decide +kernel
theorem d_M_init_36 : decode b_M_init 36 = .ok (.aload_n 0, 1) := by decide +kernel
theorem d_M_init_37 : decode b_M_init 37 = .ok (.sipush 1200, 3) := by decide +kernel
theorem d_M_init_40 : decode b_M_init 40 = .ok (.newarray .byte, 2) := by decide +kernel
theorem d_M_init_42 : decode b_M_init 42 = .ok (.putfield 24, 3) := by decide +kernel
theorem d_M_init_45 : decode b_M_init 45 = .ok (.aload_n 0, 1) := by decide +kernel
theorem d_M_init_46 : decode b_M_init 46 = .ok (.sipush 140, 3) := by decide +kernel
theorem d_M_init_49 : decode b_M_init 49 = .ok (.newarray .int, 2) := by decide +kernel
theorem d_M_init_51 : decode b_M_init 51 = .ok (.putfield 27, 3) := by decide +kernel
theorem d_M_init_54 : decode b_M_init 54 = .ok (.aload_n 0, 1) := by decide +kernel
theorem d_M_init_55 : decode b_M_init 55 = .ok (.sipush 1300, 3) := by decide +kernel
theorem d_M_init_58 : decode b_M_init 58 = .ok (.newarray .byte, 2) := by decide +kernel
theorem d_M_init_60 : decode b_M_init 60 = .ok (.putfield 30, 3) := by decide +kernel
theorem d_M_init_63 : decode b_M_init 63 = .ok (.aload_n 0, 1) := by decide +kernel
theorem d_M_init_64 : decode b_M_init 64 = .ok (.sipush 1300, 3) := by decide +kernel
theorem d_M_init_67 : decode b_M_init 67 = .ok (.newarray .byte, 2) := by decide +kernel
theorem d_M_init_69 : decode b_M_init 69 = .ok (.putfield 33, 3) := by decide +kernel
theorem d_M_init_72 : decode b_M_init 72 = .ok (.aload_n 0, 1) := by decide +kernel
theorem d_M_init_73 : decode b_M_init 73 = .ok (.sipush 700, 3) := by decide +kernel
theorem d_M_init_76 : decode b_M_init 76 = .ok (.newarray .byte, 2) := by decide +kernel
theorem d_M_init_78 : decode b_M_init 78 = .ok (.putfield 36, 3) := by decide +kernel
theorem d_M_init_81 : decode b_M_init 81 = .ok (.aload_n 0, 1) := by decide +kernel
theorem d_M_init_82 : decode b_M_init 82 = .ok (.sipush 700, 3) := by decide +kernel
theorem d_M_init_85 : decode b_M_init 85 = .ok (.newarray .byte, 2) := by decide +kernel
theorem d_M_init_87 : decode b_M_init 87 = .ok (.putfield 39, 3) := by decide +kernel
theorem d_M_init_90 : decode b_M_init 90 = .ok (.return_, 1) := by decide +kernel
def Z_Tape (h0 : Nat) (w : va_W) (ty : List (ClassId × FieldType)) : Prop := ∃ (q1 : Nat) (k1 : ClassId), w = [(h0, .inr (1, [.ref q1, .int 0])), (q1, .inl (k1, 1200, .inl (fun _ => 0)))] ∧ ty = [(k1, .byte)]
set_option maxHeartbeats 4000000 in
set_option maxRecDepth 100000 in
theorem k_Tape (l : Launch) (dC : Nat → ClassId) (dI : Nat → Nat → Nat) (X : SXT) (h0 : Nat) (sz : Nat) : Met l y_Tape_init (.code y_Tape_init b_Tape_init 1 none :: w0) ({ frames := 1, cells := 1, slots := 1200, locals := 12 }) (va_Pc [.ref h0] (gP (dC, dI) [(h0, .inr (1, [.null, .int 0]))] [] sz X)) (va_Qv (fun (_ : Unit) => True) (gZ (dC, dI) (Z_Tape h0) (va_A [(h0, .inr (1, [.null, .int 0]))] sz)) (va_A [(h0, .inr (1, [.null, .int 0]))] sz)) 1 1200 (va_A [(h0, .inr (1, [.null, .int 0]))] sz) := by
  refine Met.ofW (cc := b_Tape_init) (maxL := 1) (ret := none) (by decide) rfl ?_
  intro p e s m args below meth c s₁ B hml hv
  obtain ⟨rfl, hsz, hP, hK, hD0, hX⟩ := hv
  subst hsz
  have cx : cxx p s m ([.ref h0] : List Value).toArray meth c b_Tape_init 1 none R_Tape := ⟨B.exec, B.bytes, B.returns, hml, findClass_of_methodNamed B.named, fun w9 hw => atoms_spec (ws := .code y_Tape_init b_Tape_init 1 none :: w0) B.pre w9 (List.mem_cons_of_mem _ hw), B.notSynchronized⟩
  obtain ⟨hx, hb, hr, hml, hown, ht, hlk⟩ := id cx
  have hin : meth.name = "<init>" := (name_of_methodNamed B.named B.method).1
  have hD := hD0.self (sz := s.heap.size)
  generalize hAe : va_A [(h0, .inr (1, [.null, .int 0]))] s.heap.size = A at hD hX ⊢
  have hA : ∀ q : Nat, s.heap.size ≤ q → A q := fun q h => by rw [← hAe]; exact Or.inr h
  have hS : va_S A s.heap s.heap [] := va_S.rf
  have hl := lv_entry ([.ref h0]) (n := 1) (Nat.le_of_ble_eq_true rfl)
  rw [lg_entry_eq]
  generalize (lg_sl ([.ref h0]) ++ List.replicate (1 - (lg_sl ([.ref h0])).length) Slot.unset).toArray = ls at hl ⊢
  have hl : lv_has ls 1 [(0, .ref h0)] := hl
  obtain ⟨H, eH⟩ : ∃ H, H = s.heap := ⟨_, rfl⟩
  rw [← eH] at hP
  have hS : va_S A s.heap H [] := by rw [eH]; exact hS
  refine W.heq9 eH ?_
  refine lv_aload_n hx hb d_Tape_init_0 rfl (lv_at hl 0 rfl) ?_
  refine W.objInit hx hb hown (ht _ q_703) (ht _ q_704) (ht _ q_705) rfl (by rw [hml]; exact hl.1) rfl d_Tape_init_1 (Nat.le_of_ble_eq_true rfl) (Nat.le_of_ble_eq_true rfl) ?_
  refine W.eq (g2 := F0 m 4 ls []) rfl ?_
  refine lv_aload_n hx hb d_Tape_init_4 rfl (lv_at hl 0 rfl) ?_
  refine lv_sipush (v := 1200) hx hb d_Tape_init_5 (by decide) ?_
  refine va_newa (D := (dC, dI)) (atype := .byte) (a0 := (1200, .inl (fun _ => 0))) (N' := 1200) hx hb (ht _ q_706) (ty := .byte) rfl hK hP hD hS hA (fun _ => rfl) (by decide) (by decide) (by decide) (Nat.le_of_ble_eq_true rfl) (Nat.le_of_ble_eq_true rfl) d_Tape_init_8 (fun q1 k1 H hK hP hD hS => ?_)
  have hK : va_K (dC, dI) classes [(k1, .byte)] s := hK
  have hP : va_P (dC, dI) classes [(h0, .inr (1, [.null, .int 0])), (q1, .inl (k1, 1200, .inl (fun _ => 0)))] H := hP
  have hD : va_D A [(h0, .inr (1, [.null, .int 0])), (q1, .inl (k1, 1200, .inl (fun _ => 0)))] := hD
  refine va_putF (D := (dC, dI)) (ci := 1) (v := .ref q1) (ty := (.array .byte)) (C := R_Tape) (T := F_Tape) (N := 2) hx hb ht i_Tape t_Tape t_Tape_ok n_Tape hown hK hP hD hS 0 rfl rfl 0 (by decide) (ht _ q_1) (fun _ h9 => h9) rfl hin rfl (t_Tape_ok 0 (by decide)) rfl rfl (Nat.le_of_ble_eq_true rfl) d_Tape_init_10 (fun H locs hP hD hS => ?_)
  have hP : va_P (dC, dI) classes [(h0, .inr (1, [.ref q1, .int 0])), (q1, .inl (k1, 1200, .inl (fun _ => 0)))] H := hP
  have hD : va_D A [(h0, .inr (1, [.ref q1, .int 0])), (q1, .inl (k1, 1200, .inl (fun _ => 0)))] := hD
  refine lv_aload_n hx hb d_Tape_init_13 rfl (lv_at hl 0 rfl) ?_
  refine lv_iconst (v := 0) hx hb d_Tape_init_14 (by decide) ?_
  refine va_put (D := (dC, dI)) (ci := 1) (v := .int 0) (ty := .int) (C := R_Tape) (T := F_Tape) (N := 2) hx hb ht i_Tape t_Tape t_Tape_ok n_Tape hown hK hP hD hS 0 rfl rfl 1 (by decide) (ht _ q_0) (fun _ h9 => h9) rfl (t_Tape_ok 1 (by decide)) rfl rfl (Nat.le_of_ble_eq_true rfl) d_Tape_init_15 (fun H locs hP hD hS => ?_)
  have hP : va_P (dC, dI) classes [(h0, .inr (1, [.ref q1, .int 0])), (q1, .inl (k1, 1200, .inl (fun _ => 0)))] H := hP
  have hD : va_D A [(h0, .inr (1, [.ref q1, .int 0])), (q1, .inl (k1, 1200, .inl (fun _ => 0)))] := hD
  refine W.cs (cells' := 1) (slots' := 1200) rfl rfl ?_
  exact W.vret hx hb hr (fun t ht9 hW => ⟨⟨(), rfl, trivial, _, _, ⟨q1, k1, rfl, rfl⟩, by rw [ht9]; exact hP, va_K.moved hW.alike hK, hD⟩, hS.F ht9⟩) hS.2.2 d_Tape_init_18 hlk
def Z_Numeral (h0 : Nat) (g1 : Nat) (w : va_W) (ty : List (ClassId × FieldType)) : Prop := w = [(h0, .inr (2, [.ref g1, .int 0, .int 0, .int 0, .int 0, .int 0, .int 0, .int 0, .int 0, .int 0, .int 0, .long 0]))] ∧ ty = []
set_option maxHeartbeats 4000000 in
set_option maxRecDepth 100000 in
theorem k_Numeral (l : Launch) (dC : Nat → ClassId) (dI : Nat → Nat → Nat) (X : SXT) (h0 : Nat) (sz : Nat) (g1 : Nat) : Met l y_Numeral_init (.code y_Numeral_init b_Numeral_init 2 none :: w0) ({ frames := 1, cells := 0, slots := 0, locals := 12 }) (va_Pc [.ref h0, .ref g1] (gP (dC, dI) [(h0, .inr (2, [.null, .int 0, .int 0, .int 0, .int 0, .int 0, .int 0, .int 0, .int 0, .int 0, .int 0, .long 0]))] [] sz X)) (va_Qv (fun (_ : Unit) => True) (gZ (dC, dI) (Z_Numeral h0 g1) (va_A [(h0, .inr (2, [.null, .int 0, .int 0, .int 0, .int 0, .int 0, .int 0, .int 0, .int 0, .int 0, .int 0, .long 0]))] sz)) (va_A [(h0, .inr (2, [.null, .int 0, .int 0, .int 0, .int 0, .int 0, .int 0, .int 0, .int 0, .int 0, .int 0, .long 0]))] sz)) 0 0 (va_A [(h0, .inr (2, [.null, .int 0, .int 0, .int 0, .int 0, .int 0, .int 0, .int 0, .int 0, .int 0, .int 0, .long 0]))] sz) := by
  refine Met.ofW (cc := b_Numeral_init) (maxL := 2) (ret := none) (by decide) rfl ?_
  intro p e s m args below meth c s₁ B hml hv
  obtain ⟨rfl, hsz, hP, hK, hD0, hX⟩ := hv
  subst hsz
  have cx : cxx p s m ([.ref h0, .ref g1] : List Value).toArray meth c b_Numeral_init 2 none R_Numeral := ⟨B.exec, B.bytes, B.returns, hml, findClass_of_methodNamed B.named, fun w9 hw => atoms_spec (ws := .code y_Numeral_init b_Numeral_init 2 none :: w0) B.pre w9 (List.mem_cons_of_mem _ hw), B.notSynchronized⟩
  obtain ⟨hx, hb, hr, hml, hown, ht, hlk⟩ := id cx
  have hin : meth.name = "<init>" := (name_of_methodNamed B.named B.method).1
  have hD := hD0.self (sz := s.heap.size)
  generalize hAe : va_A [(h0, .inr (2, [.null, .int 0, .int 0, .int 0, .int 0, .int 0, .int 0, .int 0, .int 0, .int 0, .int 0, .long 0]))] s.heap.size = A at hD hX ⊢
  have hA : ∀ q : Nat, s.heap.size ≤ q → A q := fun q h => by rw [← hAe]; exact Or.inr h
  have hS : va_S A s.heap s.heap [] := va_S.rf
  have hl := lv_entry ([.ref h0, .ref g1]) (n := 2) (Nat.le_of_ble_eq_true rfl)
  rw [lg_entry_eq]
  generalize (lg_sl ([.ref h0, .ref g1]) ++ List.replicate (2 - (lg_sl ([.ref h0, .ref g1])).length) Slot.unset).toArray = ls at hl ⊢
  have hl : lv_has ls 2 [(0, .ref h0), (1, .ref g1)] := hl
  obtain ⟨H, eH⟩ : ∃ H, H = s.heap := ⟨_, rfl⟩
  rw [← eH] at hP
  have hS : va_S A s.heap H [] := by rw [eH]; exact hS
  refine W.heq9 eH ?_
  refine lv_aload_n hx hb d_Numeral_init_0 rfl (lv_at hl 0 rfl) ?_
  refine W.objInit hx hb hown (ht _ q_707) (ht _ q_704) (ht _ q_705) rfl (by rw [hml]; exact hl.1) rfl d_Numeral_init_1 (Nat.le_of_ble_eq_true rfl) (Nat.le_of_ble_eq_true rfl) ?_
  refine W.eq (g2 := F0 m 4 ls []) rfl ?_
  refine lv_aload_n hx hb d_Numeral_init_4 rfl (lv_at hl 0 rfl) ?_
  refine lv_aload_n hx hb d_Numeral_init_5 rfl (lv_at hl 1 rfl) ?_
  refine va_putF (D := (dC, dI)) (ci := 2) (v := .ref g1) (ty := (.object "NumeralTexts$Tape")) (C := R_Numeral) (T := F_Numeral) (N := 12) hx hb ht i_Numeral t_Numeral t_Numeral_ok n_Numeral hown hK hP hD hS 0 rfl rfl 0 (by decide) (ht _ q_17) (fun _ h9 => h9) rfl hin rfl (t_Numeral_ok 0 (by decide)) rfl rfl (Nat.le_of_ble_eq_true rfl) d_Numeral_init_6 (fun H locs hP hD hS => ?_)
  have hP : va_P (dC, dI) classes [(h0, .inr (2, [.ref g1, .int 0, .int 0, .int 0, .int 0, .int 0, .int 0, .int 0, .int 0, .int 0, .int 0, .long 0]))] H := hP
  have hD : va_D A [(h0, .inr (2, [.ref g1, .int 0, .int 0, .int 0, .int 0, .int 0, .int 0, .int 0, .int 0, .int 0, .int 0, .long 0]))] := hD
  refine W.cs (cells' := 0) (slots' := 0) rfl rfl ?_
  exact W.vret hx hb hr (fun t ht9 hW => ⟨⟨(), rfl, trivial, _, _, ⟨rfl, rfl⟩, by rw [ht9]; exact hP, va_K.moved hW.alike hK, hD⟩, hS.F ht9⟩) hS.2.2 d_Numeral_init_9 hlk
def Z_Decimal (h0 : Nat) (w : va_W) (ty : List (ClassId × FieldType)) : Prop := ∃ (q1 : Nat) (k1 : ClassId), w = [(h0, .inr (3, [.ref q1, .int 35, .int 35])), (q1, .inl (k1, 208, .inl (fun _ => 0)))] ∧ ty = [(k1, .int)]
set_option maxHeartbeats 4000000 in
set_option maxRecDepth 100000 in
theorem k_Decimal (l : Launch) (dC : Nat → ClassId) (dI : Nat → Nat → Nat) (X : SXT) (h0 : Nat) (sz : Nat) : Met l y_Decimal_init (.code y_Decimal_init b_Decimal_init 1 none :: w0) ({ frames := 1, cells := 1, slots := 208, locals := 12 }) (va_Pc [.ref h0] (gP (dC, dI) [(h0, .inr (3, [.null, .int 0, .int 0]))] [] sz X)) (va_Qv (fun (_ : Unit) => True) (gZ (dC, dI) (Z_Decimal h0) (va_A [(h0, .inr (3, [.null, .int 0, .int 0]))] sz)) (va_A [(h0, .inr (3, [.null, .int 0, .int 0]))] sz)) 1 208 (va_A [(h0, .inr (3, [.null, .int 0, .int 0]))] sz) := by
  refine Met.ofW (cc := b_Decimal_init) (maxL := 1) (ret := none) (by decide) rfl ?_
  intro p e s m args below meth c s₁ B hml hv
  obtain ⟨rfl, hsz, hP, hK, hD0, hX⟩ := hv
  subst hsz
  have cx : cxx p s m ([.ref h0] : List Value).toArray meth c b_Decimal_init 1 none R_Decimal := ⟨B.exec, B.bytes, B.returns, hml, findClass_of_methodNamed B.named, fun w9 hw => atoms_spec (ws := .code y_Decimal_init b_Decimal_init 1 none :: w0) B.pre w9 (List.mem_cons_of_mem _ hw), B.notSynchronized⟩
  obtain ⟨hx, hb, hr, hml, hown, ht, hlk⟩ := id cx
  have hin : meth.name = "<init>" := (name_of_methodNamed B.named B.method).1
  have hD := hD0.self (sz := s.heap.size)
  generalize hAe : va_A [(h0, .inr (3, [.null, .int 0, .int 0]))] s.heap.size = A at hD hX ⊢
  have hA : ∀ q : Nat, s.heap.size ≤ q → A q := fun q h => by rw [← hAe]; exact Or.inr h
  have hS : va_S A s.heap s.heap [] := va_S.rf
  have hl := lv_entry ([.ref h0]) (n := 1) (Nat.le_of_ble_eq_true rfl)
  rw [lg_entry_eq]
  generalize (lg_sl ([.ref h0]) ++ List.replicate (1 - (lg_sl ([.ref h0])).length) Slot.unset).toArray = ls at hl ⊢
  have hl : lv_has ls 1 [(0, .ref h0)] := hl
  obtain ⟨H, eH⟩ : ∃ H, H = s.heap := ⟨_, rfl⟩
  rw [← eH] at hP
  have hS : va_S A s.heap H [] := by rw [eH]; exact hS
  refine W.heq9 eH ?_
  refine lv_aload_n hx hb d_Decimal_init_0 rfl (lv_at hl 0 rfl) ?_
  refine W.objInit hx hb hown (ht _ q_708) (ht _ q_704) (ht _ q_705) rfl (by rw [hml]; exact hl.1) rfl d_Decimal_init_1 (Nat.le_of_ble_eq_true rfl) (Nat.le_of_ble_eq_true rfl) ?_
  refine W.eq (g2 := F0 m 4 ls []) rfl ?_
  refine lv_aload_n hx hb d_Decimal_init_4 rfl (lv_at hl 0 rfl) ?_
  refine lv_sipush (v := 208) hx hb d_Decimal_init_5 (by decide) ?_
  refine va_newa (D := (dC, dI)) (atype := .int) (a0 := (208, .inl (fun _ => 0))) (N' := 208) hx hb (ht _ q_709) (ty := .int) rfl hK hP hD hS hA (fun _ => rfl) (by decide) (by decide) (by decide) (Nat.le_of_ble_eq_true rfl) (Nat.le_of_ble_eq_true rfl) d_Decimal_init_8 (fun q1 k1 H hK hP hD hS => ?_)
  have hK : va_K (dC, dI) classes [(k1, .int)] s := hK
  have hP : va_P (dC, dI) classes [(h0, .inr (3, [.null, .int 0, .int 0])), (q1, .inl (k1, 208, .inl (fun _ => 0)))] H := hP
  have hD : va_D A [(h0, .inr (3, [.null, .int 0, .int 0])), (q1, .inl (k1, 208, .inl (fun _ => 0)))] := hD
  refine va_putF (D := (dC, dI)) (ci := 3) (v := .ref q1) (ty := (.array .int)) (C := R_Decimal) (T := F_Decimal) (N := 3) hx hb ht i_Decimal t_Decimal t_Decimal_ok n_Decimal hown hK hP hD hS 0 rfl rfl 0 (by decide) (ht _ q_108) (fun _ h9 => h9) rfl hin rfl (t_Decimal_ok 0 (by decide)) rfl rfl (Nat.le_of_ble_eq_true rfl) d_Decimal_init_10 (fun H locs hP hD hS => ?_)
  have hP : va_P (dC, dI) classes [(h0, .inr (3, [.ref q1, .int 0, .int 0])), (q1, .inl (k1, 208, .inl (fun _ => 0)))] H := hP
  have hD : va_D A [(h0, .inr (3, [.ref q1, .int 0, .int 0])), (q1, .inl (k1, 208, .inl (fun _ => 0)))] := hD
  refine lv_aload_n hx hb d_Decimal_init_13 rfl (lv_at hl 0 rfl) ?_
  refine lv_bipush (v := 35) hx hb d_Decimal_init_14 (by decide) ?_
  refine va_put (D := (dC, dI)) (ci := 3) (v := .int 35) (ty := .int) (C := R_Decimal) (T := F_Decimal) (N := 3) hx hb ht i_Decimal t_Decimal t_Decimal_ok n_Decimal hown hK hP hD hS 0 rfl rfl 1 (by decide) (ht _ q_109) (fun _ h9 => h9) rfl (t_Decimal_ok 1 (by decide)) rfl rfl (Nat.le_of_ble_eq_true rfl) d_Decimal_init_16 (fun H locs hP hD hS => ?_)
  have hP : va_P (dC, dI) classes [(h0, .inr (3, [.ref q1, .int 35, .int 0])), (q1, .inl (k1, 208, .inl (fun _ => 0)))] H := hP
  have hD : va_D A [(h0, .inr (3, [.ref q1, .int 35, .int 0])), (q1, .inl (k1, 208, .inl (fun _ => 0)))] := hD
  refine lv_aload_n hx hb d_Decimal_init_19 rfl (lv_at hl 0 rfl) ?_
  refine lv_bipush (v := 35) hx hb d_Decimal_init_20 (by decide) ?_
  refine va_put (D := (dC, dI)) (ci := 3) (v := .int 35) (ty := .int) (C := R_Decimal) (T := F_Decimal) (N := 3) hx hb ht i_Decimal t_Decimal t_Decimal_ok n_Decimal hown hK hP hD hS 0 rfl rfl 2 (by decide) (ht _ q_107) (fun _ h9 => h9) rfl (t_Decimal_ok 2 (by decide)) rfl rfl (Nat.le_of_ble_eq_true rfl) d_Decimal_init_22 (fun H locs hP hD hS => ?_)
  have hP : va_P (dC, dI) classes [(h0, .inr (3, [.ref q1, .int 35, .int 35])), (q1, .inl (k1, 208, .inl (fun _ => 0)))] H := hP
  have hD : va_D A [(h0, .inr (3, [.ref q1, .int 35, .int 35])), (q1, .inl (k1, 208, .inl (fun _ => 0)))] := hD
  refine W.cs (cells' := 1) (slots' := 208) rfl rfl ?_
  exact W.vret hx hb hr (fun t ht9 hW => ⟨⟨(), rfl, trivial, _, _, ⟨q1, k1, rfl, rfl⟩, by rw [ht9]; exact hP, va_K.moved hW.alike hK, hD⟩, hS.F ht9⟩) hS.2.2 d_Decimal_init_25 hlk
def Z_Size (h0 : Nat) (w : va_W) (ty : List (ClassId × FieldType)) : Prop := w = [(h0, .inr (4, [.long 0, .int 0, .int 0]))] ∧ ty = []
set_option maxHeartbeats 4000000 in
set_option maxRecDepth 100000 in
theorem k_Size (l : Launch) (dC : Nat → ClassId) (dI : Nat → Nat → Nat) (X : SXT) (h0 : Nat) (sz : Nat) : Met l y_Size_init (.code y_Size_init b_Size_init 1 none :: w0) ({ frames := 1, cells := 0, slots := 0, locals := 12 }) (va_Pc [.ref h0] (gP (dC, dI) [(h0, .inr (4, [.long 0, .int 0, .int 0]))] [] sz X)) (va_Qv (fun (_ : Unit) => True) (gZ (dC, dI) (Z_Size h0) (va_A [(h0, .inr (4, [.long 0, .int 0, .int 0]))] sz)) (va_A [(h0, .inr (4, [.long 0, .int 0, .int 0]))] sz)) 0 0 (va_A [(h0, .inr (4, [.long 0, .int 0, .int 0]))] sz) := by
  refine Met.ofW (cc := b_Size_init) (maxL := 1) (ret := none) (by decide) rfl ?_
  intro p e s m args below meth c s₁ B hml hv
  obtain ⟨rfl, hsz, hP, hK, hD0, hX⟩ := hv
  subst hsz
  have cx : cxx p s m ([.ref h0] : List Value).toArray meth c b_Size_init 1 none R_Size := ⟨B.exec, B.bytes, B.returns, hml, findClass_of_methodNamed B.named, fun w9 hw => atoms_spec (ws := .code y_Size_init b_Size_init 1 none :: w0) B.pre w9 (List.mem_cons_of_mem _ hw), B.notSynchronized⟩
  obtain ⟨hx, hb, hr, hml, hown, ht, hlk⟩ := id cx
  have hin : meth.name = "<init>" := (name_of_methodNamed B.named B.method).1
  have hD := hD0.self (sz := s.heap.size)
  generalize hAe : va_A [(h0, .inr (4, [.long 0, .int 0, .int 0]))] s.heap.size = A at hD hX ⊢
  have hA : ∀ q : Nat, s.heap.size ≤ q → A q := fun q h => by rw [← hAe]; exact Or.inr h
  have hS : va_S A s.heap s.heap [] := va_S.rf
  have hl := lv_entry ([.ref h0]) (n := 1) (Nat.le_of_ble_eq_true rfl)
  rw [lg_entry_eq]
  generalize (lg_sl ([.ref h0]) ++ List.replicate (1 - (lg_sl ([.ref h0])).length) Slot.unset).toArray = ls at hl ⊢
  have hl : lv_has ls 1 [(0, .ref h0)] := hl
  obtain ⟨H, eH⟩ : ∃ H, H = s.heap := ⟨_, rfl⟩
  rw [← eH] at hP
  have hS : va_S A s.heap H [] := by rw [eH]; exact hS
  refine W.heq9 eH ?_
  refine lv_aload_n hx hb d_Size_init_0 rfl (lv_at hl 0 rfl) ?_
  refine W.objInit hx hb hown (ht _ q_710) (ht _ q_704) (ht _ q_705) rfl (by rw [hml]; exact hl.1) rfl d_Size_init_1 (Nat.le_of_ble_eq_true rfl) (Nat.le_of_ble_eq_true rfl) ?_
  refine W.eq (g2 := F0 m 4 ls []) rfl ?_
  refine lv_aload_n hx hb d_Size_init_4 rfl (lv_at hl 0 rfl) ?_
  refine lv_lconst (v := 0) hx hb d_Size_init_5 (by decide) ?_
  refine va_put (D := (dC, dI)) (ci := 4) (v := .long 0) (ty := .long) (C := R_Size) (T := F_Size) (N := 3) hx hb ht i_Size t_Size t_Size_ok n_Size hown hK hP hD hS 0 rfl rfl 0 (by decide) (ht _ q_82) (fun _ h9 => h9) rfl (t_Size_ok 0 (by decide)) rfl rfl (Nat.le_of_ble_eq_true rfl) d_Size_init_6 (fun H locs hP hD hS => ?_)
  have hP : va_P (dC, dI) classes [(h0, .inr (4, [.long 0, .int 0, .int 0]))] H := hP
  have hD : va_D A [(h0, .inr (4, [.long 0, .int 0, .int 0]))] := hD
  refine lv_aload_n hx hb d_Size_init_9 rfl (lv_at hl 0 rfl) ?_
  refine lv_iconst (v := 0) hx hb d_Size_init_10 (by decide) ?_
  refine va_put (D := (dC, dI)) (ci := 4) (v := .int 0) (ty := .int) (C := R_Size) (T := F_Size) (N := 3) hx hb ht i_Size t_Size t_Size_ok n_Size hown hK hP hD hS 0 rfl rfl 1 (by decide) (ht _ q_83) (fun _ h9 => h9) rfl (t_Size_ok 1 (by decide)) rfl rfl (Nat.le_of_ble_eq_true rfl) d_Size_init_11 (fun H locs hP hD hS => ?_)
  have hP : va_P (dC, dI) classes [(h0, .inr (4, [.long 0, .int 0, .int 0]))] H := hP
  have hD : va_D A [(h0, .inr (4, [.long 0, .int 0, .int 0]))] := hD
  refine lv_aload_n hx hb d_Size_init_14 rfl (lv_at hl 0 rfl) ?_
  refine lv_iconst (v := 0) hx hb d_Size_init_15 (by decide) ?_
  refine va_put (D := (dC, dI)) (ci := 4) (v := .int 0) (ty := .boolean) (C := R_Size) (T := F_Size) (N := 3) hx hb ht i_Size t_Size t_Size_ok n_Size hown hK hP hD hS 0 rfl rfl 2 (by decide) (ht _ q_84) (fun _ h9 => h9) rfl (t_Size_ok 2 (by decide)) rfl rfl (Nat.le_of_ble_eq_true rfl) d_Size_init_16 (fun H locs hP hD hS => ?_)
  have hP : va_P (dC, dI) classes [(h0, .inr (4, [.long 0, .int 0, .int 0]))] H := hP
  have hD : va_D A [(h0, .inr (4, [.long 0, .int 0, .int 0]))] := hD
  refine W.cs (cells' := 0) (slots' := 0) rfl rfl ?_
  exact W.vret hx hb hr (fun t ht9 hW => ⟨⟨(), rfl, trivial, _, _, ⟨rfl, rfl⟩, by rw [ht9]; exact hP, va_K.moved hW.alike hK, hD⟩, hS.F ht9⟩) hS.2.2 d_Size_init_19 hlk
def Z_Page (h0 : Nat) (w : va_W) (ty : List (ClassId × FieldType)) : Prop := ∃ (q1 : Nat) (k1 : ClassId), w = [(h0, .inr (5, [.ref q1, .int 0])), (q1, .inl (k1, 420, .inl (fun _ => 0)))] ∧ ty = [(k1, .byte)]
set_option maxHeartbeats 4000000 in
set_option maxRecDepth 100000 in
theorem k_Page (l : Launch) (dC : Nat → ClassId) (dI : Nat → Nat → Nat) (X : SXT) (h0 : Nat) (sz : Nat) : Met l y_Page_init (.code y_Page_init b_Page_init 1 none :: w0) ({ frames := 1, cells := 1, slots := 420, locals := 12 }) (va_Pc [.ref h0] (gP (dC, dI) [(h0, .inr (5, [.null, .int 0]))] [] sz X)) (va_Qv (fun (_ : Unit) => True) (gZ (dC, dI) (Z_Page h0) (va_A [(h0, .inr (5, [.null, .int 0]))] sz)) (va_A [(h0, .inr (5, [.null, .int 0]))] sz)) 1 420 (va_A [(h0, .inr (5, [.null, .int 0]))] sz) := by
  refine Met.ofW (cc := b_Page_init) (maxL := 1) (ret := none) (by decide) rfl ?_
  intro p e s m args below meth c s₁ B hml hv
  obtain ⟨rfl, hsz, hP, hK, hD0, hX⟩ := hv
  subst hsz
  have cx : cxx p s m ([.ref h0] : List Value).toArray meth c b_Page_init 1 none R_Page := ⟨B.exec, B.bytes, B.returns, hml, findClass_of_methodNamed B.named, fun w9 hw => atoms_spec (ws := .code y_Page_init b_Page_init 1 none :: w0) B.pre w9 (List.mem_cons_of_mem _ hw), B.notSynchronized⟩
  obtain ⟨hx, hb, hr, hml, hown, ht, hlk⟩ := id cx
  have hin : meth.name = "<init>" := (name_of_methodNamed B.named B.method).1
  have hD := hD0.self (sz := s.heap.size)
  generalize hAe : va_A [(h0, .inr (5, [.null, .int 0]))] s.heap.size = A at hD hX ⊢
  have hA : ∀ q : Nat, s.heap.size ≤ q → A q := fun q h => by rw [← hAe]; exact Or.inr h
  have hS : va_S A s.heap s.heap [] := va_S.rf
  have hl := lv_entry ([.ref h0]) (n := 1) (Nat.le_of_ble_eq_true rfl)
  rw [lg_entry_eq]
  generalize (lg_sl ([.ref h0]) ++ List.replicate (1 - (lg_sl ([.ref h0])).length) Slot.unset).toArray = ls at hl ⊢
  have hl : lv_has ls 1 [(0, .ref h0)] := hl
  obtain ⟨H, eH⟩ : ∃ H, H = s.heap := ⟨_, rfl⟩
  rw [← eH] at hP
  have hS : va_S A s.heap H [] := by rw [eH]; exact hS
  refine W.heq9 eH ?_
  refine lv_aload_n hx hb d_Page_init_0 rfl (lv_at hl 0 rfl) ?_
  refine W.objInit hx hb hown (ht _ q_711) (ht _ q_704) (ht _ q_705) rfl (by rw [hml]; exact hl.1) rfl d_Page_init_1 (Nat.le_of_ble_eq_true rfl) (Nat.le_of_ble_eq_true rfl) ?_
  refine W.eq (g2 := F0 m 4 ls []) rfl ?_
  refine lv_aload_n hx hb d_Page_init_4 rfl (lv_at hl 0 rfl) ?_
  refine lv_sipush (v := 420) hx hb d_Page_init_5 (by decide) ?_
  refine va_newa (D := (dC, dI)) (atype := .byte) (a0 := (420, .inl (fun _ => 0))) (N' := 420) hx hb (ht _ q_706) (ty := .byte) rfl hK hP hD hS hA (fun _ => rfl) (by decide) (by decide) (by decide) (Nat.le_of_ble_eq_true rfl) (Nat.le_of_ble_eq_true rfl) d_Page_init_8 (fun q1 k1 H hK hP hD hS => ?_)
  have hK : va_K (dC, dI) classes [(k1, .byte)] s := hK
  have hP : va_P (dC, dI) classes [(h0, .inr (5, [.null, .int 0])), (q1, .inl (k1, 420, .inl (fun _ => 0)))] H := hP
  have hD : va_D A [(h0, .inr (5, [.null, .int 0])), (q1, .inl (k1, 420, .inl (fun _ => 0)))] := hD
  refine va_putF (D := (dC, dI)) (ci := 5) (v := .ref q1) (ty := (.array .byte)) (C := R_Page) (T := F_Page) (N := 2) hx hb ht i_Page t_Page t_Page_ok n_Page hown hK hP hD hS 0 rfl rfl 0 (by decide) (ht _ q_235) (fun _ h9 => h9) rfl hin rfl (t_Page_ok 0 (by decide)) rfl rfl (Nat.le_of_ble_eq_true rfl) d_Page_init_10 (fun H locs hP hD hS => ?_)
  have hP : va_P (dC, dI) classes [(h0, .inr (5, [.ref q1, .int 0])), (q1, .inl (k1, 420, .inl (fun _ => 0)))] H := hP
  have hD : va_D A [(h0, .inr (5, [.ref q1, .int 0])), (q1, .inl (k1, 420, .inl (fun _ => 0)))] := hD
  refine lv_aload_n hx hb d_Page_init_13 rfl (lv_at hl 0 rfl) ?_
  refine lv_iconst (v := 0) hx hb d_Page_init_14 (by decide) ?_
  refine va_put (D := (dC, dI)) (ci := 5) (v := .int 0) (ty := .int) (C := R_Page) (T := F_Page) (N := 2) hx hb ht i_Page t_Page t_Page_ok n_Page hown hK hP hD hS 0 rfl rfl 1 (by decide) (ht _ q_234) (fun _ h9 => h9) rfl (t_Page_ok 1 (by decide)) rfl rfl (Nat.le_of_ble_eq_true rfl) d_Page_init_15 (fun H locs hP hD hS => ?_)
  have hP : va_P (dC, dI) classes [(h0, .inr (5, [.ref q1, .int 0])), (q1, .inl (k1, 420, .inl (fun _ => 0)))] H := hP
  have hD : va_D A [(h0, .inr (5, [.ref q1, .int 0])), (q1, .inl (k1, 420, .inl (fun _ => 0)))] := hD
  refine W.cs (cells' := 1) (slots' := 420) rfl rfl ?_
  exact W.vret hx hb hr (fun t ht9 hW => ⟨⟨(), rfl, trivial, _, _, ⟨q1, k1, rfl, rfl⟩, by rw [ht9]; exact hP, va_K.moved hW.alike hK, hD⟩, hS.F ht9⟩) hS.2.2 d_Page_init_18 hlk
def Z_Writer (h0 : Nat) (g1 : Nat) (g2 : Nat) (w : va_W) (ty : List (ClassId × FieldType)) : Prop := ∃ (q1 : Nat) (k1 : ClassId), w = [(h0, .inr (6, [.ref g1, .ref g2, .ref q1, .int 0, .int 100, .int 0, .int 0, .int (-1)])), (q1, .inl (k1, 22, .inl (fun _ => 0)))] ∧ ty = [(k1, .byte)]
set_option maxHeartbeats 4000000 in
set_option maxRecDepth 100000 in
theorem k_Writer (l : Launch) (dC : Nat → ClassId) (dI : Nat → Nat → Nat) (X : SXT) (h0 : Nat) (sz : Nat) (g1 : Nat) (g2 : Nat) : Met l y_Writer_init (.code y_Writer_init b_Writer_init 3 none :: w0) ({ frames := 1, cells := 1, slots := 22, locals := 12 }) (va_Pc [.ref h0, .ref g1, .ref g2] (gP (dC, dI) [(h0, .inr (6, [.null, .null, .null, .int 0, .int 0, .int 0, .int 0, .int 0]))] [] sz X)) (va_Qv (fun (_ : Unit) => True) (gZ (dC, dI) (Z_Writer h0 g1 g2) (va_A [(h0, .inr (6, [.null, .null, .null, .int 0, .int 0, .int 0, .int 0, .int 0]))] sz)) (va_A [(h0, .inr (6, [.null, .null, .null, .int 0, .int 0, .int 0, .int 0, .int 0]))] sz)) 1 22 (va_A [(h0, .inr (6, [.null, .null, .null, .int 0, .int 0, .int 0, .int 0, .int 0]))] sz) := by
  refine Met.ofW (cc := b_Writer_init) (maxL := 3) (ret := none) (by decide) rfl ?_
  intro p e s m args below meth c s₁ B hml hv
  obtain ⟨rfl, hsz, hP, hK, hD0, hX⟩ := hv
  subst hsz
  have cx : cxx p s m ([.ref h0, .ref g1, .ref g2] : List Value).toArray meth c b_Writer_init 3 none R_Writer := ⟨B.exec, B.bytes, B.returns, hml, findClass_of_methodNamed B.named, fun w9 hw => atoms_spec (ws := .code y_Writer_init b_Writer_init 3 none :: w0) B.pre w9 (List.mem_cons_of_mem _ hw), B.notSynchronized⟩
  obtain ⟨hx, hb, hr, hml, hown, ht, hlk⟩ := id cx
  have hin : meth.name = "<init>" := (name_of_methodNamed B.named B.method).1
  have hD := hD0.self (sz := s.heap.size)
  generalize hAe : va_A [(h0, .inr (6, [.null, .null, .null, .int 0, .int 0, .int 0, .int 0, .int 0]))] s.heap.size = A at hD hX ⊢
  have hA : ∀ q : Nat, s.heap.size ≤ q → A q := fun q h => by rw [← hAe]; exact Or.inr h
  have hS : va_S A s.heap s.heap [] := va_S.rf
  have hl := lv_entry ([.ref h0, .ref g1, .ref g2]) (n := 3) (Nat.le_of_ble_eq_true rfl)
  rw [lg_entry_eq]
  generalize (lg_sl ([.ref h0, .ref g1, .ref g2]) ++ List.replicate (3 - (lg_sl ([.ref h0, .ref g1, .ref g2])).length) Slot.unset).toArray = ls at hl ⊢
  have hl : lv_has ls 3 [(0, .ref h0), (1, .ref g1), (2, .ref g2)] := hl
  obtain ⟨H, eH⟩ : ∃ H, H = s.heap := ⟨_, rfl⟩
  rw [← eH] at hP
  have hS : va_S A s.heap H [] := by rw [eH]; exact hS
  refine W.heq9 eH ?_
  refine lv_aload_n hx hb d_Writer_init_0 rfl (lv_at hl 0 rfl) ?_
  refine W.objInit hx hb hown (ht _ q_712) (ht _ q_704) (ht _ q_705) rfl (by rw [hml]; exact hl.1) rfl d_Writer_init_1 (Nat.le_of_ble_eq_true rfl) (Nat.le_of_ble_eq_true rfl) ?_
  refine W.eq (g2 := F0 m 4 ls []) rfl ?_
  refine lv_aload_n hx hb d_Writer_init_4 rfl (lv_at hl 0 rfl) ?_
  refine lv_bipush (v := 22) hx hb d_Writer_init_5 (by decide) ?_
  refine va_newa (D := (dC, dI)) (atype := .byte) (a0 := (22, .inl (fun _ => 0))) (N' := 22) hx hb (ht _ q_706) (ty := .byte) rfl hK hP hD hS hA (fun _ => rfl) (by decide) (by decide) (by decide) (Nat.le_of_ble_eq_true rfl) (Nat.le_of_ble_eq_true rfl) d_Writer_init_7 (fun q1 k1 H hK hP hD hS => ?_)
  have hK : va_K (dC, dI) classes [(k1, .byte)] s := hK
  have hP : va_P (dC, dI) classes [(h0, .inr (6, [.null, .null, .null, .int 0, .int 0, .int 0, .int 0, .int 0])), (q1, .inl (k1, 22, .inl (fun _ => 0)))] H := hP
  have hD : va_D A [(h0, .inr (6, [.null, .null, .null, .int 0, .int 0, .int 0, .int 0, .int 0])), (q1, .inl (k1, 22, .inl (fun _ => 0)))] := hD
  refine va_putF (D := (dC, dI)) (ci := 6) (v := .ref q1) (ty := (.array .byte)) (C := R_Writer) (T := F_Writer) (N := 8) hx hb ht i_Writer t_Writer t_Writer_ok n_Writer hown hK hP hD hS 0 rfl rfl 2 (by decide) (ht _ q_249) (fun _ h9 => h9) rfl hin rfl (t_Writer_ok 2 (by decide)) rfl rfl (Nat.le_of_ble_eq_true rfl) d_Writer_init_9 (fun H locs hP hD hS => ?_)
  have hP : va_P (dC, dI) classes [(h0, .inr (6, [.null, .null, .ref q1, .int 0, .int 0, .int 0, .int 0, .int 0])), (q1, .inl (k1, 22, .inl (fun _ => 0)))] H := hP
  have hD : va_D A [(h0, .inr (6, [.null, .null, .ref q1, .int 0, .int 0, .int 0, .int 0, .int 0])), (q1, .inl (k1, 22, .inl (fun _ => 0)))] := hD
  refine lv_aload_n hx hb d_Writer_init_12 rfl (lv_at hl 0 rfl) ?_
  refine lv_iconst (v := 0) hx hb d_Writer_init_13 (by decide) ?_
  refine va_put (D := (dC, dI)) (ci := 6) (v := .int 0) (ty := .int) (C := R_Writer) (T := F_Writer) (N := 8) hx hb ht i_Writer t_Writer t_Writer_ok n_Writer hown hK hP hD hS 0 rfl rfl 3 (by decide) (ht _ q_247) (fun _ h9 => h9) rfl (t_Writer_ok 3 (by decide)) rfl rfl (Nat.le_of_ble_eq_true rfl) d_Writer_init_14 (fun H locs hP hD hS => ?_)
  have hP : va_P (dC, dI) classes [(h0, .inr (6, [.null, .null, .ref q1, .int 0, .int 0, .int 0, .int 0, .int 0])), (q1, .inl (k1, 22, .inl (fun _ => 0)))] H := hP
  have hD : va_D A [(h0, .inr (6, [.null, .null, .ref q1, .int 0, .int 0, .int 0, .int 0, .int 0])), (q1, .inl (k1, 22, .inl (fun _ => 0)))] := hD
  refine lv_aload_n hx hb d_Writer_init_17 rfl (lv_at hl 0 rfl) ?_
  refine lv_bipush (v := 100) hx hb d_Writer_init_18 (by decide) ?_
  refine va_put (D := (dC, dI)) (ci := 6) (v := .int 100) (ty := .char) (C := R_Writer) (T := F_Writer) (N := 8) hx hb ht i_Writer t_Writer t_Writer_ok n_Writer hown hK hP hD hS 0 rfl rfl 4 (by decide) (ht _ q_230) (fun _ h9 => h9) rfl (t_Writer_ok 4 (by decide)) rfl rfl (Nat.le_of_ble_eq_true rfl) d_Writer_init_20 (fun H locs hP hD hS => ?_)
  have hP : va_P (dC, dI) classes [(h0, .inr (6, [.null, .null, .ref q1, .int 0, .int 100, .int 0, .int 0, .int 0])), (q1, .inl (k1, 22, .inl (fun _ => 0)))] H := hP
  have hD : va_D A [(h0, .inr (6, [.null, .null, .ref q1, .int 0, .int 100, .int 0, .int 0, .int 0])), (q1, .inl (k1, 22, .inl (fun _ => 0)))] := hD
  refine lv_aload_n hx hb d_Writer_init_23 rfl (lv_at hl 0 rfl) ?_
  refine lv_iconst (v := 0) hx hb d_Writer_init_24 (by decide) ?_
  refine va_put (D := (dC, dI)) (ci := 6) (v := .int 0) (ty := .int) (C := R_Writer) (T := F_Writer) (N := 8) hx hb ht i_Writer t_Writer t_Writer_ok n_Writer hown hK hP hD hS 0 rfl rfl 5 (by decide) (ht _ q_231) (fun _ h9 => h9) rfl (t_Writer_ok 5 (by decide)) rfl rfl (Nat.le_of_ble_eq_true rfl) d_Writer_init_25 (fun H locs hP hD hS => ?_)
  have hP : va_P (dC, dI) classes [(h0, .inr (6, [.null, .null, .ref q1, .int 0, .int 100, .int 0, .int 0, .int 0])), (q1, .inl (k1, 22, .inl (fun _ => 0)))] H := hP
  have hD : va_D A [(h0, .inr (6, [.null, .null, .ref q1, .int 0, .int 100, .int 0, .int 0, .int 0])), (q1, .inl (k1, 22, .inl (fun _ => 0)))] := hD
  refine lv_aload_n hx hb d_Writer_init_28 rfl (lv_at hl 0 rfl) ?_
  refine lv_iconst (v := 0) hx hb d_Writer_init_29 (by decide) ?_
  refine va_put (D := (dC, dI)) (ci := 6) (v := .int 0) (ty := .int) (C := R_Writer) (T := F_Writer) (N := 8) hx hb ht i_Writer t_Writer t_Writer_ok n_Writer hown hK hP hD hS 0 rfl rfl 6 (by decide) (ht _ q_232) (fun _ h9 => h9) rfl (t_Writer_ok 6 (by decide)) rfl rfl (Nat.le_of_ble_eq_true rfl) d_Writer_init_30 (fun H locs hP hD hS => ?_)
  have hP : va_P (dC, dI) classes [(h0, .inr (6, [.null, .null, .ref q1, .int 0, .int 100, .int 0, .int 0, .int 0])), (q1, .inl (k1, 22, .inl (fun _ => 0)))] H := hP
  have hD : va_D A [(h0, .inr (6, [.null, .null, .ref q1, .int 0, .int 100, .int 0, .int 0, .int 0])), (q1, .inl (k1, 22, .inl (fun _ => 0)))] := hD
  refine lv_aload_n hx hb d_Writer_init_33 rfl (lv_at hl 0 rfl) ?_
  refine lv_iconst (v := (-1)) hx hb d_Writer_init_34 (by decide) ?_
  refine va_put (D := (dC, dI)) (ci := 6) (v := .int (-1)) (ty := .int) (C := R_Writer) (T := F_Writer) (N := 8) hx hb ht i_Writer t_Writer t_Writer_ok n_Writer hown hK hP hD hS 0 rfl rfl 7 (by decide) (ht _ q_233) (fun _ h9 => h9) rfl (t_Writer_ok 7 (by decide)) rfl rfl (Nat.le_of_ble_eq_true rfl) d_Writer_init_35 (fun H locs hP hD hS => ?_)
  have hP : va_P (dC, dI) classes [(h0, .inr (6, [.null, .null, .ref q1, .int 0, .int 100, .int 0, .int 0, .int (-1)])), (q1, .inl (k1, 22, .inl (fun _ => 0)))] H := hP
  have hD : va_D A [(h0, .inr (6, [.null, .null, .ref q1, .int 0, .int 100, .int 0, .int 0, .int (-1)])), (q1, .inl (k1, 22, .inl (fun _ => 0)))] := hD
  refine lv_aload_n hx hb d_Writer_init_38 rfl (lv_at hl 0 rfl) ?_
  refine lv_aload_n hx hb d_Writer_init_39 rfl (lv_at hl 1 rfl) ?_
  refine va_putF (D := (dC, dI)) (ci := 6) (v := .ref g1) (ty := (.object "NumeralTexts$Page")) (C := R_Writer) (T := F_Writer) (N := 8) hx hb ht i_Writer t_Writer t_Writer_ok n_Writer hown hK hP hD hS 0 rfl rfl 0 (by decide) (ht _ q_241) (fun _ h9 => h9) rfl hin rfl (t_Writer_ok 0 (by decide)) rfl rfl (Nat.le_of_ble_eq_true rfl) d_Writer_init_40 (fun H locs hP hD hS => ?_)
  have hP : va_P (dC, dI) classes [(h0, .inr (6, [.ref g1, .null, .ref q1, .int 0, .int 100, .int 0, .int 0, .int (-1)])), (q1, .inl (k1, 22, .inl (fun _ => 0)))] H := hP
  have hD : va_D A [(h0, .inr (6, [.ref g1, .null, .ref q1, .int 0, .int 100, .int 0, .int 0, .int (-1)])), (q1, .inl (k1, 22, .inl (fun _ => 0)))] := hD
  refine lv_aload_n hx hb d_Writer_init_43 rfl (lv_at hl 0 rfl) ?_
  refine lv_aload_n hx hb d_Writer_init_44 rfl (lv_at hl 2 rfl) ?_
  refine va_putF (D := (dC, dI)) (ci := 6) (v := .ref g2) (ty := (.object "NumeralTexts$Decimal")) (C := R_Writer) (T := F_Writer) (N := 8) hx hb ht i_Writer t_Writer t_Writer_ok n_Writer hown hK hP hD hS 0 rfl rfl 1 (by decide) (ht _ q_376) (fun _ h9 => h9) rfl hin rfl (t_Writer_ok 1 (by decide)) rfl rfl (Nat.le_of_ble_eq_true rfl) d_Writer_init_45 (fun H locs hP hD hS => ?_)
  have hP : va_P (dC, dI) classes [(h0, .inr (6, [.ref g1, .ref g2, .ref q1, .int 0, .int 100, .int 0, .int 0, .int (-1)])), (q1, .inl (k1, 22, .inl (fun _ => 0)))] H := hP
  have hD : va_D A [(h0, .inr (6, [.ref g1, .ref g2, .ref q1, .int 0, .int 100, .int 0, .int 0, .int (-1)])), (q1, .inl (k1, 22, .inl (fun _ => 0)))] := hD
  refine W.cs (cells' := 1) (slots' := 22) rfl rfl ?_
  exact W.vret hx hb hr (fun t ht9 hW => ⟨⟨(), rfl, trivial, _, _, ⟨q1, k1, rfl, rfl⟩, by rw [ht9]; exact hP, va_K.moved hW.alike hK, hD⟩, hS.F ht9⟩) hS.2.2 d_Writer_init_48 hlk
def Z_N (h0 : Nat) (w : va_W) (ty : List (ClassId × FieldType)) : Prop := ∃ (q1 : Nat) (q2 : Nat) (k3 : ClassId) (q4 : Nat) (q5 : Nat) (q6 : Nat) (k7 : ClassId) (q8 : Nat) (q9 : Nat) (k10 : ClassId) (q11 : Nat) (q12 : Nat) (q13 : Nat) (q14 : Nat) (k15 : ClassId) (q16 : Nat) (q17 : Nat) (k18 : ClassId), w = [(h0, .inr (0, [.ref q1, .ref q4, .ref q5, .ref q8, .ref q11, .ref q12, .ref q13, .ref q16, .int 1, .long 0, .int 0])), (q1, .inr (1, [.ref q2, .int 0])), (q2, .inl (k3, 1200, .inl (fun _ => 0))), (q4, .inr (2, [.ref q1, .int 0, .int 0, .int 0, .int 0, .int 0, .int 0, .int 0, .int 0, .int 0, .int 0, .long 0])), (q5, .inr (3, [.ref q6, .int 35, .int 35])), (q6, .inl (k7, 208, .inl (fun _ => 0))), (q8, .inr (3, [.ref q9, .int 35, .int 35])), (q9, .inl (k10, 208, .inl (fun _ => 0))), (q11, .inr (4, [.long 0, .int 0, .int 0])), (q12, .inr (4, [.long 0, .int 0, .int 0])), (q13, .inr (5, [.ref q14, .int 0])), (q14, .inl (k15, 420, .inl (fun _ => 0))), (q16, .inr (6, [.ref q13, .ref q8, .ref q17, .int 0, .int 100, .int 0, .int 0, .int (-1)])), (q17, .inl (k18, 22, .inl (fun _ => 0)))] ∧ ty = [(k3, .byte), (k7, .int), (k10, .int), (k15, .byte), (k18, .byte)]
set_option maxHeartbeats 4000000 in
set_option maxRecDepth 100000 in
theorem k_N (l : Launch) (dC : Nat → ClassId) (dI : Nat → Nat → Nat) (X : SXT) (h0 : Nat) (sz : Nat) : Met l y_N_init (.code y_N_init b_N_init 1 none :: w0) ({ frames := 2, cells := 13, slots := 2094, locals := 34 }) (va_Pc [.ref h0] (gP (dC, dI) [(h0, .inr (0, [.null, .null, .null, .null, .null, .null, .null, .null, .int 0, .long 0, .int 0]))] [] sz X)) (va_Qv (fun (_ : Unit) => True) (gZ (dC, dI) (Z_N h0) (va_A [(h0, .inr (0, [.null, .null, .null, .null, .null, .null, .null, .null, .int 0, .long 0, .int 0]))] sz)) (va_A [(h0, .inr (0, [.null, .null, .null, .null, .null, .null, .null, .null, .int 0, .long 0, .int 0]))] sz)) 13 2094 (va_A [(h0, .inr (0, [.null, .null, .null, .null, .null, .null, .null, .null, .int 0, .long 0, .int 0]))] sz) := by
  refine Met.ofW (cc := b_N_init) (maxL := 1) (ret := none) (by decide) rfl ?_
  intro p e s m args below meth c s₁ B hml hv
  obtain ⟨rfl, hsz, hP, hK, hD0, hX⟩ := hv
  subst hsz
  have cx : cxx p s m ([.ref h0] : List Value).toArray meth c b_N_init 1 none R_N := ⟨B.exec, B.bytes, B.returns, hml, findClass_of_methodNamed B.named, fun w9 hw => atoms_spec (ws := .code y_N_init b_N_init 1 none :: w0) B.pre w9 (List.mem_cons_of_mem _ hw), B.notSynchronized⟩
  obtain ⟨hx, hb, hr, hml, hown, ht, hlk⟩ := id cx
  have hin : meth.name = "<init>" := (name_of_methodNamed B.named B.method).1
  have hD := hD0.self (sz := s.heap.size)
  generalize hAe : va_A [(h0, .inr (0, [.null, .null, .null, .null, .null, .null, .null, .null, .int 0, .long 0, .int 0]))] s.heap.size = A at hD hX ⊢
  have hA : ∀ q : Nat, s.heap.size ≤ q → A q := fun q h => by rw [← hAe]; exact Or.inr h
  have hS : va_S A s.heap s.heap [] := va_S.rf
  have hl := lv_entry ([.ref h0]) (n := 1) (Nat.le_of_ble_eq_true rfl)
  rw [lg_entry_eq]
  generalize (lg_sl ([.ref h0]) ++ List.replicate (1 - (lg_sl ([.ref h0])).length) Slot.unset).toArray = ls at hl ⊢
  have hl : lv_has ls 1 [(0, .ref h0)] := hl
  obtain ⟨H, eH⟩ : ∃ H, H = s.heap := ⟨_, rfl⟩
  rw [← eH] at hP
  have hS : va_S A s.heap H [] := by rw [eH]; exact hS
  refine W.heq9 eH ?_
  refine lv_aload_n hx hb d_N_init_0 rfl (lv_at hl 0 rfl) ?_
  refine W.objInit hx hb hown (ht _ q_713) (ht _ q_704) (ht _ q_705) rfl (by rw [hml]; exact hl.1) rfl d_N_init_1 (Nat.le_of_ble_eq_true rfl) (Nat.le_of_ble_eq_true rfl) ?_
  refine W.eq (g2 := F0 m 4 ls []) rfl ?_
  refine lv_aload_n hx hb d_N_init_4 rfl (lv_at hl 0 rfl) ?_
  refine va_new (D := (dC, dI)) (ci := 1) (C := R_Tape) (T := F_Tape) (N := 2) (fs := [.null, .int 0]) hx hb ht i_Tape t_Tape t_Tape_ok hown (ht _ q_714) (ht _ q_715) (ht _ q_6) hK hP hD hS hA rfl (by decide) (Nat.le_of_ble_eq_true rfl) (Nat.le_of_ble_eq_true rfl) d_N_init_5 (fun q1 H hP hD hS => ?_)
  have hP : va_P (dC, dI) classes [(h0, .inr (0, [.null, .null, .null, .null, .null, .null, .null, .null, .int 0, .long 0, .int 0])), (q1, .inr (1, [.null, .int 0]))] H := hP
  have hD : va_D A [(h0, .inr (0, [.null, .null, .null, .null, .null, .null, .null, .null, .int 0, .long 0, .int 0])), (q1, .inr (1, [.null, .int 0]))] := hD
  refine lv_dup hx hb d_N_init_8 rfl ?_
  refine clIN (D := (dC, dI)) (n := 0) (As := []) ⟨hx, hb, hml, hown, ht⟩ (k_Tape l dC dI X q1 H.size) (hX.nest 3 rfl) q_6 q_716 q_717 (by decide +kernel) ⟨rfl, rfl, Nat.le_of_ble_eq_true rfl, Nat.le_of_ble_eq_true rfl⟩ hK hP hD hS hA hX [1] [0] rfl (wr := [(h0, .inr (0, [.null, .null, .null, .null, .null, .null, .null, .null, .int 0, .long 0, .int 0]))]) rfl (by decide) (by decide) (by decide) rfl hl.1 rfl (lv_room (Nat.le_of_ble_eq_true rfl)) d_N_init_9 ⟨Nat.le_of_ble_eq_true rfl, Nat.le_of_ble_eq_true rfl⟩ (fun w9 ty9 H locs hz hK hP hD hS => ?_)
  obtain ⟨q2, k3, rfl, rfl⟩ := hz
  have hK : va_K (dC, dI) classes [(k3, .byte)] s := hK
  have hP : va_P (dC, dI) classes [(h0, .inr (0, [.null, .null, .null, .null, .null, .null, .null, .null, .int 0, .long 0, .int 0])), (q1, .inr (1, [.ref q2, .int 0])), (q2, .inl (k3, 1200, .inl (fun _ => 0)))] H := hP
  have hD : va_D A [(h0, .inr (0, [.null, .null, .null, .null, .null, .null, .null, .null, .int 0, .long 0, .int 0])), (q1, .inr (1, [.ref q2, .int 0])), (q2, .inl (k3, 1200, .inl (fun _ => 0)))] := hD
  refine va_putF (D := (dC, dI)) (ci := 0) (v := .ref q1) (ty := (.object "NumeralTexts$Tape")) (C := R_N) (T := F_N) (N := 11) hx hb ht i_N t_N t_N_ok n_N hown hK hP hD hS 0 rfl rfl 0 (by decide) (ht _ q_2) (fun _ h9 => h9) rfl hin rfl (t_N_ok 0 (by decide)) rfl rfl (Nat.le_of_ble_eq_true rfl) d_N_init_12 (fun H locs hP hD hS => ?_)
  have hP : va_P (dC, dI) classes [(h0, .inr (0, [.ref q1, .null, .null, .null, .null, .null, .null, .null, .int 0, .long 0, .int 0])), (q1, .inr (1, [.ref q2, .int 0])), (q2, .inl (k3, 1200, .inl (fun _ => 0)))] H := hP
  have hD : va_D A [(h0, .inr (0, [.ref q1, .null, .null, .null, .null, .null, .null, .null, .int 0, .long 0, .int 0])), (q1, .inr (1, [.ref q2, .int 0])), (q2, .inl (k3, 1200, .inl (fun _ => 0)))] := hD
  refine lv_aload_n hx hb d_N_init_15 rfl (lv_at hl 0 rfl) ?_
  refine va_new (D := (dC, dI)) (ci := 2) (C := R_Numeral) (T := F_Numeral) (N := 12) (fs := [.null, .int 0, .int 0, .int 0, .int 0, .int 0, .int 0, .int 0, .int 0, .int 0, .int 0, .long 0]) hx hb ht i_Numeral t_Numeral t_Numeral_ok hown (ht _ q_718) (ht _ q_719) (ht _ q_24) hK hP hD hS hA rfl (by decide) (Nat.le_of_ble_eq_true rfl) (Nat.le_of_ble_eq_true rfl) d_N_init_16 (fun q4 H hP hD hS => ?_)
  have hP : va_P (dC, dI) classes [(h0, .inr (0, [.ref q1, .null, .null, .null, .null, .null, .null, .null, .int 0, .long 0, .int 0])), (q1, .inr (1, [.ref q2, .int 0])), (q2, .inl (k3, 1200, .inl (fun _ => 0))), (q4, .inr (2, [.null, .int 0, .int 0, .int 0, .int 0, .int 0, .int 0, .int 0, .int 0, .int 0, .int 0, .long 0]))] H := hP
  have hD : va_D A [(h0, .inr (0, [.ref q1, .null, .null, .null, .null, .null, .null, .null, .int 0, .long 0, .int 0])), (q1, .inr (1, [.ref q2, .int 0])), (q2, .inl (k3, 1200, .inl (fun _ => 0))), (q4, .inr (2, [.null, .int 0, .int 0, .int 0, .int 0, .int 0, .int 0, .int 0, .int 0, .int 0, .int 0, .long 0]))] := hD
  refine lv_dup hx hb d_N_init_19 rfl ?_
  refine lv_aload_n hx hb d_N_init_20 rfl (lv_at hl 0 rfl) ?_
  refine va_get (D := (dC, dI)) (ci := 0) (v := .ref q1) (C := R_N) (T := F_N) (N := 11) hx hb ht i_N hown hK hP 0 rfl rfl 0 (by decide) (ht _ q_2) (fun _ h9 => h9) rfl d_N_init_21 ?_
  refine clI (D := (dC, dI)) (n := 1) (As := [.ref q1]) ⟨hx, hb, hml, hown, ht⟩ (k_Numeral l dC dI X q4 H.size q1) (ht _ q_720) q_24 q_721 q_722 (by decide +kernel) ⟨rfl, rfl, Nat.le_of_ble_eq_true rfl, Nat.le_of_ble_eq_true rfl⟩ hK hP hD hS hA hX [3] [0, 1, 2] rfl (wr := [(h0, .inr (0, [.ref q1, .null, .null, .null, .null, .null, .null, .null, .int 0, .long 0, .int 0])), (q1, .inr (1, [.ref q2, .int 0])), (q2, .inl (k3, 1200, .inl (fun _ => 0)))]) rfl (by decide) (by decide) (by decide) rfl hl.1 rfl (lv_room (Nat.le_of_ble_eq_true rfl)) d_N_init_24 ⟨Nat.le_of_ble_eq_true rfl, Nat.le_of_ble_eq_true rfl⟩ (fun w9 ty9 H locs hz hK hP hD hS => ?_)
  obtain ⟨rfl, rfl⟩ := hz
  have hK : va_K (dC, dI) classes [(k3, .byte)] s := hK
  have hP : va_P (dC, dI) classes [(h0, .inr (0, [.ref q1, .null, .null, .null, .null, .null, .null, .null, .int 0, .long 0, .int 0])), (q1, .inr (1, [.ref q2, .int 0])), (q2, .inl (k3, 1200, .inl (fun _ => 0))), (q4, .inr (2, [.ref q1, .int 0, .int 0, .int 0, .int 0, .int 0, .int 0, .int 0, .int 0, .int 0, .int 0, .long 0]))] H := hP
  have hD : va_D A [(h0, .inr (0, [.ref q1, .null, .null, .null, .null, .null, .null, .null, .int 0, .long 0, .int 0])), (q1, .inr (1, [.ref q2, .int 0])), (q2, .inl (k3, 1200, .inl (fun _ => 0))), (q4, .inr (2, [.ref q1, .int 0, .int 0, .int 0, .int 0, .int 0, .int 0, .int 0, .int 0, .int 0, .int 0, .long 0]))] := hD
  refine va_putF (D := (dC, dI)) (ci := 0) (v := .ref q4) (ty := (.object "NumeralTexts$Numeral")) (C := R_N) (T := F_N) (N := 11) hx hb ht i_N t_N t_N_ok n_N hown hK hP hD hS 0 rfl rfl 1 (by decide) (ht _ q_193) (fun _ h9 => h9) rfl hin rfl (t_N_ok 1 (by decide)) rfl rfl (Nat.le_of_ble_eq_true rfl) d_N_init_27 (fun H locs hP hD hS => ?_)
  have hP : va_P (dC, dI) classes [(h0, .inr (0, [.ref q1, .ref q4, .null, .null, .null, .null, .null, .null, .int 0, .long 0, .int 0])), (q1, .inr (1, [.ref q2, .int 0])), (q2, .inl (k3, 1200, .inl (fun _ => 0))), (q4, .inr (2, [.ref q1, .int 0, .int 0, .int 0, .int 0, .int 0, .int 0, .int 0, .int 0, .int 0, .int 0, .long 0]))] H := hP
  have hD : va_D A [(h0, .inr (0, [.ref q1, .ref q4, .null, .null, .null, .null, .null, .null, .int 0, .long 0, .int 0])), (q1, .inr (1, [.ref q2, .int 0])), (q2, .inl (k3, 1200, .inl (fun _ => 0))), (q4, .inr (2, [.ref q1, .int 0, .int 0, .int 0, .int 0, .int 0, .int 0, .int 0, .int 0, .int 0, .int 0, .long 0]))] := hD
  refine lv_aload_n hx hb d_N_init_30 rfl (lv_at hl 0 rfl) ?_
  refine va_new (D := (dC, dI)) (ci := 3) (C := R_Decimal) (T := F_Decimal) (N := 3) (fs := [.null, .int 0, .int 0]) hx hb ht i_Decimal t_Decimal t_Decimal_ok hown (ht _ q_723) (ht _ q_724) (ht _ q_113) hK hP hD hS hA rfl (by decide) (Nat.le_of_ble_eq_true rfl) (Nat.le_of_ble_eq_true rfl) d_N_init_31 (fun q5 H hP hD hS => ?_)
  have hP : va_P (dC, dI) classes [(h0, .inr (0, [.ref q1, .ref q4, .null, .null, .null, .null, .null, .null, .int 0, .long 0, .int 0])), (q1, .inr (1, [.ref q2, .int 0])), (q2, .inl (k3, 1200, .inl (fun _ => 0))), (q4, .inr (2, [.ref q1, .int 0, .int 0, .int 0, .int 0, .int 0, .int 0, .int 0, .int 0, .int 0, .int 0, .long 0])), (q5, .inr (3, [.null, .int 0, .int 0]))] H := hP
  have hD : va_D A [(h0, .inr (0, [.ref q1, .ref q4, .null, .null, .null, .null, .null, .null, .int 0, .long 0, .int 0])), (q1, .inr (1, [.ref q2, .int 0])), (q2, .inl (k3, 1200, .inl (fun _ => 0))), (q4, .inr (2, [.ref q1, .int 0, .int 0, .int 0, .int 0, .int 0, .int 0, .int 0, .int 0, .int 0, .int 0, .long 0])), (q5, .inr (3, [.null, .int 0, .int 0]))] := hD
  refine lv_dup hx hb d_N_init_34 rfl ?_
  refine clIN (D := (dC, dI)) (n := 0) (As := []) ⟨hx, hb, hml, hown, ht⟩ (k_Decimal l dC dI X q5 H.size) (hX.nest 4 rfl) q_113 q_725 q_726 (by decide +kernel) ⟨rfl, rfl, Nat.le_of_ble_eq_true rfl, Nat.le_of_ble_eq_true rfl⟩ hK hP hD hS hA hX [4] [0, 1, 2, 3] rfl (wr := [(h0, .inr (0, [.ref q1, .ref q4, .null, .null, .null, .null, .null, .null, .int 0, .long 0, .int 0])), (q1, .inr (1, [.ref q2, .int 0])), (q2, .inl (k3, 1200, .inl (fun _ => 0))), (q4, .inr (2, [.ref q1, .int 0, .int 0, .int 0, .int 0, .int 0, .int 0, .int 0, .int 0, .int 0, .int 0, .long 0]))]) rfl (by decide) (by decide) (by decide) rfl hl.1 rfl (lv_room (Nat.le_of_ble_eq_true rfl)) d_N_init_35 ⟨Nat.le_of_ble_eq_true rfl, Nat.le_of_ble_eq_true rfl⟩ (fun w9 ty9 H locs hz hK hP hD hS => ?_)
  obtain ⟨q6, k7, rfl, rfl⟩ := hz
  have hK : va_K (dC, dI) classes [(k3, .byte), (k7, .int)] s := hK
  have hP : va_P (dC, dI) classes [(h0, .inr (0, [.ref q1, .ref q4, .null, .null, .null, .null, .null, .null, .int 0, .long 0, .int 0])), (q1, .inr (1, [.ref q2, .int 0])), (q2, .inl (k3, 1200, .inl (fun _ => 0))), (q4, .inr (2, [.ref q1, .int 0, .int 0, .int 0, .int 0, .int 0, .int 0, .int 0, .int 0, .int 0, .int 0, .long 0])), (q5, .inr (3, [.ref q6, .int 35, .int 35])), (q6, .inl (k7, 208, .inl (fun _ => 0)))] H := hP
  have hD : va_D A [(h0, .inr (0, [.ref q1, .ref q4, .null, .null, .null, .null, .null, .null, .int 0, .long 0, .int 0])), (q1, .inr (1, [.ref q2, .int 0])), (q2, .inl (k3, 1200, .inl (fun _ => 0))), (q4, .inr (2, [.ref q1, .int 0, .int 0, .int 0, .int 0, .int 0, .int 0, .int 0, .int 0, .int 0, .int 0, .long 0])), (q5, .inr (3, [.ref q6, .int 35, .int 35])), (q6, .inl (k7, 208, .inl (fun _ => 0)))] := hD
  refine va_putF (D := (dC, dI)) (ci := 0) (v := .ref q5) (ty := (.object "NumeralTexts$Decimal")) (C := R_N) (T := F_N) (N := 11) hx hb ht i_N t_N t_N_ok n_N hown hK hP hD hS 0 rfl rfl 2 (by decide) (ht _ q_202) (fun _ h9 => h9) rfl hin rfl (t_N_ok 2 (by decide)) rfl rfl (Nat.le_of_ble_eq_true rfl) d_N_init_38 (fun H locs hP hD hS => ?_)
  have hP : va_P (dC, dI) classes [(h0, .inr (0, [.ref q1, .ref q4, .ref q5, .null, .null, .null, .null, .null, .int 0, .long 0, .int 0])), (q1, .inr (1, [.ref q2, .int 0])), (q2, .inl (k3, 1200, .inl (fun _ => 0))), (q4, .inr (2, [.ref q1, .int 0, .int 0, .int 0, .int 0, .int 0, .int 0, .int 0, .int 0, .int 0, .int 0, .long 0])), (q5, .inr (3, [.ref q6, .int 35, .int 35])), (q6, .inl (k7, 208, .inl (fun _ => 0)))] H := hP
  have hD : va_D A [(h0, .inr (0, [.ref q1, .ref q4, .ref q5, .null, .null, .null, .null, .null, .int 0, .long 0, .int 0])), (q1, .inr (1, [.ref q2, .int 0])), (q2, .inl (k3, 1200, .inl (fun _ => 0))), (q4, .inr (2, [.ref q1, .int 0, .int 0, .int 0, .int 0, .int 0, .int 0, .int 0, .int 0, .int 0, .int 0, .long 0])), (q5, .inr (3, [.ref q6, .int 35, .int 35])), (q6, .inl (k7, 208, .inl (fun _ => 0)))] := hD
  refine lv_aload_n hx hb d_N_init_41 rfl (lv_at hl 0 rfl) ?_
  refine va_new (D := (dC, dI)) (ci := 3) (C := R_Decimal) (T := F_Decimal) (N := 3) (fs := [.null, .int 0, .int 0]) hx hb ht i_Decimal t_Decimal t_Decimal_ok hown (ht _ q_723) (ht _ q_724) (ht _ q_113) hK hP hD hS hA rfl (by decide) (Nat.le_of_ble_eq_true rfl) (Nat.le_of_ble_eq_true rfl) d_N_init_42 (fun q8 H hP hD hS => ?_)
  have hP : va_P (dC, dI) classes [(h0, .inr (0, [.ref q1, .ref q4, .ref q5, .null, .null, .null, .null, .null, .int 0, .long 0, .int 0])), (q1, .inr (1, [.ref q2, .int 0])), (q2, .inl (k3, 1200, .inl (fun _ => 0))), (q4, .inr (2, [.ref q1, .int 0, .int 0, .int 0, .int 0, .int 0, .int 0, .int 0, .int 0, .int 0, .int 0, .long 0])), (q5, .inr (3, [.ref q6, .int 35, .int 35])), (q6, .inl (k7, 208, .inl (fun _ => 0))), (q8, .inr (3, [.null, .int 0, .int 0]))] H := hP
  have hD : va_D A [(h0, .inr (0, [.ref q1, .ref q4, .ref q5, .null, .null, .null, .null, .null, .int 0, .long 0, .int 0])), (q1, .inr (1, [.ref q2, .int 0])), (q2, .inl (k3, 1200, .inl (fun _ => 0))), (q4, .inr (2, [.ref q1, .int 0, .int 0, .int 0, .int 0, .int 0, .int 0, .int 0, .int 0, .int 0, .int 0, .long 0])), (q5, .inr (3, [.ref q6, .int 35, .int 35])), (q6, .inl (k7, 208, .inl (fun _ => 0))), (q8, .inr (3, [.null, .int 0, .int 0]))] := hD
  refine lv_dup hx hb d_N_init_45 rfl ?_
  refine clIN (D := (dC, dI)) (n := 0) (As := []) ⟨hx, hb, hml, hown, ht⟩ (k_Decimal l dC dI X q8 H.size) (hX.nest 4 rfl) q_113 q_725 q_726 (by decide +kernel) ⟨rfl, rfl, Nat.le_of_ble_eq_true rfl, Nat.le_of_ble_eq_true rfl⟩ hK hP hD hS hA hX [6] [0, 1, 2, 3, 4, 5] rfl (wr := [(h0, .inr (0, [.ref q1, .ref q4, .ref q5, .null, .null, .null, .null, .null, .int 0, .long 0, .int 0])), (q1, .inr (1, [.ref q2, .int 0])), (q2, .inl (k3, 1200, .inl (fun _ => 0))), (q4, .inr (2, [.ref q1, .int 0, .int 0, .int 0, .int 0, .int 0, .int 0, .int 0, .int 0, .int 0, .int 0, .long 0])), (q5, .inr (3, [.ref q6, .int 35, .int 35])), (q6, .inl (k7, 208, .inl (fun _ => 0)))]) rfl (by decide) (by decide) (by decide) rfl hl.1 rfl (lv_room (Nat.le_of_ble_eq_true rfl)) d_N_init_46 ⟨Nat.le_of_ble_eq_true rfl, Nat.le_of_ble_eq_true rfl⟩ (fun w9 ty9 H locs hz hK hP hD hS => ?_)
  obtain ⟨q9, k10, rfl, rfl⟩ := hz
  have hK : va_K (dC, dI) classes [(k3, .byte), (k7, .int), (k10, .int)] s := hK
  have hP : va_P (dC, dI) classes [(h0, .inr (0, [.ref q1, .ref q4, .ref q5, .null, .null, .null, .null, .null, .int 0, .long 0, .int 0])), (q1, .inr (1, [.ref q2, .int 0])), (q2, .inl (k3, 1200, .inl (fun _ => 0))), (q4, .inr (2, [.ref q1, .int 0, .int 0, .int 0, .int 0, .int 0, .int 0, .int 0, .int 0, .int 0, .int 0, .long 0])), (q5, .inr (3, [.ref q6, .int 35, .int 35])), (q6, .inl (k7, 208, .inl (fun _ => 0))), (q8, .inr (3, [.ref q9, .int 35, .int 35])), (q9, .inl (k10, 208, .inl (fun _ => 0)))] H := hP
  have hD : va_D A [(h0, .inr (0, [.ref q1, .ref q4, .ref q5, .null, .null, .null, .null, .null, .int 0, .long 0, .int 0])), (q1, .inr (1, [.ref q2, .int 0])), (q2, .inl (k3, 1200, .inl (fun _ => 0))), (q4, .inr (2, [.ref q1, .int 0, .int 0, .int 0, .int 0, .int 0, .int 0, .int 0, .int 0, .int 0, .int 0, .long 0])), (q5, .inr (3, [.ref q6, .int 35, .int 35])), (q6, .inl (k7, 208, .inl (fun _ => 0))), (q8, .inr (3, [.ref q9, .int 35, .int 35])), (q9, .inl (k10, 208, .inl (fun _ => 0)))] := hD
  refine va_putF (D := (dC, dI)) (ci := 0) (v := .ref q8) (ty := (.object "NumeralTexts$Decimal")) (C := R_N) (T := F_N) (N := 11) hx hb ht i_N t_N t_N_ok n_N hown hK hP hD hS 0 rfl rfl 3 (by decide) (ht _ q_464) (fun _ h9 => h9) rfl hin rfl (t_N_ok 3 (by decide)) rfl rfl (Nat.le_of_ble_eq_true rfl) d_N_init_49 (fun H locs hP hD hS => ?_)
  have hP : va_P (dC, dI) classes [(h0, .inr (0, [.ref q1, .ref q4, .ref q5, .ref q8, .null, .null, .null, .null, .int 0, .long 0, .int 0])), (q1, .inr (1, [.ref q2, .int 0])), (q2, .inl (k3, 1200, .inl (fun _ => 0))), (q4, .inr (2, [.ref q1, .int 0, .int 0, .int 0, .int 0, .int 0, .int 0, .int 0, .int 0, .int 0, .int 0, .long 0])), (q5, .inr (3, [.ref q6, .int 35, .int 35])), (q6, .inl (k7, 208, .inl (fun _ => 0))), (q8, .inr (3, [.ref q9, .int 35, .int 35])), (q9, .inl (k10, 208, .inl (fun _ => 0)))] H := hP
  have hD : va_D A [(h0, .inr (0, [.ref q1, .ref q4, .ref q5, .ref q8, .null, .null, .null, .null, .int 0, .long 0, .int 0])), (q1, .inr (1, [.ref q2, .int 0])), (q2, .inl (k3, 1200, .inl (fun _ => 0))), (q4, .inr (2, [.ref q1, .int 0, .int 0, .int 0, .int 0, .int 0, .int 0, .int 0, .int 0, .int 0, .int 0, .long 0])), (q5, .inr (3, [.ref q6, .int 35, .int 35])), (q6, .inl (k7, 208, .inl (fun _ => 0))), (q8, .inr (3, [.ref q9, .int 35, .int 35])), (q9, .inl (k10, 208, .inl (fun _ => 0)))] := hD
  refine lv_aload_n hx hb d_N_init_52 rfl (lv_at hl 0 rfl) ?_
  refine va_new (D := (dC, dI)) (ci := 4) (C := R_Size) (T := F_Size) (N := 3) (fs := [.long 0, .int 0, .int 0]) hx hb ht i_Size t_Size t_Size_ok hown (ht _ q_727) (ht _ q_728) (ht _ q_91) hK hP hD hS hA rfl (by decide) (Nat.le_of_ble_eq_true rfl) (Nat.le_of_ble_eq_true rfl) d_N_init_53 (fun q11 H hP hD hS => ?_)
  have hP : va_P (dC, dI) classes [(h0, .inr (0, [.ref q1, .ref q4, .ref q5, .ref q8, .null, .null, .null, .null, .int 0, .long 0, .int 0])), (q1, .inr (1, [.ref q2, .int 0])), (q2, .inl (k3, 1200, .inl (fun _ => 0))), (q4, .inr (2, [.ref q1, .int 0, .int 0, .int 0, .int 0, .int 0, .int 0, .int 0, .int 0, .int 0, .int 0, .long 0])), (q5, .inr (3, [.ref q6, .int 35, .int 35])), (q6, .inl (k7, 208, .inl (fun _ => 0))), (q8, .inr (3, [.ref q9, .int 35, .int 35])), (q9, .inl (k10, 208, .inl (fun _ => 0))), (q11, .inr (4, [.long 0, .int 0, .int 0]))] H := hP
  have hD : va_D A [(h0, .inr (0, [.ref q1, .ref q4, .ref q5, .ref q8, .null, .null, .null, .null, .int 0, .long 0, .int 0])), (q1, .inr (1, [.ref q2, .int 0])), (q2, .inl (k3, 1200, .inl (fun _ => 0))), (q4, .inr (2, [.ref q1, .int 0, .int 0, .int 0, .int 0, .int 0, .int 0, .int 0, .int 0, .int 0, .int 0, .long 0])), (q5, .inr (3, [.ref q6, .int 35, .int 35])), (q6, .inl (k7, 208, .inl (fun _ => 0))), (q8, .inr (3, [.ref q9, .int 35, .int 35])), (q9, .inl (k10, 208, .inl (fun _ => 0))), (q11, .inr (4, [.long 0, .int 0, .int 0]))] := hD
  refine lv_dup hx hb d_N_init_56 rfl ?_
  refine clIN (D := (dC, dI)) (n := 0) (As := []) ⟨hx, hb, hml, hown, ht⟩ (k_Size l dC dI X q11 H.size) (hX.nest 5 rfl) q_91 q_729 q_730 (by decide +kernel) ⟨rfl, rfl, Nat.le_of_ble_eq_true rfl, Nat.le_of_ble_eq_true rfl⟩ hK hP hD hS hA hX [8] [0, 1, 2, 3, 4, 5, 6, 7] rfl (wr := [(h0, .inr (0, [.ref q1, .ref q4, .ref q5, .ref q8, .null, .null, .null, .null, .int 0, .long 0, .int 0])), (q1, .inr (1, [.ref q2, .int 0])), (q2, .inl (k3, 1200, .inl (fun _ => 0))), (q4, .inr (2, [.ref q1, .int 0, .int 0, .int 0, .int 0, .int 0, .int 0, .int 0, .int 0, .int 0, .int 0, .long 0])), (q5, .inr (3, [.ref q6, .int 35, .int 35])), (q6, .inl (k7, 208, .inl (fun _ => 0))), (q8, .inr (3, [.ref q9, .int 35, .int 35])), (q9, .inl (k10, 208, .inl (fun _ => 0)))]) rfl (by decide) (by decide) (by decide) rfl hl.1 rfl (lv_room (Nat.le_of_ble_eq_true rfl)) d_N_init_57 ⟨Nat.le_of_ble_eq_true rfl, Nat.le_of_ble_eq_true rfl⟩ (fun w9 ty9 H locs hz hK hP hD hS => ?_)
  obtain ⟨rfl, rfl⟩ := hz
  have hK : va_K (dC, dI) classes [(k3, .byte), (k7, .int), (k10, .int)] s := hK
  have hP : va_P (dC, dI) classes [(h0, .inr (0, [.ref q1, .ref q4, .ref q5, .ref q8, .null, .null, .null, .null, .int 0, .long 0, .int 0])), (q1, .inr (1, [.ref q2, .int 0])), (q2, .inl (k3, 1200, .inl (fun _ => 0))), (q4, .inr (2, [.ref q1, .int 0, .int 0, .int 0, .int 0, .int 0, .int 0, .int 0, .int 0, .int 0, .int 0, .long 0])), (q5, .inr (3, [.ref q6, .int 35, .int 35])), (q6, .inl (k7, 208, .inl (fun _ => 0))), (q8, .inr (3, [.ref q9, .int 35, .int 35])), (q9, .inl (k10, 208, .inl (fun _ => 0))), (q11, .inr (4, [.long 0, .int 0, .int 0]))] H := hP
  have hD : va_D A [(h0, .inr (0, [.ref q1, .ref q4, .ref q5, .ref q8, .null, .null, .null, .null, .int 0, .long 0, .int 0])), (q1, .inr (1, [.ref q2, .int 0])), (q2, .inl (k3, 1200, .inl (fun _ => 0))), (q4, .inr (2, [.ref q1, .int 0, .int 0, .int 0, .int 0, .int 0, .int 0, .int 0, .int 0, .int 0, .int 0, .long 0])), (q5, .inr (3, [.ref q6, .int 35, .int 35])), (q6, .inl (k7, 208, .inl (fun _ => 0))), (q8, .inr (3, [.ref q9, .int 35, .int 35])), (q9, .inl (k10, 208, .inl (fun _ => 0))), (q11, .inr (4, [.long 0, .int 0, .int 0]))] := hD
  refine va_putF (D := (dC, dI)) (ci := 0) (v := .ref q11) (ty := (.object "NumeralTexts$Size")) (C := R_N) (T := F_N) (N := 11) hx hb ht i_N t_N t_N_ok n_N hown hK hP hD hS 0 rfl rfl 4 (by decide) (ht _ q_176) (fun _ h9 => h9) rfl hin rfl (t_N_ok 4 (by decide)) rfl rfl (Nat.le_of_ble_eq_true rfl) d_N_init_60 (fun H locs hP hD hS => ?_)
  have hP : va_P (dC, dI) classes [(h0, .inr (0, [.ref q1, .ref q4, .ref q5, .ref q8, .ref q11, .null, .null, .null, .int 0, .long 0, .int 0])), (q1, .inr (1, [.ref q2, .int 0])), (q2, .inl (k3, 1200, .inl (fun _ => 0))), (q4, .inr (2, [.ref q1, .int 0, .int 0, .int 0, .int 0, .int 0, .int 0, .int 0, .int 0, .int 0, .int 0, .long 0])), (q5, .inr (3, [.ref q6, .int 35, .int 35])), (q6, .inl (k7, 208, .inl (fun _ => 0))), (q8, .inr (3, [.ref q9, .int 35, .int 35])), (q9, .inl (k10, 208, .inl (fun _ => 0))), (q11, .inr (4, [.long 0, .int 0, .int 0]))] H := hP
  have hD : va_D A [(h0, .inr (0, [.ref q1, .ref q4, .ref q5, .ref q8, .ref q11, .null, .null, .null, .int 0, .long 0, .int 0])), (q1, .inr (1, [.ref q2, .int 0])), (q2, .inl (k3, 1200, .inl (fun _ => 0))), (q4, .inr (2, [.ref q1, .int 0, .int 0, .int 0, .int 0, .int 0, .int 0, .int 0, .int 0, .int 0, .int 0, .long 0])), (q5, .inr (3, [.ref q6, .int 35, .int 35])), (q6, .inl (k7, 208, .inl (fun _ => 0))), (q8, .inr (3, [.ref q9, .int 35, .int 35])), (q9, .inl (k10, 208, .inl (fun _ => 0))), (q11, .inr (4, [.long 0, .int 0, .int 0]))] := hD
  refine lv_aload_n hx hb d_N_init_63 rfl (lv_at hl 0 rfl) ?_
  refine va_new (D := (dC, dI)) (ci := 4) (C := R_Size) (T := F_Size) (N := 3) (fs := [.long 0, .int 0, .int 0]) hx hb ht i_Size t_Size t_Size_ok hown (ht _ q_727) (ht _ q_728) (ht _ q_91) hK hP hD hS hA rfl (by decide) (Nat.le_of_ble_eq_true rfl) (Nat.le_of_ble_eq_true rfl) d_N_init_64 (fun q12 H hP hD hS => ?_)
  have hP : va_P (dC, dI) classes [(h0, .inr (0, [.ref q1, .ref q4, .ref q5, .ref q8, .ref q11, .null, .null, .null, .int 0, .long 0, .int 0])), (q1, .inr (1, [.ref q2, .int 0])), (q2, .inl (k3, 1200, .inl (fun _ => 0))), (q4, .inr (2, [.ref q1, .int 0, .int 0, .int 0, .int 0, .int 0, .int 0, .int 0, .int 0, .int 0, .int 0, .long 0])), (q5, .inr (3, [.ref q6, .int 35, .int 35])), (q6, .inl (k7, 208, .inl (fun _ => 0))), (q8, .inr (3, [.ref q9, .int 35, .int 35])), (q9, .inl (k10, 208, .inl (fun _ => 0))), (q11, .inr (4, [.long 0, .int 0, .int 0])), (q12, .inr (4, [.long 0, .int 0, .int 0]))] H := hP
  have hD : va_D A [(h0, .inr (0, [.ref q1, .ref q4, .ref q5, .ref q8, .ref q11, .null, .null, .null, .int 0, .long 0, .int 0])), (q1, .inr (1, [.ref q2, .int 0])), (q2, .inl (k3, 1200, .inl (fun _ => 0))), (q4, .inr (2, [.ref q1, .int 0, .int 0, .int 0, .int 0, .int 0, .int 0, .int 0, .int 0, .int 0, .int 0, .long 0])), (q5, .inr (3, [.ref q6, .int 35, .int 35])), (q6, .inl (k7, 208, .inl (fun _ => 0))), (q8, .inr (3, [.ref q9, .int 35, .int 35])), (q9, .inl (k10, 208, .inl (fun _ => 0))), (q11, .inr (4, [.long 0, .int 0, .int 0])), (q12, .inr (4, [.long 0, .int 0, .int 0]))] := hD
  refine lv_dup hx hb d_N_init_67 rfl ?_
  refine clIN (D := (dC, dI)) (n := 0) (As := []) ⟨hx, hb, hml, hown, ht⟩ (k_Size l dC dI X q12 H.size) (hX.nest 5 rfl) q_91 q_729 q_730 (by decide +kernel) ⟨rfl, rfl, Nat.le_of_ble_eq_true rfl, Nat.le_of_ble_eq_true rfl⟩ hK hP hD hS hA hX [9] [0, 1, 2, 3, 4, 5, 6, 7, 8] rfl (wr := [(h0, .inr (0, [.ref q1, .ref q4, .ref q5, .ref q8, .ref q11, .null, .null, .null, .int 0, .long 0, .int 0])), (q1, .inr (1, [.ref q2, .int 0])), (q2, .inl (k3, 1200, .inl (fun _ => 0))), (q4, .inr (2, [.ref q1, .int 0, .int 0, .int 0, .int 0, .int 0, .int 0, .int 0, .int 0, .int 0, .int 0, .long 0])), (q5, .inr (3, [.ref q6, .int 35, .int 35])), (q6, .inl (k7, 208, .inl (fun _ => 0))), (q8, .inr (3, [.ref q9, .int 35, .int 35])), (q9, .inl (k10, 208, .inl (fun _ => 0))), (q11, .inr (4, [.long 0, .int 0, .int 0]))]) rfl (by decide) (by decide) (by decide) rfl hl.1 rfl (lv_room (Nat.le_of_ble_eq_true rfl)) d_N_init_68 ⟨Nat.le_of_ble_eq_true rfl, Nat.le_of_ble_eq_true rfl⟩ (fun w9 ty9 H locs hz hK hP hD hS => ?_)
  obtain ⟨rfl, rfl⟩ := hz
  have hK : va_K (dC, dI) classes [(k3, .byte), (k7, .int), (k10, .int)] s := hK
  have hP : va_P (dC, dI) classes [(h0, .inr (0, [.ref q1, .ref q4, .ref q5, .ref q8, .ref q11, .null, .null, .null, .int 0, .long 0, .int 0])), (q1, .inr (1, [.ref q2, .int 0])), (q2, .inl (k3, 1200, .inl (fun _ => 0))), (q4, .inr (2, [.ref q1, .int 0, .int 0, .int 0, .int 0, .int 0, .int 0, .int 0, .int 0, .int 0, .int 0, .long 0])), (q5, .inr (3, [.ref q6, .int 35, .int 35])), (q6, .inl (k7, 208, .inl (fun _ => 0))), (q8, .inr (3, [.ref q9, .int 35, .int 35])), (q9, .inl (k10, 208, .inl (fun _ => 0))), (q11, .inr (4, [.long 0, .int 0, .int 0])), (q12, .inr (4, [.long 0, .int 0, .int 0]))] H := hP
  have hD : va_D A [(h0, .inr (0, [.ref q1, .ref q4, .ref q5, .ref q8, .ref q11, .null, .null, .null, .int 0, .long 0, .int 0])), (q1, .inr (1, [.ref q2, .int 0])), (q2, .inl (k3, 1200, .inl (fun _ => 0))), (q4, .inr (2, [.ref q1, .int 0, .int 0, .int 0, .int 0, .int 0, .int 0, .int 0, .int 0, .int 0, .int 0, .long 0])), (q5, .inr (3, [.ref q6, .int 35, .int 35])), (q6, .inl (k7, 208, .inl (fun _ => 0))), (q8, .inr (3, [.ref q9, .int 35, .int 35])), (q9, .inl (k10, 208, .inl (fun _ => 0))), (q11, .inr (4, [.long 0, .int 0, .int 0])), (q12, .inr (4, [.long 0, .int 0, .int 0]))] := hD
  refine va_putF (D := (dC, dI)) (ci := 0) (v := .ref q12) (ty := (.object "NumeralTexts$Size")) (C := R_N) (T := F_N) (N := 11) hx hb ht i_N t_N t_N_ok n_N hown hK hP hD hS 0 rfl rfl 5 (by decide) (ht _ q_469) (fun _ h9 => h9) rfl hin rfl (t_N_ok 5 (by decide)) rfl rfl (Nat.le_of_ble_eq_true rfl) d_N_init_71 (fun H locs hP hD hS => ?_)
  have hP : va_P (dC, dI) classes [(h0, .inr (0, [.ref q1, .ref q4, .ref q5, .ref q8, .ref q11, .ref q12, .null, .null, .int 0, .long 0, .int 0])), (q1, .inr (1, [.ref q2, .int 0])), (q2, .inl (k3, 1200, .inl (fun _ => 0))), (q4, .inr (2, [.ref q1, .int 0, .int 0, .int 0, .int 0, .int 0, .int 0, .int 0, .int 0, .int 0, .int 0, .long 0])), (q5, .inr (3, [.ref q6, .int 35, .int 35])), (q6, .inl (k7, 208, .inl (fun _ => 0))), (q8, .inr (3, [.ref q9, .int 35, .int 35])), (q9, .inl (k10, 208, .inl (fun _ => 0))), (q11, .inr (4, [.long 0, .int 0, .int 0])), (q12, .inr (4, [.long 0, .int 0, .int 0]))] H := hP
  have hD : va_D A [(h0, .inr (0, [.ref q1, .ref q4, .ref q5, .ref q8, .ref q11, .ref q12, .null, .null, .int 0, .long 0, .int 0])), (q1, .inr (1, [.ref q2, .int 0])), (q2, .inl (k3, 1200, .inl (fun _ => 0))), (q4, .inr (2, [.ref q1, .int 0, .int 0, .int 0, .int 0, .int 0, .int 0, .int 0, .int 0, .int 0, .int 0, .long 0])), (q5, .inr (3, [.ref q6, .int 35, .int 35])), (q6, .inl (k7, 208, .inl (fun _ => 0))), (q8, .inr (3, [.ref q9, .int 35, .int 35])), (q9, .inl (k10, 208, .inl (fun _ => 0))), (q11, .inr (4, [.long 0, .int 0, .int 0])), (q12, .inr (4, [.long 0, .int 0, .int 0]))] := hD
  refine lv_aload_n hx hb d_N_init_74 rfl (lv_at hl 0 rfl) ?_
  refine va_new (D := (dC, dI)) (ci := 5) (C := R_Page) (T := F_Page) (N := 2) (fs := [.null, .int 0]) hx hb ht i_Page t_Page t_Page_ok hown (ht _ q_731) (ht _ q_732) (ht _ q_245) hK hP hD hS hA rfl (by decide) (Nat.le_of_ble_eq_true rfl) (Nat.le_of_ble_eq_true rfl) d_N_init_75 (fun q13 H hP hD hS => ?_)
  have hP : va_P (dC, dI) classes [(h0, .inr (0, [.ref q1, .ref q4, .ref q5, .ref q8, .ref q11, .ref q12, .null, .null, .int 0, .long 0, .int 0])), (q1, .inr (1, [.ref q2, .int 0])), (q2, .inl (k3, 1200, .inl (fun _ => 0))), (q4, .inr (2, [.ref q1, .int 0, .int 0, .int 0, .int 0, .int 0, .int 0, .int 0, .int 0, .int 0, .int 0, .long 0])), (q5, .inr (3, [.ref q6, .int 35, .int 35])), (q6, .inl (k7, 208, .inl (fun _ => 0))), (q8, .inr (3, [.ref q9, .int 35, .int 35])), (q9, .inl (k10, 208, .inl (fun _ => 0))), (q11, .inr (4, [.long 0, .int 0, .int 0])), (q12, .inr (4, [.long 0, .int 0, .int 0])), (q13, .inr (5, [.null, .int 0]))] H := hP
  have hD : va_D A [(h0, .inr (0, [.ref q1, .ref q4, .ref q5, .ref q8, .ref q11, .ref q12, .null, .null, .int 0, .long 0, .int 0])), (q1, .inr (1, [.ref q2, .int 0])), (q2, .inl (k3, 1200, .inl (fun _ => 0))), (q4, .inr (2, [.ref q1, .int 0, .int 0, .int 0, .int 0, .int 0, .int 0, .int 0, .int 0, .int 0, .int 0, .long 0])), (q5, .inr (3, [.ref q6, .int 35, .int 35])), (q6, .inl (k7, 208, .inl (fun _ => 0))), (q8, .inr (3, [.ref q9, .int 35, .int 35])), (q9, .inl (k10, 208, .inl (fun _ => 0))), (q11, .inr (4, [.long 0, .int 0, .int 0])), (q12, .inr (4, [.long 0, .int 0, .int 0])), (q13, .inr (5, [.null, .int 0]))] := hD
  refine lv_dup hx hb d_N_init_78 rfl ?_
  refine clIN (D := (dC, dI)) (n := 0) (As := []) ⟨hx, hb, hml, hown, ht⟩ (k_Page l dC dI X q13 H.size) (hX.nest 6 rfl) q_245 q_733 q_734 (by decide +kernel) ⟨rfl, rfl, Nat.le_of_ble_eq_true rfl, Nat.le_of_ble_eq_true rfl⟩ hK hP hD hS hA hX [10] [0, 1, 2, 3, 4, 5, 6, 7, 8, 9] rfl (wr := [(h0, .inr (0, [.ref q1, .ref q4, .ref q5, .ref q8, .ref q11, .ref q12, .null, .null, .int 0, .long 0, .int 0])), (q1, .inr (1, [.ref q2, .int 0])), (q2, .inl (k3, 1200, .inl (fun _ => 0))), (q4, .inr (2, [.ref q1, .int 0, .int 0, .int 0, .int 0, .int 0, .int 0, .int 0, .int 0, .int 0, .int 0, .long 0])), (q5, .inr (3, [.ref q6, .int 35, .int 35])), (q6, .inl (k7, 208, .inl (fun _ => 0))), (q8, .inr (3, [.ref q9, .int 35, .int 35])), (q9, .inl (k10, 208, .inl (fun _ => 0))), (q11, .inr (4, [.long 0, .int 0, .int 0])), (q12, .inr (4, [.long 0, .int 0, .int 0]))]) rfl (by decide) (by decide) (by decide) rfl hl.1 rfl (lv_room (Nat.le_of_ble_eq_true rfl)) d_N_init_79 ⟨Nat.le_of_ble_eq_true rfl, Nat.le_of_ble_eq_true rfl⟩ (fun w9 ty9 H locs hz hK hP hD hS => ?_)
  obtain ⟨q14, k15, rfl, rfl⟩ := hz
  have hK : va_K (dC, dI) classes [(k3, .byte), (k7, .int), (k10, .int), (k15, .byte)] s := hK
  have hP : va_P (dC, dI) classes [(h0, .inr (0, [.ref q1, .ref q4, .ref q5, .ref q8, .ref q11, .ref q12, .null, .null, .int 0, .long 0, .int 0])), (q1, .inr (1, [.ref q2, .int 0])), (q2, .inl (k3, 1200, .inl (fun _ => 0))), (q4, .inr (2, [.ref q1, .int 0, .int 0, .int 0, .int 0, .int 0, .int 0, .int 0, .int 0, .int 0, .int 0, .long 0])), (q5, .inr (3, [.ref q6, .int 35, .int 35])), (q6, .inl (k7, 208, .inl (fun _ => 0))), (q8, .inr (3, [.ref q9, .int 35, .int 35])), (q9, .inl (k10, 208, .inl (fun _ => 0))), (q11, .inr (4, [.long 0, .int 0, .int 0])), (q12, .inr (4, [.long 0, .int 0, .int 0])), (q13, .inr (5, [.ref q14, .int 0])), (q14, .inl (k15, 420, .inl (fun _ => 0)))] H := hP
  have hD : va_D A [(h0, .inr (0, [.ref q1, .ref q4, .ref q5, .ref q8, .ref q11, .ref q12, .null, .null, .int 0, .long 0, .int 0])), (q1, .inr (1, [.ref q2, .int 0])), (q2, .inl (k3, 1200, .inl (fun _ => 0))), (q4, .inr (2, [.ref q1, .int 0, .int 0, .int 0, .int 0, .int 0, .int 0, .int 0, .int 0, .int 0, .int 0, .long 0])), (q5, .inr (3, [.ref q6, .int 35, .int 35])), (q6, .inl (k7, 208, .inl (fun _ => 0))), (q8, .inr (3, [.ref q9, .int 35, .int 35])), (q9, .inl (k10, 208, .inl (fun _ => 0))), (q11, .inr (4, [.long 0, .int 0, .int 0])), (q12, .inr (4, [.long 0, .int 0, .int 0])), (q13, .inr (5, [.ref q14, .int 0])), (q14, .inl (k15, 420, .inl (fun _ => 0)))] := hD
  refine va_putF (D := (dC, dI)) (ci := 0) (v := .ref q13) (ty := (.object "NumeralTexts$Page")) (C := R_N) (T := F_N) (N := 11) hx hb ht i_N t_N t_N_ok n_N hown hK hP hD hS 0 rfl rfl 6 (by decide) (ht _ q_429) (fun _ h9 => h9) rfl hin rfl (t_N_ok 6 (by decide)) rfl rfl (Nat.le_of_ble_eq_true rfl) d_N_init_82 (fun H locs hP hD hS => ?_)
  have hP : va_P (dC, dI) classes [(h0, .inr (0, [.ref q1, .ref q4, .ref q5, .ref q8, .ref q11, .ref q12, .ref q13, .null, .int 0, .long 0, .int 0])), (q1, .inr (1, [.ref q2, .int 0])), (q2, .inl (k3, 1200, .inl (fun _ => 0))), (q4, .inr (2, [.ref q1, .int 0, .int 0, .int 0, .int 0, .int 0, .int 0, .int 0, .int 0, .int 0, .int 0, .long 0])), (q5, .inr (3, [.ref q6, .int 35, .int 35])), (q6, .inl (k7, 208, .inl (fun _ => 0))), (q8, .inr (3, [.ref q9, .int 35, .int 35])), (q9, .inl (k10, 208, .inl (fun _ => 0))), (q11, .inr (4, [.long 0, .int 0, .int 0])), (q12, .inr (4, [.long 0, .int 0, .int 0])), (q13, .inr (5, [.ref q14, .int 0])), (q14, .inl (k15, 420, .inl (fun _ => 0)))] H := hP
  have hD : va_D A [(h0, .inr (0, [.ref q1, .ref q4, .ref q5, .ref q8, .ref q11, .ref q12, .ref q13, .null, .int 0, .long 0, .int 0])), (q1, .inr (1, [.ref q2, .int 0])), (q2, .inl (k3, 1200, .inl (fun _ => 0))), (q4, .inr (2, [.ref q1, .int 0, .int 0, .int 0, .int 0, .int 0, .int 0, .int 0, .int 0, .int 0, .int 0, .long 0])), (q5, .inr (3, [.ref q6, .int 35, .int 35])), (q6, .inl (k7, 208, .inl (fun _ => 0))), (q8, .inr (3, [.ref q9, .int 35, .int 35])), (q9, .inl (k10, 208, .inl (fun _ => 0))), (q11, .inr (4, [.long 0, .int 0, .int 0])), (q12, .inr (4, [.long 0, .int 0, .int 0])), (q13, .inr (5, [.ref q14, .int 0])), (q14, .inl (k15, 420, .inl (fun _ => 0)))] := hD
  refine lv_aload_n hx hb d_N_init_85 rfl (lv_at hl 0 rfl) ?_
  refine va_new (D := (dC, dI)) (ci := 6) (C := R_Writer) (T := F_Writer) (N := 8) (fs := [.null, .null, .null, .int 0, .int 0, .int 0, .int 0, .int 0]) hx hb ht i_Writer t_Writer t_Writer_ok hown (ht _ q_735) (ht _ q_736) (ht _ q_239) hK hP hD hS hA rfl (by decide) (Nat.le_of_ble_eq_true rfl) (Nat.le_of_ble_eq_true rfl) d_N_init_86 (fun q16 H hP hD hS => ?_)
  have hP : va_P (dC, dI) classes [(h0, .inr (0, [.ref q1, .ref q4, .ref q5, .ref q8, .ref q11, .ref q12, .ref q13, .null, .int 0, .long 0, .int 0])), (q1, .inr (1, [.ref q2, .int 0])), (q2, .inl (k3, 1200, .inl (fun _ => 0))), (q4, .inr (2, [.ref q1, .int 0, .int 0, .int 0, .int 0, .int 0, .int 0, .int 0, .int 0, .int 0, .int 0, .long 0])), (q5, .inr (3, [.ref q6, .int 35, .int 35])), (q6, .inl (k7, 208, .inl (fun _ => 0))), (q8, .inr (3, [.ref q9, .int 35, .int 35])), (q9, .inl (k10, 208, .inl (fun _ => 0))), (q11, .inr (4, [.long 0, .int 0, .int 0])), (q12, .inr (4, [.long 0, .int 0, .int 0])), (q13, .inr (5, [.ref q14, .int 0])), (q14, .inl (k15, 420, .inl (fun _ => 0))), (q16, .inr (6, [.null, .null, .null, .int 0, .int 0, .int 0, .int 0, .int 0]))] H := hP
  have hD : va_D A [(h0, .inr (0, [.ref q1, .ref q4, .ref q5, .ref q8, .ref q11, .ref q12, .ref q13, .null, .int 0, .long 0, .int 0])), (q1, .inr (1, [.ref q2, .int 0])), (q2, .inl (k3, 1200, .inl (fun _ => 0))), (q4, .inr (2, [.ref q1, .int 0, .int 0, .int 0, .int 0, .int 0, .int 0, .int 0, .int 0, .int 0, .int 0, .long 0])), (q5, .inr (3, [.ref q6, .int 35, .int 35])), (q6, .inl (k7, 208, .inl (fun _ => 0))), (q8, .inr (3, [.ref q9, .int 35, .int 35])), (q9, .inl (k10, 208, .inl (fun _ => 0))), (q11, .inr (4, [.long 0, .int 0, .int 0])), (q12, .inr (4, [.long 0, .int 0, .int 0])), (q13, .inr (5, [.ref q14, .int 0])), (q14, .inl (k15, 420, .inl (fun _ => 0))), (q16, .inr (6, [.null, .null, .null, .int 0, .int 0, .int 0, .int 0, .int 0]))] := hD
  refine lv_dup hx hb d_N_init_89 rfl ?_
  refine lv_aload_n hx hb d_N_init_90 rfl (lv_at hl 0 rfl) ?_
  refine va_get (D := (dC, dI)) (ci := 0) (v := .ref q13) (C := R_N) (T := F_N) (N := 11) hx hb ht i_N hown hK hP 0 rfl rfl 6 (by decide) (ht _ q_429) (fun _ h9 => h9) rfl d_N_init_91 ?_
  refine lv_aload_n hx hb d_N_init_94 rfl (lv_at hl 0 rfl) ?_
  refine va_get (D := (dC, dI)) (ci := 0) (v := .ref q8) (C := R_N) (T := F_N) (N := 11) hx hb ht i_N hown hK hP 0 rfl rfl 3 (by decide) (ht _ q_464) (fun _ h9 => h9) rfl d_N_init_95 ?_
  refine clI (D := (dC, dI)) (n := 2) (As := [.ref q13, .ref q8]) ⟨hx, hb, hml, hown, ht⟩ (k_Writer l dC dI X q16 H.size q13 q8) (ht _ q_737) q_239 q_738 q_739 (by decide +kernel) ⟨rfl, rfl, Nat.le_of_ble_eq_true rfl, Nat.le_of_ble_eq_true rfl⟩ hK hP hD hS hA hX [12] [0, 1, 2, 3, 4, 5, 6, 7, 8, 9, 10, 11] rfl (wr := [(h0, .inr (0, [.ref q1, .ref q4, .ref q5, .ref q8, .ref q11, .ref q12, .ref q13, .null, .int 0, .long 0, .int 0])), (q1, .inr (1, [.ref q2, .int 0])), (q2, .inl (k3, 1200, .inl (fun _ => 0))), (q4, .inr (2, [.ref q1, .int 0, .int 0, .int 0, .int 0, .int 0, .int 0, .int 0, .int 0, .int 0, .int 0, .long 0])), (q5, .inr (3, [.ref q6, .int 35, .int 35])), (q6, .inl (k7, 208, .inl (fun _ => 0))), (q8, .inr (3, [.ref q9, .int 35, .int 35])), (q9, .inl (k10, 208, .inl (fun _ => 0))), (q11, .inr (4, [.long 0, .int 0, .int 0])), (q12, .inr (4, [.long 0, .int 0, .int 0])), (q13, .inr (5, [.ref q14, .int 0])), (q14, .inl (k15, 420, .inl (fun _ => 0)))]) rfl (by decide) (by decide) (by decide) rfl hl.1 rfl (lv_room (Nat.le_of_ble_eq_true rfl)) d_N_init_98 ⟨Nat.le_of_ble_eq_true rfl, Nat.le_of_ble_eq_true rfl⟩ (fun w9 ty9 H locs hz hK hP hD hS => ?_)
  obtain ⟨q17, k18, rfl, rfl⟩ := hz
  have hK : va_K (dC, dI) classes [(k3, .byte), (k7, .int), (k10, .int), (k15, .byte), (k18, .byte)] s := hK
  have hP : va_P (dC, dI) classes [(h0, .inr (0, [.ref q1, .ref q4, .ref q5, .ref q8, .ref q11, .ref q12, .ref q13, .null, .int 0, .long 0, .int 0])), (q1, .inr (1, [.ref q2, .int 0])), (q2, .inl (k3, 1200, .inl (fun _ => 0))), (q4, .inr (2, [.ref q1, .int 0, .int 0, .int 0, .int 0, .int 0, .int 0, .int 0, .int 0, .int 0, .int 0, .long 0])), (q5, .inr (3, [.ref q6, .int 35, .int 35])), (q6, .inl (k7, 208, .inl (fun _ => 0))), (q8, .inr (3, [.ref q9, .int 35, .int 35])), (q9, .inl (k10, 208, .inl (fun _ => 0))), (q11, .inr (4, [.long 0, .int 0, .int 0])), (q12, .inr (4, [.long 0, .int 0, .int 0])), (q13, .inr (5, [.ref q14, .int 0])), (q14, .inl (k15, 420, .inl (fun _ => 0))), (q16, .inr (6, [.ref q13, .ref q8, .ref q17, .int 0, .int 100, .int 0, .int 0, .int (-1)])), (q17, .inl (k18, 22, .inl (fun _ => 0)))] H := hP
  have hD : va_D A [(h0, .inr (0, [.ref q1, .ref q4, .ref q5, .ref q8, .ref q11, .ref q12, .ref q13, .null, .int 0, .long 0, .int 0])), (q1, .inr (1, [.ref q2, .int 0])), (q2, .inl (k3, 1200, .inl (fun _ => 0))), (q4, .inr (2, [.ref q1, .int 0, .int 0, .int 0, .int 0, .int 0, .int 0, .int 0, .int 0, .int 0, .int 0, .long 0])), (q5, .inr (3, [.ref q6, .int 35, .int 35])), (q6, .inl (k7, 208, .inl (fun _ => 0))), (q8, .inr (3, [.ref q9, .int 35, .int 35])), (q9, .inl (k10, 208, .inl (fun _ => 0))), (q11, .inr (4, [.long 0, .int 0, .int 0])), (q12, .inr (4, [.long 0, .int 0, .int 0])), (q13, .inr (5, [.ref q14, .int 0])), (q14, .inl (k15, 420, .inl (fun _ => 0))), (q16, .inr (6, [.ref q13, .ref q8, .ref q17, .int 0, .int 100, .int 0, .int 0, .int (-1)])), (q17, .inl (k18, 22, .inl (fun _ => 0)))] := hD
  refine va_putF (D := (dC, dI)) (ci := 0) (v := .ref q16) (ty := (.object "NumeralTexts$Writer")) (C := R_N) (T := F_N) (N := 11) hx hb ht i_N t_N t_N_ok n_N hown hK hP hD hS 0 rfl rfl 7 (by decide) (ht _ q_424) (fun _ h9 => h9) rfl hin rfl (t_N_ok 7 (by decide)) rfl rfl (Nat.le_of_ble_eq_true rfl) d_N_init_101 (fun H locs hP hD hS => ?_)
  have hP : va_P (dC, dI) classes [(h0, .inr (0, [.ref q1, .ref q4, .ref q5, .ref q8, .ref q11, .ref q12, .ref q13, .ref q16, .int 0, .long 0, .int 0])), (q1, .inr (1, [.ref q2, .int 0])), (q2, .inl (k3, 1200, .inl (fun _ => 0))), (q4, .inr (2, [.ref q1, .int 0, .int 0, .int 0, .int 0, .int 0, .int 0, .int 0, .int 0, .int 0, .int 0, .long 0])), (q5, .inr (3, [.ref q6, .int 35, .int 35])), (q6, .inl (k7, 208, .inl (fun _ => 0))), (q8, .inr (3, [.ref q9, .int 35, .int 35])), (q9, .inl (k10, 208, .inl (fun _ => 0))), (q11, .inr (4, [.long 0, .int 0, .int 0])), (q12, .inr (4, [.long 0, .int 0, .int 0])), (q13, .inr (5, [.ref q14, .int 0])), (q14, .inl (k15, 420, .inl (fun _ => 0))), (q16, .inr (6, [.ref q13, .ref q8, .ref q17, .int 0, .int 100, .int 0, .int 0, .int (-1)])), (q17, .inl (k18, 22, .inl (fun _ => 0)))] H := hP
  have hD : va_D A [(h0, .inr (0, [.ref q1, .ref q4, .ref q5, .ref q8, .ref q11, .ref q12, .ref q13, .ref q16, .int 0, .long 0, .int 0])), (q1, .inr (1, [.ref q2, .int 0])), (q2, .inl (k3, 1200, .inl (fun _ => 0))), (q4, .inr (2, [.ref q1, .int 0, .int 0, .int 0, .int 0, .int 0, .int 0, .int 0, .int 0, .int 0, .int 0, .long 0])), (q5, .inr (3, [.ref q6, .int 35, .int 35])), (q6, .inl (k7, 208, .inl (fun _ => 0))), (q8, .inr (3, [.ref q9, .int 35, .int 35])), (q9, .inl (k10, 208, .inl (fun _ => 0))), (q11, .inr (4, [.long 0, .int 0, .int 0])), (q12, .inr (4, [.long 0, .int 0, .int 0])), (q13, .inr (5, [.ref q14, .int 0])), (q14, .inl (k15, 420, .inl (fun _ => 0))), (q16, .inr (6, [.ref q13, .ref q8, .ref q17, .int 0, .int 100, .int 0, .int 0, .int (-1)])), (q17, .inl (k18, 22, .inl (fun _ => 0)))] := hD
  refine lv_aload_n hx hb d_N_init_104 rfl (lv_at hl 0 rfl) ?_
  refine lv_iconst (v := 1) hx hb d_N_init_105 (by decide) ?_
  refine va_put (D := (dC, dI)) (ci := 0) (v := .int 1) (ty := .int) (C := R_N) (T := F_N) (N := 11) hx hb ht i_N t_N t_N_ok n_N hown hK hP hD hS 0 rfl rfl 8 (by decide) (ht _ q_67) (fun _ h9 => h9) rfl (t_N_ok 8 (by decide)) rfl rfl (Nat.le_of_ble_eq_true rfl) d_N_init_106 (fun H locs hP hD hS => ?_)
  have hP : va_P (dC, dI) classes [(h0, .inr (0, [.ref q1, .ref q4, .ref q5, .ref q8, .ref q11, .ref q12, .ref q13, .ref q16, .int 1, .long 0, .int 0])), (q1, .inr (1, [.ref q2, .int 0])), (q2, .inl (k3, 1200, .inl (fun _ => 0))), (q4, .inr (2, [.ref q1, .int 0, .int 0, .int 0, .int 0, .int 0, .int 0, .int 0, .int 0, .int 0, .int 0, .long 0])), (q5, .inr (3, [.ref q6, .int 35, .int 35])), (q6, .inl (k7, 208, .inl (fun _ => 0))), (q8, .inr (3, [.ref q9, .int 35, .int 35])), (q9, .inl (k10, 208, .inl (fun _ => 0))), (q11, .inr (4, [.long 0, .int 0, .int 0])), (q12, .inr (4, [.long 0, .int 0, .int 0])), (q13, .inr (5, [.ref q14, .int 0])), (q14, .inl (k15, 420, .inl (fun _ => 0))), (q16, .inr (6, [.ref q13, .ref q8, .ref q17, .int 0, .int 100, .int 0, .int 0, .int (-1)])), (q17, .inl (k18, 22, .inl (fun _ => 0)))] H := hP
  have hD : va_D A [(h0, .inr (0, [.ref q1, .ref q4, .ref q5, .ref q8, .ref q11, .ref q12, .ref q13, .ref q16, .int 1, .long 0, .int 0])), (q1, .inr (1, [.ref q2, .int 0])), (q2, .inl (k3, 1200, .inl (fun _ => 0))), (q4, .inr (2, [.ref q1, .int 0, .int 0, .int 0, .int 0, .int 0, .int 0, .int 0, .int 0, .int 0, .int 0, .long 0])), (q5, .inr (3, [.ref q6, .int 35, .int 35])), (q6, .inl (k7, 208, .inl (fun _ => 0))), (q8, .inr (3, [.ref q9, .int 35, .int 35])), (q9, .inl (k10, 208, .inl (fun _ => 0))), (q11, .inr (4, [.long 0, .int 0, .int 0])), (q12, .inr (4, [.long 0, .int 0, .int 0])), (q13, .inr (5, [.ref q14, .int 0])), (q14, .inl (k15, 420, .inl (fun _ => 0))), (q16, .inr (6, [.ref q13, .ref q8, .ref q17, .int 0, .int 100, .int 0, .int 0, .int (-1)])), (q17, .inl (k18, 22, .inl (fun _ => 0)))] := hD
  refine lv_aload_n hx hb d_N_init_109 rfl (lv_at hl 0 rfl) ?_
  refine lv_lconst (v := 0) hx hb d_N_init_110 (by decide) ?_
  refine va_put (D := (dC, dI)) (ci := 0) (v := .long 0) (ty := .long) (C := R_N) (T := F_N) (N := 11) hx hb ht i_N t_N t_N_ok n_N hown hK hP hD hS 0 rfl rfl 9 (by decide) (ht _ q_68) (fun _ h9 => h9) rfl (t_N_ok 9 (by decide)) rfl rfl (Nat.le_of_ble_eq_true rfl) d_N_init_111 (fun H locs hP hD hS => ?_)
  have hP : va_P (dC, dI) classes [(h0, .inr (0, [.ref q1, .ref q4, .ref q5, .ref q8, .ref q11, .ref q12, .ref q13, .ref q16, .int 1, .long 0, .int 0])), (q1, .inr (1, [.ref q2, .int 0])), (q2, .inl (k3, 1200, .inl (fun _ => 0))), (q4, .inr (2, [.ref q1, .int 0, .int 0, .int 0, .int 0, .int 0, .int 0, .int 0, .int 0, .int 0, .int 0, .long 0])), (q5, .inr (3, [.ref q6, .int 35, .int 35])), (q6, .inl (k7, 208, .inl (fun _ => 0))), (q8, .inr (3, [.ref q9, .int 35, .int 35])), (q9, .inl (k10, 208, .inl (fun _ => 0))), (q11, .inr (4, [.long 0, .int 0, .int 0])), (q12, .inr (4, [.long 0, .int 0, .int 0])), (q13, .inr (5, [.ref q14, .int 0])), (q14, .inl (k15, 420, .inl (fun _ => 0))), (q16, .inr (6, [.ref q13, .ref q8, .ref q17, .int 0, .int 100, .int 0, .int 0, .int (-1)])), (q17, .inl (k18, 22, .inl (fun _ => 0)))] H := hP
  have hD : va_D A [(h0, .inr (0, [.ref q1, .ref q4, .ref q5, .ref q8, .ref q11, .ref q12, .ref q13, .ref q16, .int 1, .long 0, .int 0])), (q1, .inr (1, [.ref q2, .int 0])), (q2, .inl (k3, 1200, .inl (fun _ => 0))), (q4, .inr (2, [.ref q1, .int 0, .int 0, .int 0, .int 0, .int 0, .int 0, .int 0, .int 0, .int 0, .int 0, .long 0])), (q5, .inr (3, [.ref q6, .int 35, .int 35])), (q6, .inl (k7, 208, .inl (fun _ => 0))), (q8, .inr (3, [.ref q9, .int 35, .int 35])), (q9, .inl (k10, 208, .inl (fun _ => 0))), (q11, .inr (4, [.long 0, .int 0, .int 0])), (q12, .inr (4, [.long 0, .int 0, .int 0])), (q13, .inr (5, [.ref q14, .int 0])), (q14, .inl (k15, 420, .inl (fun _ => 0))), (q16, .inr (6, [.ref q13, .ref q8, .ref q17, .int 0, .int 100, .int 0, .int 0, .int (-1)])), (q17, .inl (k18, 22, .inl (fun _ => 0)))] := hD
  refine lv_aload_n hx hb d_N_init_114 rfl (lv_at hl 0 rfl) ?_
  refine lv_iconst (v := 0) hx hb d_N_init_115 (by decide) ?_
  refine va_put (D := (dC, dI)) (ci := 0) (v := .int 0) (ty := .int) (C := R_N) (T := F_N) (N := 11) hx hb ht i_N t_N t_N_ok n_N hown hK hP hD hS 0 rfl rfl 10 (by decide) (ht _ q_69) (fun _ h9 => h9) rfl (t_N_ok 10 (by decide)) rfl rfl (Nat.le_of_ble_eq_true rfl) d_N_init_116 (fun H locs hP hD hS => ?_)
  have hP : va_P (dC, dI) classes [(h0, .inr (0, [.ref q1, .ref q4, .ref q5, .ref q8, .ref q11, .ref q12, .ref q13, .ref q16, .int 1, .long 0, .int 0])), (q1, .inr (1, [.ref q2, .int 0])), (q2, .inl (k3, 1200, .inl (fun _ => 0))), (q4, .inr (2, [.ref q1, .int 0, .int 0, .int 0, .int 0, .int 0, .int 0, .int 0, .int 0, .int 0, .int 0, .long 0])), (q5, .inr (3, [.ref q6, .int 35, .int 35])), (q6, .inl (k7, 208, .inl (fun _ => 0))), (q8, .inr (3, [.ref q9, .int 35, .int 35])), (q9, .inl (k10, 208, .inl (fun _ => 0))), (q11, .inr (4, [.long 0, .int 0, .int 0])), (q12, .inr (4, [.long 0, .int 0, .int 0])), (q13, .inr (5, [.ref q14, .int 0])), (q14, .inl (k15, 420, .inl (fun _ => 0))), (q16, .inr (6, [.ref q13, .ref q8, .ref q17, .int 0, .int 100, .int 0, .int 0, .int (-1)])), (q17, .inl (k18, 22, .inl (fun _ => 0)))] H := hP
  have hD : va_D A [(h0, .inr (0, [.ref q1, .ref q4, .ref q5, .ref q8, .ref q11, .ref q12, .ref q13, .ref q16, .int 1, .long 0, .int 0])), (q1, .inr (1, [.ref q2, .int 0])), (q2, .inl (k3, 1200, .inl (fun _ => 0))), (q4, .inr (2, [.ref q1, .int 0, .int 0, .int 0, .int 0, .int 0, .int 0, .int 0, .int 0, .int 0, .int 0, .long 0])), (q5, .inr (3, [.ref q6, .int 35, .int 35])), (q6, .inl (k7, 208, .inl (fun _ => 0))), (q8, .inr (3, [.ref q9, .int 35, .int 35])), (q9, .inl (k10, 208, .inl (fun _ => 0))), (q11, .inr (4, [.long 0, .int 0, .int 0])), (q12, .inr (4, [.long 0, .int 0, .int 0])), (q13, .inr (5, [.ref q14, .int 0])), (q14, .inl (k15, 420, .inl (fun _ => 0))), (q16, .inr (6, [.ref q13, .ref q8, .ref q17, .int 0, .int 100, .int 0, .int 0, .int (-1)])), (q17, .inl (k18, 22, .inl (fun _ => 0)))] := hD
  refine W.cs (cells' := 13) (slots' := 2094) rfl rfl ?_
  exact W.vret hx hb hr (fun t ht9 hW => ⟨⟨(), rfl, trivial, _, _, ⟨q1, q2, k3, q4, q5, q6, k7, q8, q9, k10, q11, q12, q13, q14, k15, q16, q17, k18, rfl, rfl⟩, by rw [ht9]; exact hP, va_K.moved hW.alike hK, hD⟩, hS.F ht9⟩) hS.2.2 d_N_init_119 hlk
def Z_M (h0 : Nat) (w : va_W) (ty : List (ClassId × FieldType)) : Prop := ∃ (q1 : Nat) (k1 : ClassId) (q2 : Nat) (k2 : ClassId) (q3 : Nat) (k3 : ClassId) (q4 : Nat) (k4 : ClassId) (q5 : Nat) (k5 : ClassId) (q6 : Nat) (k6 : ClassId) (q7 : Nat) (k7 : ClassId) (q8 : Nat) (k8 : ClassId) (q9 : Nat) (k9 : ClassId), w = [(h0, .inr (7, [.ref q1, .int 0, .int 1, .long 0, .int 0, .ref q2, .int 0, .ref q3, .int 0, .int 0, .int 0, .ref q4, .int 0, .int 0, .int 0, .int 0, .int 0, .int 0, .ref q5, .int 0, .ref q6, .int 0, .int 0, .ref q7, .int 0, .int 0, .ref q8, .int 0, .ref q9, .int 0])), (q1, .inl (k1, 1200, .inl (fun _ => 0))), (q2, .inl (k2, 400, .inl (fun _ => 0))), (q3, .inl (k3, 400, .inl (fun _ => 0))), (q4, .inl (k4, 1200, .inl (fun _ => 0))), (q5, .inl (k5, 140, .inl (fun _ => 0))), (q6, .inl (k6, 1300, .inl (fun _ => 0))), (q7, .inl (k7, 1300, .inl (fun _ => 0))), (q8, .inl (k8, 700, .inl (fun _ => 0))), (q9, .inl (k9, 700, .inl (fun _ => 0)))] ∧ ty = [(k1, .byte), (k2, .int), (k3, .int), (k4, .byte), (k5, .int), (k6, .byte), (k7, .byte), (k8, .byte), (k9, .byte)]
set_option maxHeartbeats 4000000 in
set_option maxRecDepth 100000 in
theorem k_M (l : Launch) (dC : Nat → ClassId) (dI : Nat → Nat → Nat) (X : SXT) (h0 : Nat) (sz : Nat) : Met l y_M_init (.code y_M_init b_M_init 1 none :: w0) ({ frames := 1, cells := 9, slots := 7340, locals := 12 }) (va_Pc [.ref h0] (gP (dC, dI) [(h0, .inr (7, [.null, .int 0, .int 0, .long 0, .int 0, .null, .int 0, .null, .int 0, .int 0, .int 0, .null, .int 0, .int 0, .int 0, .int 0, .int 0, .int 0, .null, .int 0, .null, .int 0, .int 0, .null, .int 0, .int 0, .null, .int 0, .null, .int 0]))] [] sz X)) (va_Qv (fun (_ : Unit) => True) (gZ (dC, dI) (Z_M h0) (va_A [(h0, .inr (7, [.null, .int 0, .int 0, .long 0, .int 0, .null, .int 0, .null, .int 0, .int 0, .int 0, .null, .int 0, .int 0, .int 0, .int 0, .int 0, .int 0, .null, .int 0, .null, .int 0, .int 0, .null, .int 0, .int 0, .null, .int 0, .null, .int 0]))] sz)) (va_A [(h0, .inr (7, [.null, .int 0, .int 0, .long 0, .int 0, .null, .int 0, .null, .int 0, .int 0, .int 0, .null, .int 0, .int 0, .int 0, .int 0, .int 0, .int 0, .null, .int 0, .null, .int 0, .int 0, .null, .int 0, .int 0, .null, .int 0, .null, .int 0]))] sz)) 9 7340 (va_A [(h0, .inr (7, [.null, .int 0, .int 0, .long 0, .int 0, .null, .int 0, .null, .int 0, .int 0, .int 0, .null, .int 0, .int 0, .int 0, .int 0, .int 0, .int 0, .null, .int 0, .null, .int 0, .int 0, .null, .int 0, .int 0, .null, .int 0, .null, .int 0]))] sz) := by
  refine Met.ofW (cc := b_M_init) (maxL := 1) (ret := none) (by decide) rfl ?_
  intro p e s m args below meth c s₁ B hml hv
  obtain ⟨rfl, hsz, hP, hK, hD0, hX⟩ := hv
  subst hsz
  have cx : cxx p s m ([.ref h0] : List Value).toArray meth c b_M_init 1 none R_M := ⟨B.exec, B.bytes, B.returns, hml, findClass_of_methodNamed B.named, fun w9 hw => atoms_spec (ws := .code y_M_init b_M_init 1 none :: w0) B.pre w9 (List.mem_cons_of_mem _ hw), B.notSynchronized⟩
  obtain ⟨hx, hb, hr, hml, hown, ht, hlk⟩ := id cx
  have hin : meth.name = "<init>" := (name_of_methodNamed B.named B.method).1
  have hD := hD0.self (sz := s.heap.size)
  generalize hAe : va_A [(h0, .inr (7, [.null, .int 0, .int 0, .long 0, .int 0, .null, .int 0, .null, .int 0, .int 0, .int 0, .null, .int 0, .int 0, .int 0, .int 0, .int 0, .int 0, .null, .int 0, .null, .int 0, .int 0, .null, .int 0, .int 0, .null, .int 0, .null, .int 0]))] s.heap.size = A at hD hX ⊢
  have hA : ∀ q : Nat, s.heap.size ≤ q → A q := fun q h => by rw [← hAe]; exact Or.inr h
  have hS : va_S A s.heap s.heap [] := va_S.rf
  have hl := lv_entry ([.ref h0]) (n := 1) (Nat.le_of_ble_eq_true rfl)
  rw [lg_entry_eq]
  generalize (lg_sl ([.ref h0]) ++ List.replicate (1 - (lg_sl ([.ref h0])).length) Slot.unset).toArray = ls at hl ⊢
  have hl : lv_has ls 1 [(0, .ref h0)] := hl
  obtain ⟨H, eH⟩ : ∃ H, H = s.heap := ⟨_, rfl⟩
  rw [← eH] at hP
  have hS : va_S A s.heap H [] := by rw [eH]; exact hS
  refine W.heq9 eH ?_
  refine lv_aload_n hx hb d_M_init_0 rfl (lv_at hl 0 rfl) ?_
  refine W.objInit hx hb hown (ht _ q_740) (ht _ q_704) (ht _ q_705) rfl (by rw [hml]; exact hl.1) rfl d_M_init_1 (Nat.le_of_ble_eq_true rfl) (Nat.le_of_ble_eq_true rfl) ?_
  refine W.eq (g2 := F0 m 4 ls []) rfl ?_
  refine lv_aload_n hx hb d_M_init_4 rfl (lv_at hl 0 rfl) ?_
  refine lv_sipush (v := 1200) hx hb d_M_init_5 (by decide) ?_
  refine va_newa (D := (dC, dI)) (atype := .byte) (a0 := (1200, .inl (fun _ => 0))) (N' := 1200) hx hb (ht _ q_706) (ty := .byte) rfl hK hP hD hS hA (fun _ => rfl) (by decide) (by decide) (by decide) (Nat.le_of_ble_eq_true rfl) (Nat.le_of_ble_eq_true rfl) d_M_init_8 (fun q1 k1 H hK hP hD hS => ?_)
  have hK : va_K (dC, dI) classes [(k1, .byte)] s := hK
  have hP : va_P (dC, dI) classes [(h0, .inr (7, [.null, .int 0, .int 0, .long 0, .int 0, .null, .int 0, .null, .int 0, .int 0, .int 0, .null, .int 0, .int 0, .int 0, .int 0, .int 0, .int 0, .null, .int 0, .null, .int 0, .int 0, .null, .int 0, .int 0, .null, .int 0, .null, .int 0])), (q1, .inl (k1, 1200, .inl (fun _ => 0)))] H := hP
  have hD : va_D A [(h0, .inr (7, [.null, .int 0, .int 0, .long 0, .int 0, .null, .int 0, .null, .int 0, .int 0, .int 0, .null, .int 0, .int 0, .int 0, .int 0, .int 0, .int 0, .null, .int 0, .null, .int 0, .int 0, .null, .int 0, .int 0, .null, .int 0, .null, .int 0])), (q1, .inl (k1, 1200, .inl (fun _ => 0)))] := hD
  refine va_putF (D := (dC, dI)) (ci := 7) (v := .ref q1) (ty := (.array .byte)) (C := R_M) (T := F_M) (N := 30) hx hb ht i_M t_M t_M_ok n_M hown hK hP hD hS 0 rfl rfl 0 (by decide) (ht _ q_483) (fun _ h9 => h9) rfl hin rfl (t_M_ok 0 (by decide)) rfl rfl (Nat.le_of_ble_eq_true rfl) d_M_init_10 (fun H locs hP hD hS => ?_)
  have hP : va_P (dC, dI) classes [(h0, .inr (7, [.ref q1, .int 0, .int 0, .long 0, .int 0, .null, .int 0, .null, .int 0, .int 0, .int 0, .null, .int 0, .int 0, .int 0, .int 0, .int 0, .int 0, .null, .int 0, .null, .int 0, .int 0, .null, .int 0, .int 0, .null, .int 0, .null, .int 0])), (q1, .inl (k1, 1200, .inl (fun _ => 0)))] H := hP
  have hD : va_D A [(h0, .inr (7, [.ref q1, .int 0, .int 0, .long 0, .int 0, .null, .int 0, .null, .int 0, .int 0, .int 0, .null, .int 0, .int 0, .int 0, .int 0, .int 0, .int 0, .null, .int 0, .null, .int 0, .int 0, .null, .int 0, .int 0, .null, .int 0, .null, .int 0])), (q1, .inl (k1, 1200, .inl (fun _ => 0)))] := hD
  refine lv_aload_n hx hb d_M_init_13 rfl (lv_at hl 0 rfl) ?_
  refine lv_iconst (v := 1) hx hb d_M_init_14 (by decide) ?_
  refine va_put (D := (dC, dI)) (ci := 7) (v := .int 1) (ty := .int) (C := R_M) (T := F_M) (N := 30) hx hb ht i_M t_M t_M_ok n_M hown hK hP hD hS 0 rfl rfl 2 (by decide) (ht _ q_486) (fun _ h9 => h9) rfl (t_M_ok 2 (by decide)) rfl rfl (Nat.le_of_ble_eq_true rfl) d_M_init_15 (fun H locs hP hD hS => ?_)
  have hP : va_P (dC, dI) classes [(h0, .inr (7, [.ref q1, .int 0, .int 1, .long 0, .int 0, .null, .int 0, .null, .int 0, .int 0, .int 0, .null, .int 0, .int 0, .int 0, .int 0, .int 0, .int 0, .null, .int 0, .null, .int 0, .int 0, .null, .int 0, .int 0, .null, .int 0, .null, .int 0])), (q1, .inl (k1, 1200, .inl (fun _ => 0)))] H := hP
  have hD : va_D A [(h0, .inr (7, [.ref q1, .int 0, .int 1, .long 0, .int 0, .null, .int 0, .null, .int 0, .int 0, .int 0, .null, .int 0, .int 0, .int 0, .int 0, .int 0, .int 0, .null, .int 0, .null, .int 0, .int 0, .null, .int 0, .int 0, .null, .int 0, .null, .int 0])), (q1, .inl (k1, 1200, .inl (fun _ => 0)))] := hD
  refine lv_aload_n hx hb d_M_init_18 rfl (lv_at hl 0 rfl) ?_
  refine lv_sipush (v := 400) hx hb d_M_init_19 (by decide) ?_
  refine va_newa (D := (dC, dI)) (atype := .int) (a0 := (400, .inl (fun _ => 0))) (N' := 400) hx hb (ht _ q_709) (ty := .int) rfl hK hP hD hS hA (fun _ => rfl) (by decide) (by decide) (by decide) (Nat.le_of_ble_eq_true rfl) (Nat.le_of_ble_eq_true rfl) d_M_init_22 (fun q2 k2 H hK hP hD hS => ?_)
  have hK : va_K (dC, dI) classes [(k1, .byte), (k2, .int)] s := hK
  have hP : va_P (dC, dI) classes [(h0, .inr (7, [.ref q1, .int 0, .int 1, .long 0, .int 0, .null, .int 0, .null, .int 0, .int 0, .int 0, .null, .int 0, .int 0, .int 0, .int 0, .int 0, .int 0, .null, .int 0, .null, .int 0, .int 0, .null, .int 0, .int 0, .null, .int 0, .null, .int 0])), (q1, .inl (k1, 1200, .inl (fun _ => 0))), (q2, .inl (k2, 400, .inl (fun _ => 0)))] H := hP
  have hD : va_D A [(h0, .inr (7, [.ref q1, .int 0, .int 1, .long 0, .int 0, .null, .int 0, .null, .int 0, .int 0, .int 0, .null, .int 0, .int 0, .int 0, .int 0, .int 0, .int 0, .null, .int 0, .null, .int 0, .int 0, .null, .int 0, .int 0, .null, .int 0, .null, .int 0])), (q1, .inl (k1, 1200, .inl (fun _ => 0))), (q2, .inl (k2, 400, .inl (fun _ => 0)))] := hD
  refine va_putF (D := (dC, dI)) (ci := 7) (v := .ref q2) (ty := (.array .int)) (C := R_M) (T := F_M) (N := 30) hx hb ht i_M t_M t_M_ok n_M hown hK hP hD hS 0 rfl rfl 5 (by decide) (ht _ q_551) (fun _ h9 => h9) rfl hin rfl (t_M_ok 5 (by decide)) rfl rfl (Nat.le_of_ble_eq_true rfl) d_M_init_24 (fun H locs hP hD hS => ?_)
  have hP : va_P (dC, dI) classes [(h0, .inr (7, [.ref q1, .int 0, .int 1, .long 0, .int 0, .ref q2, .int 0, .null, .int 0, .int 0, .int 0, .null, .int 0, .int 0, .int 0, .int 0, .int 0, .int 0, .null, .int 0, .null, .int 0, .int 0, .null, .int 0, .int 0, .null, .int 0, .null, .int 0])), (q1, .inl (k1, 1200, .inl (fun _ => 0))), (q2, .inl (k2, 400, .inl (fun _ => 0)))] H := hP
  have hD : va_D A [(h0, .inr (7, [.ref q1, .int 0, .int 1, .long 0, .int 0, .ref q2, .int 0, .null, .int 0, .int 0, .int 0, .null, .int 0, .int 0, .int 0, .int 0, .int 0, .int 0, .null, .int 0, .null, .int 0, .int 0, .null, .int 0, .int 0, .null, .int 0, .null, .int 0])), (q1, .inl (k1, 1200, .inl (fun _ => 0))), (q2, .inl (k2, 400, .inl (fun _ => 0)))] := hD
  refine lv_aload_n hx hb d_M_init_27 rfl (lv_at hl 0 rfl) ?_
  refine lv_sipush (v := 400) hx hb d_M_init_28 (by decide) ?_
  refine va_newa (D := (dC, dI)) (atype := .int) (a0 := (400, .inl (fun _ => 0))) (N' := 400) hx hb (ht _ q_709) (ty := .int) rfl hK hP hD hS hA (fun _ => rfl) (by decide) (by decide) (by decide) (Nat.le_of_ble_eq_true rfl) (Nat.le_of_ble_eq_true rfl) d_M_init_31 (fun q3 k3 H hK hP hD hS => ?_)
  have hK : va_K (dC, dI) classes [(k1, .byte), (k2, .int), (k3, .int)] s := hK
  have hP : va_P (dC, dI) classes [(h0, .inr (7, [.ref q1, .int 0, .int 1, .long 0, .int 0, .ref q2, .int 0, .null, .int 0, .int 0, .int 0, .null, .int 0, .int 0, .int 0, .int 0, .int 0, .int 0, .null, .int 0, .null, .int 0, .int 0, .null, .int 0, .int 0, .null, .int 0, .null, .int 0])), (q1, .inl (k1, 1200, .inl (fun _ => 0))), (q2, .inl (k2, 400, .inl (fun _ => 0))), (q3, .inl (k3, 400, .inl (fun _ => 0)))] H := hP
  have hD : va_D A [(h0, .inr (7, [.ref q1, .int 0, .int 1, .long 0, .int 0, .ref q2, .int 0, .null, .int 0, .int 0, .int 0, .null, .int 0, .int 0, .int 0, .int 0, .int 0, .int 0, .null, .int 0, .null, .int 0, .int 0, .null, .int 0, .int 0, .null, .int 0, .null, .int 0])), (q1, .inl (k1, 1200, .inl (fun _ => 0))), (q2, .inl (k2, 400, .inl (fun _ => 0))), (q3, .inl (k3, 400, .inl (fun _ => 0)))] := hD
  refine va_putF (D := (dC, dI)) (ci := 7) (v := .ref q3) (ty := (.array .int)) (C := R_M) (T := F_M) (N := 30) hx hb ht i_M t_M t_M_ok n_M hown hK hP hD hS 0 rfl rfl 7 (by decide) (ht _ q_552) (fun _ h9 => h9) rfl hin rfl (t_M_ok 7 (by decide)) rfl rfl (Nat.le_of_ble_eq_true rfl) d_M_init_33 (fun H locs hP hD hS => ?_)
  have hP : va_P (dC, dI) classes [(h0, .inr (7, [.ref q1, .int 0, .int 1, .long 0, .int 0, .ref q2, .int 0, .ref q3, .int 0, .int 0, .int 0, .null, .int 0, .int 0, .int 0, .int 0, .int 0, .int 0, .null, .int 0, .null, .int 0, .int 0, .null, .int 0, .int 0, .null, .int 0, .null, .int 0])), (q1, .inl (k1, 1200, .inl (fun _ => 0))), (q2, .inl (k2, 400, .inl (fun _ => 0))), (q3, .inl (k3, 400, .inl (fun _ => 0)))] H := hP
  have hD : va_D A [(h0, .inr (7, [.ref q1, .int 0, .int 1, .long 0, .int 0, .ref q2, .int 0, .ref q3, .int 0, .int 0, .int 0, .null, .int 0, .int 0, .int 0, .int 0, .int 0, .int 0, .null, .int 0, .null, .int 0, .int 0, .null, .int 0, .int 0, .null, .int 0, .null, .int 0])), (q1, .inl (k1, 1200, .inl (fun _ => 0))), (q2, .inl (k2, 400, .inl (fun _ => 0))), (q3, .inl (k3, 400, .inl (fun _ => 0)))] := hD
  refine lv_aload_n hx hb d_M_init_36 rfl (lv_at hl 0 rfl) ?_
  refine lv_sipush (v := 1200) hx hb d_M_init_37 (by decide) ?_
  refine va_newa (D := (dC, dI)) (atype := .byte) (a0 := (1200, .inl (fun _ => 0))) (N' := 1200) hx hb (ht _ q_706) (ty := .byte) rfl hK hP hD hS hA (fun _ => rfl) (by decide) (by decide) (by decide) (Nat.le_of_ble_eq_true rfl) (Nat.le_of_ble_eq_true rfl) d_M_init_40 (fun q4 k4 H hK hP hD hS => ?_)
  have hK : va_K (dC, dI) classes [(k1, .byte), (k2, .int), (k3, .int), (k4, .byte)] s := hK
  have hP : va_P (dC, dI) classes [(h0, .inr (7, [.ref q1, .int 0, .int 1, .long 0, .int 0, .ref q2, .int 0, .ref q3, .int 0, .int 0, .int 0, .null, .int 0, .int 0, .int 0, .int 0, .int 0, .int 0, .null, .int 0, .null, .int 0, .int 0, .null, .int 0, .int 0, .null, .int 0, .null, .int 0])), (q1, .inl (k1, 1200, .inl (fun _ => 0))), (q2, .inl (k2, 400, .inl (fun _ => 0))), (q3, .inl (k3, 400, .inl (fun _ => 0))), (q4, .inl (k4, 1200, .inl (fun _ => 0)))] H := hP
  have hD : va_D A [(h0, .inr (7, [.ref q1, .int 0, .int 1, .long 0, .int 0, .ref q2, .int 0, .ref q3, .int 0, .int 0, .int 0, .null, .int 0, .int 0, .int 0, .int 0, .int 0, .int 0, .null, .int 0, .null, .int 0, .int 0, .null, .int 0, .int 0, .null, .int 0, .null, .int 0])), (q1, .inl (k1, 1200, .inl (fun _ => 0))), (q2, .inl (k2, 400, .inl (fun _ => 0))), (q3, .inl (k3, 400, .inl (fun _ => 0))), (q4, .inl (k4, 1200, .inl (fun _ => 0)))] := hD
  refine va_putF (D := (dC, dI)) (ci := 7) (v := .ref q4) (ty := (.array .byte)) (C := R_M) (T := F_M) (N := 30) hx hb ht i_M t_M t_M_ok n_M hown hK hP hD hS 0 rfl rfl 11 (by decide) (ht _ q_525) (fun _ h9 => h9) rfl hin rfl (t_M_ok 11 (by decide)) rfl rfl (Nat.le_of_ble_eq_true rfl) d_M_init_42 (fun H locs hP hD hS => ?_)
  have hP : va_P (dC, dI) classes [(h0, .inr (7, [.ref q1, .int 0, .int 1, .long 0, .int 0, .ref q2, .int 0, .ref q3, .int 0, .int 0, .int 0, .ref q4, .int 0, .int 0, .int 0, .int 0, .int 0, .int 0, .null, .int 0, .null, .int 0, .int 0, .null, .int 0, .int 0, .null, .int 0, .null, .int 0])), (q1, .inl (k1, 1200, .inl (fun _ => 0))), (q2, .inl (k2, 400, .inl (fun _ => 0))), (q3, .inl (k3, 400, .inl (fun _ => 0))), (q4, .inl (k4, 1200, .inl (fun _ => 0)))] H := hP
  have hD : va_D A [(h0, .inr (7, [.ref q1, .int 0, .int 1, .long 0, .int 0, .ref q2, .int 0, .ref q3, .int 0, .int 0, .int 0, .ref q4, .int 0, .int 0, .int 0, .int 0, .int 0, .int 0, .null, .int 0, .null, .int 0, .int 0, .null, .int 0, .int 0, .null, .int 0, .null, .int 0])), (q1, .inl (k1, 1200, .inl (fun _ => 0))), (q2, .inl (k2, 400, .inl (fun _ => 0))), (q3, .inl (k3, 400, .inl (fun _ => 0))), (q4, .inl (k4, 1200, .inl (fun _ => 0)))] := hD
  refine lv_aload_n hx hb d_M_init_45 rfl (lv_at hl 0 rfl) ?_
  refine lv_sipush (v := 140) hx hb d_M_init_46 (by decide) ?_
  refine va_newa (D := (dC, dI)) (atype := .int) (a0 := (140, .inl (fun _ => 0))) (N' := 140) hx hb (ht _ q_709) (ty := .int) rfl hK hP hD hS hA (fun _ => rfl) (by decide) (by decide) (by decide) (Nat.le_of_ble_eq_true rfl) (Nat.le_of_ble_eq_true rfl) d_M_init_49 (fun q5 k5 H hK hP hD hS => ?_)
  have hK : va_K (dC, dI) classes [(k1, .byte), (k2, .int), (k3, .int), (k4, .byte), (k5, .int)] s := hK
  have hP : va_P (dC, dI) classes [(h0, .inr (7, [.ref q1, .int 0, .int 1, .long 0, .int 0, .ref q2, .int 0, .ref q3, .int 0, .int 0, .int 0, .ref q4, .int 0, .int 0, .int 0, .int 0, .int 0, .int 0, .null, .int 0, .null, .int 0, .int 0, .null, .int 0, .int 0, .null, .int 0, .null, .int 0])), (q1, .inl (k1, 1200, .inl (fun _ => 0))), (q2, .inl (k2, 400, .inl (fun _ => 0))), (q3, .inl (k3, 400, .inl (fun _ => 0))), (q4, .inl (k4, 1200, .inl (fun _ => 0))), (q5, .inl (k5, 140, .inl (fun _ => 0)))] H := hP
  have hD : va_D A [(h0, .inr (7, [.ref q1, .int 0, .int 1, .long 0, .int 0, .ref q2, .int 0, .ref q3, .int 0, .int 0, .int 0, .ref q4, .int 0, .int 0, .int 0, .int 0, .int 0, .int 0, .null, .int 0, .null, .int 0, .int 0, .null, .int 0, .int 0, .null, .int 0, .null, .int 0])), (q1, .inl (k1, 1200, .inl (fun _ => 0))), (q2, .inl (k2, 400, .inl (fun _ => 0))), (q3, .inl (k3, 400, .inl (fun _ => 0))), (q4, .inl (k4, 1200, .inl (fun _ => 0))), (q5, .inl (k5, 140, .inl (fun _ => 0)))] := hD
  refine va_putF (D := (dC, dI)) (ci := 7) (v := .ref q5) (ty := (.array .int)) (C := R_M) (T := F_M) (N := 30) hx hb ht i_M t_M t_M_ok n_M hown hK hP hD hS 0 rfl rfl 18 (by decide) (ht _ q_594) (fun _ h9 => h9) rfl hin rfl (t_M_ok 18 (by decide)) rfl rfl (Nat.le_of_ble_eq_true rfl) d_M_init_51 (fun H locs hP hD hS => ?_)
  have hP : va_P (dC, dI) classes [(h0, .inr (7, [.ref q1, .int 0, .int 1, .long 0, .int 0, .ref q2, .int 0, .ref q3, .int 0, .int 0, .int 0, .ref q4, .int 0, .int 0, .int 0, .int 0, .int 0, .int 0, .ref q5, .int 0, .null, .int 0, .int 0, .null, .int 0, .int 0, .null, .int 0, .null, .int 0])), (q1, .inl (k1, 1200, .inl (fun _ => 0))), (q2, .inl (k2, 400, .inl (fun _ => 0))), (q3, .inl (k3, 400, .inl (fun _ => 0))), (q4, .inl (k4, 1200, .inl (fun _ => 0))), (q5, .inl (k5, 140, .inl (fun _ => 0)))] H := hP
  have hD : va_D A [(h0, .inr (7, [.ref q1, .int 0, .int 1, .long 0, .int 0, .ref q2, .int 0, .ref q3, .int 0, .int 0, .int 0, .ref q4, .int 0, .int 0, .int 0, .int 0, .int 0, .int 0, .ref q5, .int 0, .null, .int 0, .int 0, .null, .int 0, .int 0, .null, .int 0, .null, .int 0])), (q1, .inl (k1, 1200, .inl (fun _ => 0))), (q2, .inl (k2, 400, .inl (fun _ => 0))), (q3, .inl (k3, 400, .inl (fun _ => 0))), (q4, .inl (k4, 1200, .inl (fun _ => 0))), (q5, .inl (k5, 140, .inl (fun _ => 0)))] := hD
  refine lv_aload_n hx hb d_M_init_54 rfl (lv_at hl 0 rfl) ?_
  refine lv_sipush (v := 1300) hx hb d_M_init_55 (by decide) ?_
  refine va_newa (D := (dC, dI)) (atype := .byte) (a0 := (1300, .inl (fun _ => 0))) (N' := 1300) hx hb (ht _ q_706) (ty := .byte) rfl hK hP hD hS hA (fun _ => rfl) (by decide) (by decide) (by decide) (Nat.le_of_ble_eq_true rfl) (Nat.le_of_ble_eq_true rfl) d_M_init_58 (fun q6 k6 H hK hP hD hS => ?_)
  have hK : va_K (dC, dI) classes [(k1, .byte), (k2, .int), (k3, .int), (k4, .byte), (k5, .int), (k6, .byte)] s := hK
  have hP : va_P (dC, dI) classes [(h0, .inr (7, [.ref q1, .int 0, .int 1, .long 0, .int 0, .ref q2, .int 0, .ref q3, .int 0, .int 0, .int 0, .ref q4, .int 0, .int 0, .int 0, .int 0, .int 0, .int 0, .ref q5, .int 0, .null, .int 0, .int 0, .null, .int 0, .int 0, .null, .int 0, .null, .int 0])), (q1, .inl (k1, 1200, .inl (fun _ => 0))), (q2, .inl (k2, 400, .inl (fun _ => 0))), (q3, .inl (k3, 400, .inl (fun _ => 0))), (q4, .inl (k4, 1200, .inl (fun _ => 0))), (q5, .inl (k5, 140, .inl (fun _ => 0))), (q6, .inl (k6, 1300, .inl (fun _ => 0)))] H := hP
  have hD : va_D A [(h0, .inr (7, [.ref q1, .int 0, .int 1, .long 0, .int 0, .ref q2, .int 0, .ref q3, .int 0, .int 0, .int 0, .ref q4, .int 0, .int 0, .int 0, .int 0, .int 0, .int 0, .ref q5, .int 0, .null, .int 0, .int 0, .null, .int 0, .int 0, .null, .int 0, .null, .int 0])), (q1, .inl (k1, 1200, .inl (fun _ => 0))), (q2, .inl (k2, 400, .inl (fun _ => 0))), (q3, .inl (k3, 400, .inl (fun _ => 0))), (q4, .inl (k4, 1200, .inl (fun _ => 0))), (q5, .inl (k5, 140, .inl (fun _ => 0))), (q6, .inl (k6, 1300, .inl (fun _ => 0)))] := hD
  refine va_putF (D := (dC, dI)) (ci := 7) (v := .ref q6) (ty := (.array .byte)) (C := R_M) (T := F_M) (N := 30) hx hb ht i_M t_M t_M_ok n_M hown hK hP hD hS 0 rfl rfl 20 (by decide) (ht _ q_599) (fun _ h9 => h9) rfl hin rfl (t_M_ok 20 (by decide)) rfl rfl (Nat.le_of_ble_eq_true rfl) d_M_init_60 (fun H locs hP hD hS => ?_)
  have hP : va_P (dC, dI) classes [(h0, .inr (7, [.ref q1, .int 0, .int 1, .long 0, .int 0, .ref q2, .int 0, .ref q3, .int 0, .int 0, .int 0, .ref q4, .int 0, .int 0, .int 0, .int 0, .int 0, .int 0, .ref q5, .int 0, .ref q6, .int 0, .int 0, .null, .int 0, .int 0, .null, .int 0, .null, .int 0])), (q1, .inl (k1, 1200, .inl (fun _ => 0))), (q2, .inl (k2, 400, .inl (fun _ => 0))), (q3, .inl (k3, 400, .inl (fun _ => 0))), (q4, .inl (k4, 1200, .inl (fun _ => 0))), (q5, .inl (k5, 140, .inl (fun _ => 0))), (q6, .inl (k6, 1300, .inl (fun _ => 0)))] H := hP
  have hD : va_D A [(h0, .inr (7, [.ref q1, .int 0, .int 1, .long 0, .int 0, .ref q2, .int 0, .ref q3, .int 0, .int 0, .int 0, .ref q4, .int 0, .int 0, .int 0, .int 0, .int 0, .int 0, .ref q5, .int 0, .ref q6, .int 0, .int 0, .null, .int 0, .int 0, .null, .int 0, .null, .int 0])), (q1, .inl (k1, 1200, .inl (fun _ => 0))), (q2, .inl (k2, 400, .inl (fun _ => 0))), (q3, .inl (k3, 400, .inl (fun _ => 0))), (q4, .inl (k4, 1200, .inl (fun _ => 0))), (q5, .inl (k5, 140, .inl (fun _ => 0))), (q6, .inl (k6, 1300, .inl (fun _ => 0)))] := hD
  refine lv_aload_n hx hb d_M_init_63 rfl (lv_at hl 0 rfl) ?_
  refine lv_sipush (v := 1300) hx hb d_M_init_64 (by decide) ?_
  refine va_newa (D := (dC, dI)) (atype := .byte) (a0 := (1300, .inl (fun _ => 0))) (N' := 1300) hx hb (ht _ q_706) (ty := .byte) rfl hK hP hD hS hA (fun _ => rfl) (by decide) (by decide) (by decide) (Nat.le_of_ble_eq_true rfl) (Nat.le_of_ble_eq_true rfl) d_M_init_67 (fun q7 k7 H hK hP hD hS => ?_)
  have hK : va_K (dC, dI) classes [(k1, .byte), (k2, .int), (k3, .int), (k4, .byte), (k5, .int), (k6, .byte), (k7, .byte)] s := hK
  have hP : va_P (dC, dI) classes [(h0, .inr (7, [.ref q1, .int 0, .int 1, .long 0, .int 0, .ref q2, .int 0, .ref q3, .int 0, .int 0, .int 0, .ref q4, .int 0, .int 0, .int 0, .int 0, .int 0, .int 0, .ref q5, .int 0, .ref q6, .int 0, .int 0, .null, .int 0, .int 0, .null, .int 0, .null, .int 0])), (q1, .inl (k1, 1200, .inl (fun _ => 0))), (q2, .inl (k2, 400, .inl (fun _ => 0))), (q3, .inl (k3, 400, .inl (fun _ => 0))), (q4, .inl (k4, 1200, .inl (fun _ => 0))), (q5, .inl (k5, 140, .inl (fun _ => 0))), (q6, .inl (k6, 1300, .inl (fun _ => 0))), (q7, .inl (k7, 1300, .inl (fun _ => 0)))] H := hP
  have hD : va_D A [(h0, .inr (7, [.ref q1, .int 0, .int 1, .long 0, .int 0, .ref q2, .int 0, .ref q3, .int 0, .int 0, .int 0, .ref q4, .int 0, .int 0, .int 0, .int 0, .int 0, .int 0, .ref q5, .int 0, .ref q6, .int 0, .int 0, .null, .int 0, .int 0, .null, .int 0, .null, .int 0])), (q1, .inl (k1, 1200, .inl (fun _ => 0))), (q2, .inl (k2, 400, .inl (fun _ => 0))), (q3, .inl (k3, 400, .inl (fun _ => 0))), (q4, .inl (k4, 1200, .inl (fun _ => 0))), (q5, .inl (k5, 140, .inl (fun _ => 0))), (q6, .inl (k6, 1300, .inl (fun _ => 0))), (q7, .inl (k7, 1300, .inl (fun _ => 0)))] := hD
  refine va_putF (D := (dC, dI)) (ci := 7) (v := .ref q7) (ty := (.array .byte)) (C := R_M) (T := F_M) (N := 30) hx hb ht i_M t_M t_M_ok n_M hown hK hP hD hS 0 rfl rfl 23 (by decide) (ht _ q_609) (fun _ h9 => h9) rfl hin rfl (t_M_ok 23 (by decide)) rfl rfl (Nat.le_of_ble_eq_true rfl) d_M_init_69 (fun H locs hP hD hS => ?_)
  have hP : va_P (dC, dI) classes [(h0, .inr (7, [.ref q1, .int 0, .int 1, .long 0, .int 0, .ref q2, .int 0, .ref q3, .int 0, .int 0, .int 0, .ref q4, .int 0, .int 0, .int 0, .int 0, .int 0, .int 0, .ref q5, .int 0, .ref q6, .int 0, .int 0, .ref q7, .int 0, .int 0, .null, .int 0, .null, .int 0])), (q1, .inl (k1, 1200, .inl (fun _ => 0))), (q2, .inl (k2, 400, .inl (fun _ => 0))), (q3, .inl (k3, 400, .inl (fun _ => 0))), (q4, .inl (k4, 1200, .inl (fun _ => 0))), (q5, .inl (k5, 140, .inl (fun _ => 0))), (q6, .inl (k6, 1300, .inl (fun _ => 0))), (q7, .inl (k7, 1300, .inl (fun _ => 0)))] H := hP
  have hD : va_D A [(h0, .inr (7, [.ref q1, .int 0, .int 1, .long 0, .int 0, .ref q2, .int 0, .ref q3, .int 0, .int 0, .int 0, .ref q4, .int 0, .int 0, .int 0, .int 0, .int 0, .int 0, .ref q5, .int 0, .ref q6, .int 0, .int 0, .ref q7, .int 0, .int 0, .null, .int 0, .null, .int 0])), (q1, .inl (k1, 1200, .inl (fun _ => 0))), (q2, .inl (k2, 400, .inl (fun _ => 0))), (q3, .inl (k3, 400, .inl (fun _ => 0))), (q4, .inl (k4, 1200, .inl (fun _ => 0))), (q5, .inl (k5, 140, .inl (fun _ => 0))), (q6, .inl (k6, 1300, .inl (fun _ => 0))), (q7, .inl (k7, 1300, .inl (fun _ => 0)))] := hD
  refine lv_aload_n hx hb d_M_init_72 rfl (lv_at hl 0 rfl) ?_
  refine lv_sipush (v := 700) hx hb d_M_init_73 (by decide) ?_
  refine va_newa (D := (dC, dI)) (atype := .byte) (a0 := (700, .inl (fun _ => 0))) (N' := 700) hx hb (ht _ q_706) (ty := .byte) rfl hK hP hD hS hA (fun _ => rfl) (by decide) (by decide) (by decide) (Nat.le_of_ble_eq_true rfl) (Nat.le_of_ble_eq_true rfl) d_M_init_76 (fun q8 k8 H hK hP hD hS => ?_)
  have hK : va_K (dC, dI) classes [(k1, .byte), (k2, .int), (k3, .int), (k4, .byte), (k5, .int), (k6, .byte), (k7, .byte), (k8, .byte)] s := hK
  have hP : va_P (dC, dI) classes [(h0, .inr (7, [.ref q1, .int 0, .int 1, .long 0, .int 0, .ref q2, .int 0, .ref q3, .int 0, .int 0, .int 0, .ref q4, .int 0, .int 0, .int 0, .int 0, .int 0, .int 0, .ref q5, .int 0, .ref q6, .int 0, .int 0, .ref q7, .int 0, .int 0, .null, .int 0, .null, .int 0])), (q1, .inl (k1, 1200, .inl (fun _ => 0))), (q2, .inl (k2, 400, .inl (fun _ => 0))), (q3, .inl (k3, 400, .inl (fun _ => 0))), (q4, .inl (k4, 1200, .inl (fun _ => 0))), (q5, .inl (k5, 140, .inl (fun _ => 0))), (q6, .inl (k6, 1300, .inl (fun _ => 0))), (q7, .inl (k7, 1300, .inl (fun _ => 0))), (q8, .inl (k8, 700, .inl (fun _ => 0)))] H := hP
  have hD : va_D A [(h0, .inr (7, [.ref q1, .int 0, .int 1, .long 0, .int 0, .ref q2, .int 0, .ref q3, .int 0, .int 0, .int 0, .ref q4, .int 0, .int 0, .int 0, .int 0, .int 0, .int 0, .ref q5, .int 0, .ref q6, .int 0, .int 0, .ref q7, .int 0, .int 0, .null, .int 0, .null, .int 0])), (q1, .inl (k1, 1200, .inl (fun _ => 0))), (q2, .inl (k2, 400, .inl (fun _ => 0))), (q3, .inl (k3, 400, .inl (fun _ => 0))), (q4, .inl (k4, 1200, .inl (fun _ => 0))), (q5, .inl (k5, 140, .inl (fun _ => 0))), (q6, .inl (k6, 1300, .inl (fun _ => 0))), (q7, .inl (k7, 1300, .inl (fun _ => 0))), (q8, .inl (k8, 700, .inl (fun _ => 0)))] := hD
  refine va_putF (D := (dC, dI)) (ci := 7) (v := .ref q8) (ty := (.array .byte)) (C := R_M) (T := F_M) (N := 30) hx hb ht i_M t_M t_M_ok n_M hown hK hP hD hS 0 rfl rfl 26 (by decide) (ht _ q_650) (fun _ h9 => h9) rfl hin rfl (t_M_ok 26 (by decide)) rfl rfl (Nat.le_of_ble_eq_true rfl) d_M_init_78 (fun H locs hP hD hS => ?_)
  have hP : va_P (dC, dI) classes [(h0, .inr (7, [.ref q1, .int 0, .int 1, .long 0, .int 0, .ref q2, .int 0, .ref q3, .int 0, .int 0, .int 0, .ref q4, .int 0, .int 0, .int 0, .int 0, .int 0, .int 0, .ref q5, .int 0, .ref q6, .int 0, .int 0, .ref q7, .int 0, .int 0, .ref q8, .int 0, .null, .int 0])), (q1, .inl (k1, 1200, .inl (fun _ => 0))), (q2, .inl (k2, 400, .inl (fun _ => 0))), (q3, .inl (k3, 400, .inl (fun _ => 0))), (q4, .inl (k4, 1200, .inl (fun _ => 0))), (q5, .inl (k5, 140, .inl (fun _ => 0))), (q6, .inl (k6, 1300, .inl (fun _ => 0))), (q7, .inl (k7, 1300, .inl (fun _ => 0))), (q8, .inl (k8, 700, .inl (fun _ => 0)))] H := hP
  have hD : va_D A [(h0, .inr (7, [.ref q1, .int 0, .int 1, .long 0, .int 0, .ref q2, .int 0, .ref q3, .int 0, .int 0, .int 0, .ref q4, .int 0, .int 0, .int 0, .int 0, .int 0, .int 0, .ref q5, .int 0, .ref q6, .int 0, .int 0, .ref q7, .int 0, .int 0, .ref q8, .int 0, .null, .int 0])), (q1, .inl (k1, 1200, .inl (fun _ => 0))), (q2, .inl (k2, 400, .inl (fun _ => 0))), (q3, .inl (k3, 400, .inl (fun _ => 0))), (q4, .inl (k4, 1200, .inl (fun _ => 0))), (q5, .inl (k5, 140, .inl (fun _ => 0))), (q6, .inl (k6, 1300, .inl (fun _ => 0))), (q7, .inl (k7, 1300, .inl (fun _ => 0))), (q8, .inl (k8, 700, .inl (fun _ => 0)))] := hD
  refine lv_aload_n hx hb d_M_init_81 rfl (lv_at hl 0 rfl) ?_
  refine lv_sipush (v := 700) hx hb d_M_init_82 (by decide) ?_
  refine va_newa (D := (dC, dI)) (atype := .byte) (a0 := (700, .inl (fun _ => 0))) (N' := 700) hx hb (ht _ q_706) (ty := .byte) rfl hK hP hD hS hA (fun _ => rfl) (by decide) (by decide) (by decide) (Nat.le_of_ble_eq_true rfl) (Nat.le_of_ble_eq_true rfl) d_M_init_85 (fun q9 k9 H hK hP hD hS => ?_)
  have hK : va_K (dC, dI) classes [(k1, .byte), (k2, .int), (k3, .int), (k4, .byte), (k5, .int), (k6, .byte), (k7, .byte), (k8, .byte), (k9, .byte)] s := hK
  have hP : va_P (dC, dI) classes [(h0, .inr (7, [.ref q1, .int 0, .int 1, .long 0, .int 0, .ref q2, .int 0, .ref q3, .int 0, .int 0, .int 0, .ref q4, .int 0, .int 0, .int 0, .int 0, .int 0, .int 0, .ref q5, .int 0, .ref q6, .int 0, .int 0, .ref q7, .int 0, .int 0, .ref q8, .int 0, .null, .int 0])), (q1, .inl (k1, 1200, .inl (fun _ => 0))), (q2, .inl (k2, 400, .inl (fun _ => 0))), (q3, .inl (k3, 400, .inl (fun _ => 0))), (q4, .inl (k4, 1200, .inl (fun _ => 0))), (q5, .inl (k5, 140, .inl (fun _ => 0))), (q6, .inl (k6, 1300, .inl (fun _ => 0))), (q7, .inl (k7, 1300, .inl (fun _ => 0))), (q8, .inl (k8, 700, .inl (fun _ => 0))), (q9, .inl (k9, 700, .inl (fun _ => 0)))] H := hP
  have hD : va_D A [(h0, .inr (7, [.ref q1, .int 0, .int 1, .long 0, .int 0, .ref q2, .int 0, .ref q3, .int 0, .int 0, .int 0, .ref q4, .int 0, .int 0, .int 0, .int 0, .int 0, .int 0, .ref q5, .int 0, .ref q6, .int 0, .int 0, .ref q7, .int 0, .int 0, .ref q8, .int 0, .null, .int 0])), (q1, .inl (k1, 1200, .inl (fun _ => 0))), (q2, .inl (k2, 400, .inl (fun _ => 0))), (q3, .inl (k3, 400, .inl (fun _ => 0))), (q4, .inl (k4, 1200, .inl (fun _ => 0))), (q5, .inl (k5, 140, .inl (fun _ => 0))), (q6, .inl (k6, 1300, .inl (fun _ => 0))), (q7, .inl (k7, 1300, .inl (fun _ => 0))), (q8, .inl (k8, 700, .inl (fun _ => 0))), (q9, .inl (k9, 700, .inl (fun _ => 0)))] := hD
  refine va_putF (D := (dC, dI)) (ci := 7) (v := .ref q9) (ty := (.array .byte)) (C := R_M) (T := F_M) (N := 30) hx hb ht i_M t_M t_M_ok n_M hown hK hP hD hS 0 rfl rfl 28 (by decide) (ht _ q_612) (fun _ h9 => h9) rfl hin rfl (t_M_ok 28 (by decide)) rfl rfl (Nat.le_of_ble_eq_true rfl) d_M_init_87 (fun H locs hP hD hS => ?_)
  have hP : va_P (dC, dI) classes [(h0, .inr (7, [.ref q1, .int 0, .int 1, .long 0, .int 0, .ref q2, .int 0, .ref q3, .int 0, .int 0, .int 0, .ref q4, .int 0, .int 0, .int 0, .int 0, .int 0, .int 0, .ref q5, .int 0, .ref q6, .int 0, .int 0, .ref q7, .int 0, .int 0, .ref q8, .int 0, .ref q9, .int 0])), (q1, .inl (k1, 1200, .inl (fun _ => 0))), (q2, .inl (k2, 400, .inl (fun _ => 0))), (q3, .inl (k3, 400, .inl (fun _ => 0))), (q4, .inl (k4, 1200, .inl (fun _ => 0))), (q5, .inl (k5, 140, .inl (fun _ => 0))), (q6, .inl (k6, 1300, .inl (fun _ => 0))), (q7, .inl (k7, 1300, .inl (fun _ => 0))), (q8, .inl (k8, 700, .inl (fun _ => 0))), (q9, .inl (k9, 700, .inl (fun _ => 0)))] H := hP
  have hD : va_D A [(h0, .inr (7, [.ref q1, .int 0, .int 1, .long 0, .int 0, .ref q2, .int 0, .ref q3, .int 0, .int 0, .int 0, .ref q4, .int 0, .int 0, .int 0, .int 0, .int 0, .int 0, .ref q5, .int 0, .ref q6, .int 0, .int 0, .ref q7, .int 0, .int 0, .ref q8, .int 0, .ref q9, .int 0])), (q1, .inl (k1, 1200, .inl (fun _ => 0))), (q2, .inl (k2, 400, .inl (fun _ => 0))), (q3, .inl (k3, 400, .inl (fun _ => 0))), (q4, .inl (k4, 1200, .inl (fun _ => 0))), (q5, .inl (k5, 140, .inl (fun _ => 0))), (q6, .inl (k6, 1300, .inl (fun _ => 0))), (q7, .inl (k7, 1300, .inl (fun _ => 0))), (q8, .inl (k8, 700, .inl (fun _ => 0))), (q9, .inl (k9, 700, .inl (fun _ => 0)))] := hD
  refine W.cs (cells' := 9) (slots' := 7340) rfl rfl ?_
  exact W.vret hx hb hr (fun t ht9 hW => ⟨⟨(), rfl, trivial, _, _, ⟨q1, k1, q2, k2, q3, k3, q4, k4, q5, k5, q6, k6, q7, k7, q8, k8, q9, k9, rfl, rfl⟩, by rw [ht9]; exact hP, va_K.moved hW.alike hK, hD⟩, hS.F ht9⟩) hS.2.2 d_M_init_90 hlk

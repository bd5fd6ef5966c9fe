/-! THE CLAIM OUT OF ONE WALK OF THE LAW'S BODY. Your part is whole_start (and what it stands on); all else here is the same for every law, but numbers. -/
def R_law : String := "NumeralTextsLaw"
def lw_P (b : Addr) (xs : List Int32) (args : Array Value) (s : State) : Prop := args = #[.ref b] ∧ s.IntsAt b xs ∧ xs.length ≤ 2560 ∧ (Jvm.Cond.and given_1 narrow_1).before args s = true
def lw_Q (_ : Array Value) (s : State) (o : Outcome) (t : State) : Prop := o = .returned (some (.int 1)) ∧ Framed s o t [] 24 9475
def lw_Z (below : List Frame) (a : Array Value) (s : State) : State → Prop := fun t => ∃ o, t.status = .running ∧ Ended t below o ∧ lw_Q a s o t
/-- the law's own end, with 1 on the stack, nothing written that was there before, its room as the claim has it -/
theorem lw_ret {p : Program} {l : Launch} {e : Env} {s : State} {m : MethodId} {below : List Frame} {meth : Method} {c : Code} {b : Nat} (hx : p.tables.exec = Jvm.exec) (hb : c.code = code) (hr : meth.sig.returnType = ret) (hlocks : meth.locks = false) {pc : Nat} {H : Heap} {ls : Array Slot} (hdg : decode code pc = .ok (.ireturn, 1)) : W p l e room_1 s m #[Value.ref b] below meth c H [] 24 9475 (lw_Z below #[Value.ref b] s) (F0 m pc ls [.int 1]) := by
  intro T hT X
  obtain ⟨fs, hret, hrun, hended, hW, hframe⟩ := X.leave (v := some (.int 1)) (hlocks := hlocks) (fun h => by rw [hr] at h; cases h)
  have hmeth' : T.vm.method? m = some meth := X.method'
  refine ⟨T.setFrames fs, ?_, .returned (some (.int 1)), hrun, hended, rfl, ⟨_, rfl⟩, hW, hframe⟩
  jvm_step X.here [X.here.top, hx, hb, hdg, hmeth', hr, ret, narrow_b1]
  (try refine ⟨rfl, ?_⟩); (try refine ⟨rfl, ?_⟩)
  first | (intro acts; rw [hret _ acts rfl rfl rfl]) | rw [hret _ _ rfl rfl rfl]
  exact Steps.refl _
/-- what holds at the law's entry: the machine, the code, the tables' words (any of lw_tbl by 'hts w (by decide +kernel)'), the script of L ints xs at the cell b, what the Statement gives of the start (any of its parts by flat_of_before) -/
def lw_At (p : Program) (s : State) (m : MethodId) (meth : Method) (c : Code) (b L : Nat) (xs : Nat → Int32) : Prop :=
  p.tables.exec = Jvm.exec ∧ c.code = code ∧ meth.sig.returnType = ret ∧ c.maxLocals = 4 ∧ s.vm.findClass R_law = some m.cls ∧ (∀ w ∈ lw_tbl, w.before #[Value.ref b] s = true) ∧ va_X b L xs s s.heap ∧ b < s.heap.size ∧ meth.locks = false ∧ (Jvm.Cond.and given_1 narrow_1).before #[Value.ref b] s = true

theorem q_741 : (.constantLong R_law 13 4294967295 : Cond) ∈ w0 := m0 1107 (by decide +kernel) rfl
theorem q_742 : (.methodLink R_law 15 y_N_type : Cond) ∈ w0 := m0 267 (by decide +kernel) rfl
theorem q_743 : (.instanceMethod y_N_type : Cond) ∈ w0 := m0 268 (by decide +kernel) rfl
theorem q_744 : (.selects R_N y_N_type y_N_type : Cond) ∈ w0 := m0 269 (by decide +kernel) rfl
theorem q_745 : (.code y_N_type b_N_type 5 (some .int) : Cond) ∈ w0 := m0 270 (by decide +kernel) rfl
theorem q_746 : (.methodLink R_law 19 y_M_type : Cond) ∈ w0 := m0 872 (by decide +kernel) rfl
theorem q_747 : (.instanceMethod y_M_type : Cond) ∈ w0 := m0 873 (by decide +kernel) rfl
theorem q_748 : (.selects R_M y_M_type y_M_type : Cond) ∈ w0 := m0 874 (by decide +kernel) rfl
theorem q_749 : (.code y_M_type b_M_type 5 (some .int) : Cond) ∈ w0 := m0 875 (by decide +kernel) rfl
theorem q_750 : (.methodLink R_law 20 y_N_read : Cond) ∈ w0 := m0 283 (by decide +kernel) rfl
theorem q_751 : (.instanceMethod y_N_read : Cond) ∈ w0 := m0 284 (by decide +kernel) rfl
theorem q_752 : (.selects R_N y_N_read y_N_read : Cond) ∈ w0 := m0 285 (by decide +kernel) rfl
theorem q_753 : (.code y_N_read b_N_read 2 (some .int) : Cond) ∈ w0 := m0 286 (by decide +kernel) rfl
theorem q_754 : (.methodLink R_law 24 y_M_read : Cond) ∈ w0 := m0 919 (by decide +kernel) rfl
theorem q_755 : (.instanceMethod y_M_read : Cond) ∈ w0 := m0 920 (by decide +kernel) rfl
theorem q_756 : (.selects R_M y_M_read y_M_read : Cond) ∈ w0 := m0 921 (by decide +kernel) rfl
theorem q_757 : (.code y_M_read b_M_read 3 (some .int) : Cond) ∈ w0 := m0 922 (by decide +kernel) rfl
theorem q_758 : (.methodLink R_law 25 y_N_whole : Cond) ∈ w0 := m0 470 (by decide +kernel) rfl
theorem q_759 : (.instanceMethod y_N_whole : Cond) ∈ w0 := m0 471 (by decide +kernel) rfl
theorem q_760 : (.selects R_N y_N_whole y_N_whole : Cond) ∈ w0 := m0 472 (by decide +kernel) rfl
theorem q_761 : (.code y_N_whole b_N_whole 3 none : Cond) ∈ w0 := m0 473 (by decide +kernel) rfl
theorem q_762 : (.methodLink R_law 29 y_M_whole : Cond) ∈ w0 := m0 876 (by decide +kernel) rfl
theorem q_763 : (.instanceMethod y_M_whole : Cond) ∈ w0 := m0 877 (by decide +kernel) rfl
theorem q_764 : (.selects R_M y_M_whole y_M_whole : Cond) ∈ w0 := m0 878 (by decide +kernel) rfl
theorem q_765 : (.code y_M_whole b_M_whole 3 none : Cond) ∈ w0 := m0 879 (by decide +kernel) rfl
theorem q_766 : (.methodLink R_law 30 y_N_real : Cond) ∈ w0 := m0 474 (by decide +kernel) rfl
theorem q_767 : (.instanceMethod y_N_real : Cond) ∈ w0 := m0 475 (by decide +kernel) rfl
theorem q_768 : (.selects R_N y_N_real y_N_real : Cond) ∈ w0 := m0 476 (by decide +kernel) rfl
theorem q_769 : (.code y_N_real b_N_real 4 (some .int) : Cond) ∈ w0 := m0 477 (by decide +kernel) rfl
theorem q_770 : (.methodLink R_law 33 y_M_real : Cond) ∈ w0 := m0 884 (by decide +kernel) rfl
theorem q_771 : (.instanceMethod y_M_real : Cond) ∈ w0 := m0 885 (by decide +kernel) rfl
theorem q_772 : (.selects R_M y_M_real y_M_real : Cond) ∈ w0 := m0 886 (by decide +kernel) rfl
theorem q_773 : (.code y_M_real b_M_real 4 (some .int) : Cond) ∈ w0 := m0 887 (by decide +kernel) rfl
theorem q_774 : (.methodLink R_law 34 y_N_special : Cond) ∈ w0 := m0 481 (by decide +kernel) rfl
theorem q_775 : (.instanceMethod y_N_special : Cond) ∈ w0 := m0 482 (by decide +kernel) rfl
theorem q_776 : (.selects R_N y_N_special y_N_special : Cond) ∈ w0 := m0 483 (by decide +kernel) rfl
theorem q_777 : (.code y_N_special b_N_special 2 (some .boolean) : Cond) ∈ w0 := m0 484 (by decide +kernel) rfl
theorem q_778 : (.methodLink R_law 38 y_M_special : Cond) ∈ w0 := m0 903 (by decide +kernel) rfl
theorem q_779 : (.instanceMethod y_M_special : Cond) ∈ w0 := m0 904 (by decide +kernel) rfl
theorem q_780 : (.selects R_M y_M_special y_M_special : Cond) ∈ w0 := m0 905 (by decide +kernel) rfl
theorem q_781 : (.code y_M_special b_M_special 2 (some .boolean) : Cond) ∈ w0 := m0 906 (by decide +kernel) rfl
theorem q_782 : (.methodLink R_law 39 y_N_kind : Cond) ∈ w0 := m0 485 (by decide +kernel) rfl
theorem q_783 : (.instanceMethod y_N_kind : Cond) ∈ w0 := m0 486 (by decide +kernel) rfl
theorem q_784 : (.selects R_N y_N_kind y_N_kind : Cond) ∈ w0 := m0 487 (by decide +kernel) rfl
theorem q_785 : (.code y_N_kind b_N_kind 1 (some .int) : Cond) ∈ w0 := m0 488 (by decide +kernel) rfl
theorem q_786 : (.methodLink R_law 42 y_M_kind : Cond) ∈ w0 := m0 907 (by decide +kernel) rfl
theorem q_787 : (.instanceMethod y_M_kind : Cond) ∈ w0 := m0 908 (by decide +kernel) rfl
theorem q_788 : (.selects R_M y_M_kind y_M_kind : Cond) ∈ w0 := m0 909 (by decide +kernel) rfl
theorem q_789 : (.code y_M_kind b_M_kind 1 (some .int) : Cond) ∈ w0 := m0 910 (by decide +kernel) rfl
theorem q_790 : (.methodLink R_law 43 y_N_number : Cond) ∈ w0 := m0 489 (by decide +kernel) rfl
theorem q_791 : (.instanceMethod y_N_number : Cond) ∈ w0 := m0 490 (by decide +kernel) rfl
theorem q_792 : (.selects R_N y_N_number y_N_number : Cond) ∈ w0 := m0 491 (by decide +kernel) rfl
theorem q_793 : (.code y_N_number b_N_number 1 (some .long) : Cond) ∈ w0 := m0 492 (by decide +kernel) rfl
theorem q_794 : (.methodLink R_law 47 y_M_number : Cond) ∈ w0 := m0 911 (by decide +kernel) rfl
theorem q_795 : (.instanceMethod y_M_number : Cond) ∈ w0 := m0 912 (by decide +kernel) rfl
theorem q_796 : (.selects R_M y_M_number y_M_number : Cond) ∈ w0 := m0 913 (by decide +kernel) rfl
theorem q_797 : (.code y_M_number b_M_number 1 (some .long) : Cond) ∈ w0 := m0 914 (by decide +kernel) rfl
theorem q_798 : (.methodLink R_law 48 y_N_exponent : Cond) ∈ w0 := m0 493 (by decide +kernel) rfl
theorem q_799 : (.instanceMethod y_N_exponent : Cond) ∈ w0 := m0 494 (by decide +kernel) rfl
theorem q_800 : (.selects R_N y_N_exponent y_N_exponent : Cond) ∈ w0 := m0 495 (by decide +kernel) rfl
theorem q_801 : (.code y_N_exponent b_N_exponent 1 (some .int) : Cond) ∈ w0 := m0 496 (by decide +kernel) rfl
theorem q_802 : (.methodLink R_law 51 y_M_exponent : Cond) ∈ w0 := m0 915 (by decide +kernel) rfl
theorem q_803 : (.instanceMethod y_M_exponent : Cond) ∈ w0 := m0 916 (by decide +kernel) rfl
theorem q_804 : (.selects R_M y_M_exponent y_M_exponent : Cond) ∈ w0 := m0 917 (by decide +kernel) rfl
theorem q_805 : (.code y_M_exponent b_M_exponent 1 (some .int) : Cond) ∈ w0 := m0 918 (by decide +kernel) rfl
theorem q_806 : (.methodLink R_law 52 y_N_plain : Cond) ∈ w0 := m0 497 (by decide +kernel) rfl
theorem q_807 : (.instanceMethod y_N_plain : Cond) ∈ w0 := m0 498 (by decide +kernel) rfl
theorem q_808 : (.selects R_N y_N_plain y_N_plain : Cond) ∈ w0 := m0 499 (by decide +kernel) rfl
theorem q_809 : (.code y_N_plain b_N_plain 1 (some .int) : Cond) ∈ w0 := m0 500 (by decide +kernel) rfl
theorem q_810 : (.methodLink R_law 55 y_M_plain : Cond) ∈ w0 := m0 1094 (by decide +kernel) rfl
theorem q_811 : (.instanceMethod y_M_plain : Cond) ∈ w0 := m0 1095 (by decide +kernel) rfl
theorem q_812 : (.selects R_M y_M_plain y_M_plain : Cond) ∈ w0 := m0 1096 (by decide +kernel) rfl
theorem q_813 : (.code y_M_plain b_M_plain 4 (some .int) : Cond) ∈ w0 := m0 1097 (by decide +kernel) rfl
theorem q_814 : (.methodLink R_law 56 y_N_form : Cond) ∈ w0 := m0 731 (by decide +kernel) rfl
theorem q_815 : (.instanceMethod y_N_form : Cond) ∈ w0 := m0 732 (by decide +kernel) rfl
theorem q_816 : (.selects R_N y_N_form y_N_form : Cond) ∈ w0 := m0 733 (by decide +kernel) rfl
theorem q_817 : (.code y_N_form b_N_form 6 (some .int) : Cond) ∈ w0 := m0 734 (by decide +kernel) rfl
theorem q_818 : (.methodLink R_law 60 y_M_form : Cond) ∈ w0 := m0 997 (by decide +kernel) rfl
theorem q_819 : (.methodLink R_law 61 y_N_shortest : Cond) ∈ w0 := m0 751 (by decide +kernel) rfl
theorem q_820 : (.instanceMethod y_N_shortest : Cond) ∈ w0 := m0 752 (by decide +kernel) rfl
theorem q_821 : (.selects R_N y_N_shortest y_N_shortest : Cond) ∈ w0 := m0 753 (by decide +kernel) rfl
theorem q_822 : (.code y_N_shortest b_N_shortest 2 (some .int) : Cond) ∈ w0 := m0 754 (by decide +kernel) rfl
theorem q_823 : (.methodLink R_law 64 y_M_shortest : Cond) ∈ w0 := m0 1099 (by decide +kernel) rfl
theorem q_824 : (.instanceMethod y_M_shortest : Cond) ∈ w0 := m0 1100 (by decide +kernel) rfl
theorem q_825 : (.selects R_M y_M_shortest y_M_shortest : Cond) ∈ w0 := m0 1101 (by decide +kernel) rfl
theorem q_826 : (.code y_M_shortest b_M_shortest 11 (some .int) : Cond) ∈ w0 := m0 1102 (by decide +kernel) rfl
theorem q_827 : (.methodLink R_law 65 y_N_written : Cond) ∈ w0 := m0 770 (by decide +kernel) rfl
theorem q_828 : (.instanceMethod y_N_written : Cond) ∈ w0 := m0 771 (by decide +kernel) rfl
theorem q_829 : (.selects R_N y_N_written y_N_written : Cond) ∈ w0 := m0 772 (by decide +kernel) rfl
theorem q_830 : (.code y_N_written b_N_written 2 (some .int) : Cond) ∈ w0 := m0 773 (by decide +kernel) rfl
theorem q_831 : (.methodLink R_law 69 y_M_written : Cond) ∈ w0 := m0 1103 (by decide +kernel) rfl
theorem q_832 : (.instanceMethod y_M_written : Cond) ∈ w0 := m0 1104 (by decide +kernel) rfl
theorem q_833 : (.selects R_M y_M_written y_M_written : Cond) ∈ w0 := m0 1105 (by decide +kernel) rfl
theorem q_834 : (.code y_M_written b_M_written 2 (some .int) : Cond) ∈ w0 := m0 1106 (by decide +kernel) rfl
theorem q_835 : (.classLink R_law 7 R_N : Cond) ∈ w0 := m0 91 (by decide +kernel) rfl
theorem q_836 : (.instantiable R_N 11 : Cond) ∈ w0 := m0 92 (by decide +kernel) rfl
theorem q_837 : (.methodLink R_law 9 y_N_init : Cond) ∈ w0 := m0 93 (by decide +kernel) rfl
theorem q_838 : (.instanceMethod y_N_init : Cond) ∈ w0 := m0 94 (by decide +kernel) rfl
theorem q_839 : (.code y_N_init b_N_init 1 none : Cond) ∈ w0 := m0 95 (by decide +kernel) rfl
theorem q_840 : (.classLink R_law 10 R_M : Cond) ∈ w0 := m0 775 (by decide +kernel) rfl
theorem q_841 : (.instantiable R_M 30 : Cond) ∈ w0 := m0 776 (by decide +kernel) rfl
theorem q_842 : (.methodLink R_law 12 y_M_init : Cond) ∈ w0 := m0 777 (by decide +kernel) rfl
theorem q_843 : (.instanceMethod y_M_init : Cond) ∈ w0 := m0 778 (by decide +kernel) rfl
theorem q_844 : (.code y_M_init b_M_init 1 none : Cond) ∈ w0 := m0 779 (by decide +kernel) rfl

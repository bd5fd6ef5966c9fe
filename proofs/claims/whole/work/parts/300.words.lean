theorem q_703 : (.methodLink R_Tape 1 objectInit : Cond) ∈ w0 := m0 104 (by decide +kernel) rfl
theorem q_704 : (.instanceMethod objectInit : Cond) ∈ w0 := m0 97 (by decide +kernel) rfl
theorem q_705 : (.code objectInit ⟨#[0xb1]⟩ 1 none : Cond) ∈ w0 := m0 98 (by decide +kernel) rfl
theorem q_706 : (.arrayClass .byte : Cond) ∈ w0 := m0 112 (by decide +kernel) rfl
theorem q_707 : (.methodLink R_Numeral 1 objectInit : Cond) ∈ w0 := m0 118 (by decide +kernel) rfl
theorem q_708 : (.methodLink R_Decimal 3 objectInit : Cond) ∈ w0 := m0 161 (by decide +kernel) rfl
theorem q_709 : (.arrayClass .int : Cond) ∈ w0 := m0 172 (by decide +kernel) rfl
theorem q_710 : (.methodLink R_Size 1 objectInit : Cond) ∈ w0 := m0 178 (by decide +kernel) rfl
theorem q_711 : (.methodLink R_Page 3 objectInit : Cond) ∈ w0 := m0 194 (by decide +kernel) rfl
theorem q_712 : (.methodLink R_Writer 1 objectInit : Cond) ∈ w0 := m0 207 (by decide +kernel) rfl
theorem q_713 : (.methodLink R_N 1 objectInit : Cond) ∈ w0 := m0 96 (by decide +kernel) rfl
theorem q_714 : (.classLink R_N 7 R_Tape : Cond) ∈ w0 := m0 99 (by decide +kernel) rfl
theorem q_715 : (.instantiable R_Tape 2 : Cond) ∈ w0 := m0 100 (by decide +kernel) rfl
theorem q_716 : (.instanceMethod y_Tape_init : Cond) ∈ w0 := m0 102 (by decide +kernel) rfl
theorem q_717 : (.code y_Tape_init b_Tape_init 1 none : Cond) ∈ w0 := m0 103 (by decide +kernel) rfl
theorem q_718 : (.classLink R_N 16 R_Numeral : Cond) ∈ w0 := m0 113 (by decide +kernel) rfl
theorem q_719 : (.instantiable R_Numeral 12 : Cond) ∈ w0 := m0 114 (by decide +kernel) rfl
theorem q_720 : (.methodLink R_N 18 y_Numeral_init : Cond) ∈ w0 := m0 115 (by decide +kernel) rfl
theorem q_721 : (.instanceMethod y_Numeral_init : Cond) ∈ w0 := m0 116 (by decide +kernel) rfl
theorem q_722 : (.code y_Numeral_init b_Numeral_init 2 none : Cond) ∈ w0 := m0 117 (by decide +kernel) rfl
theorem q_723 : (.classLink R_N 25 R_Decimal : Cond) ∈ w0 := m0 156 (by decide +kernel) rfl
theorem q_724 : (.instantiable R_Decimal 3 : Cond) ∈ w0 := m0 157 (by decide +kernel) rfl
theorem q_725 : (.instanceMethod y_Decimal_init : Cond) ∈ w0 := m0 159 (by decide +kernel) rfl
theorem q_726 : (.code y_Decimal_init b_Decimal_init 1 none : Cond) ∈ w0 := m0 160 (by decide +kernel) rfl
theorem q_727 : (.classLink R_N 35 R_Size : Cond) ∈ w0 := m0 173 (by decide +kernel) rfl
theorem q_728 : (.instantiable R_Size 3 : Cond) ∈ w0 := m0 174 (by decide +kernel) rfl
theorem q_729 : (.instanceMethod y_Size_init : Cond) ∈ w0 := m0 176 (by decide +kernel) rfl
theorem q_730 : (.code y_Size_init b_Size_init 1 none : Cond) ∈ w0 := m0 177 (by decide +kernel) rfl
theorem q_731 : (.classLink R_N 45 R_Page : Cond) ∈ w0 := m0 189 (by decide +kernel) rfl
theorem q_732 : (.instantiable R_Page 2 : Cond) ∈ w0 := m0 190 (by decide +kernel) rfl
theorem q_733 : (.instanceMethod y_Page_init : Cond) ∈ w0 := m0 192 (by decide +kernel) rfl
theorem q_734 : (.code y_Page_init b_Page_init 1 none : Cond) ∈ w0 := m0 193 (by decide +kernel) rfl
theorem q_735 : (.classLink R_N 52 R_Writer : Cond) ∈ w0 := m0 202 (by decide +kernel) rfl
theorem q_736 : (.instantiable R_Writer 8 : Cond) ∈ w0 := m0 203 (by decide +kernel) rfl
theorem q_737 : (.methodLink R_N 54 y_Writer_init : Cond) ∈ w0 := m0 204 (by decide +kernel) rfl
theorem q_738 : (.instanceMethod y_Writer_init : Cond) ∈ w0 := m0 205 (by decide +kernel) rfl
theorem q_739 : (.code y_Writer_init b_Writer_init 3 none : Cond) ∈ w0 := m0 206 (by decide +kernel) rfl
theorem q_740 : (.methodLink R_M 1 objectInit : Cond) ∈ w0 := m0 780 (by decide +kernel) rfl
abbrev gZ (D : va_G) (Z : va_W → List (ClassId × FieldType) → Prop) (A : Nat → Prop) (_ : Unit) (t : State) : Prop :=
  ∃ (w1 : va_W) (ty1 : List (ClassId × FieldType)), Z w1 ty1 ∧ va_P D classes w1 t.heap ∧ va_K D classes ty1 t ∧ va_D A w1
section Ctors9
variable {p : Program} {l : Launch} {e : Env} {R : Room} {s : State} {m : MethodId} {args : Array Value} {below : List Frame} {meth : Method} {c : Code} {H : Heap} {locs : List Loc} {cells slots : Nat} {Q : State → Prop}
theorem W.heq9 {H' : Heap} {g : JFrame} (h9 : H' = H) (k : W p l e R s m args below meth c H' locs cells slots Q g) : W p l e R s m args below meth c H locs cells slots Q g := h9 ▸ k
theorem code0 {n : Nat} {y : MethodName} {b : ByteArray} {r : Option FieldType} (h5 : Cond.code y b n r ∈ w0) : GoodIn w0 (.code y b n r :: w0) := good0 (by
  intro w hw
  rcases List.mem_cons.mp hw with rfl | hw
  · exact h5
  · exact hw)
theorem clI {D : va_G} {own : String} {idx maxL nL n pc mc ms : Nat} {y : MethodName} {bytes cc : ByteArray} {rm : Room} {b : Nat} {As rest st0 : List Value} {ls : Array Slot} {w wc wr : va_W} {Z : va_W → List (ClassId × FieldType) → Prop} {tys : List (ClassId × FieldType)} {A : Nat → Prop} {X : SXT}
    (S0 : CallFix p m c cc nL s args w0 own)
    (hM : Met l y (.code y bytes maxL none :: w0) rm (va_Pc (.ref b :: As) (gP D wc [] H.size X)) (va_Qv (fun (_ : Unit) => True) (gZ D Z (va_A wc H.size)) (va_A wc H.size)) mc ms (va_A wc H.size))
    (hl : (Cond.methodLink own idx y).before args s = true) (hini : Cond.initialized y.cls ∈ w0) (hin : Cond.instanceMethod y ∈ w0) (hcd : Cond.code y bytes maxL none ∈ w0)
    (hd : y.name = "<init>" ∧ y.cls ≠ "java/lang/invoke/MethodHandle" ∧ y.cls ≠ "java/lang/invoke/VarHandle" ∧ (parseMethodDescriptor y.desc).map (fun d => d.parameters.length) = some n)
    (hrm : rm.cells = mc ∧ rm.slots = ms ∧ rm.frames + 1 ≤ R.frames ∧ 8 + (maxL + 11) + rm.locals ≤ R.locals)
    (hK : va_K D classes tys s) (hP : va_P D classes w H) (hD : va_D A w) (hS : va_S A s.heap H locs) (hA : ∀ q, s.heap.size ≤ q → A q) (hX : SX X A s s.heap)
    (isC isR : List Nat) (hC : isC.map (fun i => w[i]?) = wc.map some) (hR : isR.map (fun i => w[i]?) = wr.map some) (hnC : va_nd isC = true) (hn : va_nd isR = true) (hdis : ∀ i ∈ isR, i ∉ isC)
    (hAs : As.length = n) (hls : ls.size = nL) (hst : st0 = As.reverse ++ .ref b :: rest) (hmr : 2 * (F0 m pc ls st0).monitorRoom + (rest.map fun v => v.category).sum ≤ 8) (hdg : decode cc pc = .ok (.invokespecial idx, 3)) (hcs : cells + mc ≤ R.cells ∧ slots + ms ≤ R.slots)
    (kk : ∀ (w1 : va_W) (ty1 : List (ClassId × FieldType)) (H1 : Heap) (locs1 : List Loc), Z w1 ty1 → va_K D classes (tys ++ ty1) s → va_P D classes (wr ++ w1) H1 → va_D A (wr ++ w1) → va_S A s.heap H1 locs1 → W p l e R s m args below meth c H1 locs1 (cells + mc) (slots + ms) Q (F0 m (pc + 3) ls rest)) :
    W p l e R s m args below meth c H locs cells slots Q (F0 m pc ls st0) := by
  have hFc := va_free (wc := wc) hD hS hA isC hC
  have hpre := gP_of (av := .ref b :: As) hK hP hD hS hA hX isC [] hC hnC rfl
  have hrun := va_runI (e := e) (below := below) (meth := meth) (locs := locs) (g := F0 m pc ls st0) (cells := cells) (slots := slots) (As := As) (rest := rest) (b := b) S0 hM (cwI n S0.2.2.2.2 (code0 hcd) rfl hrm.1 hrm.2.1 (S0.2.2.2.2 _ hini) hl (S0.2.2.2.2 _ hin) hd.1 hd.2 ⟨hrm.2.2.1, hrm.2.2.2⟩) ⟨gP_blind, hpre⟩ rfl hAs hls hst hmr hdg hcs
  refine va_callv hrun hS (fun q _ h => hFc q h) hFc (fun u t H1 locs1 ht hvm hw hB hz1 hk1 hS1 => ?_)
  obtain ⟨w1, ty1, hz, hP1, hK1, hD1⟩ := hB
  rw [ht] at hP1
  obtain ⟨hP2, hD2⟩ := va_join (wr := wr) (w1 := w1) hP hD isC isR hC hR hn hdis hk1 hFc hP1 hD1
  exact kk w1 ty1 H1 locs1 hz (hK.app (va_K.moved hvm.symm hK1)) hP2 hD2 hS1
theorem clIN {D : va_G} {own host : String} {idx maxL nL n pc mc ms : Nat} {y : MethodName} {bytes cc : ByteArray} {rm : Room} {b : Nat} {As rest st0 : List Value} {ls : Array Slot} {w wc wr : va_W} {Z : va_W → List (ClassId × FieldType) → Prop} {tys : List (ClassId × FieldType)} {A : Nat → Prop} {X : SXT}
    (S0 : CallFix p m c cc nL s args w0 own)
    (hM : Met l y (.code y bytes maxL none :: w0) rm (va_Pc (.ref b :: As) (gP D wc [] H.size X)) (va_Qv (fun (_ : Unit) => True) (gZ D Z (va_A wc H.size)) (va_A wc H.size)) mc ms (va_A wc H.size))
    (hZ : va_Nw (.methodLinkNest own idx y host) s) (hini : Cond.initialized y.cls ∈ w0) (hin : Cond.instanceMethod y ∈ w0) (hcd : Cond.code y bytes maxL none ∈ w0)
    (hd : y.name = "<init>" ∧ y.cls ≠ "java/lang/invoke/MethodHandle" ∧ y.cls ≠ "java/lang/invoke/VarHandle" ∧ (parseMethodDescriptor y.desc).map (fun d => d.parameters.length) = some n)
    (hrm : rm.cells = mc ∧ rm.slots = ms ∧ rm.frames + 1 ≤ R.frames ∧ 8 + (maxL + 11) + rm.locals ≤ R.locals)
    (hK : va_K D classes tys s) (hP : va_P D classes w H) (hD : va_D A w) (hS : va_S A s.heap H locs) (hA : ∀ q, s.heap.size ≤ q → A q) (hX : SX X A s s.heap)
    (isC isR : List Nat) (hC : isC.map (fun i => w[i]?) = wc.map some) (hR : isR.map (fun i => w[i]?) = wr.map some) (hnC : va_nd isC = true) (hn : va_nd isR = true) (hdis : ∀ i ∈ isR, i ∉ isC)
    (hAs : As.length = n) (hls : ls.size = nL) (hst : st0 = As.reverse ++ .ref b :: rest) (hmr : 2 * (F0 m pc ls st0).monitorRoom + (rest.map fun v => v.category).sum ≤ 8) (hdg : decode cc pc = .ok (.invokespecial idx, 3)) (hcs : cells + mc ≤ R.cells ∧ slots + ms ≤ R.slots)
    (kk : ∀ (w1 : va_W) (ty1 : List (ClassId × FieldType)) (H1 : Heap) (locs1 : List Loc), Z w1 ty1 → va_K D classes (tys ++ ty1) s → va_P D classes (wr ++ w1) H1 → va_D A (wr ++ w1) → va_S A s.heap H1 locs1 → W p l e R s m args below meth c H1 locs1 (cells + mc) (slots + ms) Q (F0 m (pc + 3) ls rest)) :
    W p l e R s m args below meth c H locs cells slots Q (F0 m pc ls st0) := by
  have hFc := va_free (wc := wc) hD hS hA isC hC
  have hpre := gP_of (av := .ref b :: As) hK hP hD hS hA hX isC [] hC hnC rfl
  have hrun := va_runIN (e := e) (below := below) (meth := meth) (locs := locs) (host := host) (g := F0 m pc ls st0) (cells := cells) (slots := slots) (As := As) (rest := rest) (b := b) S0 hM ⟨va_cnB n S0.2.2.2.2 (code0 hcd) rfl hrm.1 hrm.2.1 hZ (S0.2.2.2.2 _ hini) hd.2 ⟨hrm.2.2.1, hrm.2.2.2⟩, hd.1, S0.2.2.2.2 _ hin⟩ ⟨gP_blind, hpre⟩ rfl hAs hls hst hmr hdg hcs
  refine va_callv hrun hS (fun q _ h => hFc q h) hFc (fun u t H1 locs1 ht hvm hw hB hz1 hk1 hS1 => ?_)
  obtain ⟨w1, ty1, hz, hP1, hK1, hD1⟩ := hB
  rw [ht] at hP1
  obtain ⟨hP2, hD2⟩ := va_join (wr := wr) (w1 := w1) hP hD isC isR hC hR hn hdis hk1 hFc hP1 hD1
  exact kk w1 ty1 H1 locs1 hz (hK.app (va_K.moved hvm.symm hK1)) hP2 hD2 hS1
end Ctors9


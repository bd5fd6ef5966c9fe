/-- what the start gives of statics and texts -/
def tmS (i : Nat) : Term := match sites[i]? with
  | some q => .string q.1 q.2.1
  | none => .string "" 0
set_option maxHeartbeats 4000000 in
set_option maxRecDepth 100000 in
theorem sx_of {p : Program} {s : State} {m : MethodId} {meth : Method} {c : Code} {b L : Nat} {xs : Nat → Int32} (C0 : lw_At p s m meth c b L xs) : ∃ X : SXT, SX X (fun q : Nat => s.heap.size ≤ q) s s.heap := by
  obtain ⟨hx, hb, hr, hml, hown, htt, hXs, hbl, hlk, hgv⟩ := C0
  have hs := flat_of_before _ hgv
  have hA : ∀ a : Nat, a < s.heap.size → ¬ (fun q : Nat => s.heap.size ≤ q) a := fun a h => Nat.not_le.mpr h
  obtain ⟨t, et, hT⟩ := va_Tof (tm := .static "NumeralTexts$Decimal" "TENS" "[I") (ty := .int) (N := 9) (f := fun j => .int (tb_Decimal_TENS j)) (A := fun q : Nat => s.heap.size ≤ q) (by decide) (hs _ (by decide +kernel)) (va_eqt (hs _ (by decide +kernel))) (fun j hj => va_eqt (hs _ ((by decide +kernel : ∀ j : Nat, j < 9 → Cond.eq (.elem (.static "NumeralTexts$Decimal" "TENS" "[I") (.int (Int32.ofNat j))) (.int (tb_Decimal_TENS j)) ∈ flatC (Jvm.Cond.and given_1 narrow_1)) j hj))) hA
  obtain ⟨adK, adV, hS, eS⟩ := vk_Sof (args := #[Value.ref b]) (s := s) (N := 9) (tm := tmS) (len := lenS) (byt := bytS) (A := fun q : Nat => s.heap.size ≤ q) (by decide +kernel) (fun i hi => hs _ ((by decide +kernel : ∀ i : Nat, i < 9 → Cond.exactly (tmS i) "java/lang/String" ∈ flatC (Jvm.Cond.and given_1 narrow_1)) i hi)) (fun i hi => hs _ ((by decide +kernel : ∀ i : Nat, i < 9 → Cond.eq (.field (tmS i) "java/lang/String" "coder" "B") (.int 0) ∈ flatC (Jvm.Cond.and given_1 narrow_1)) i hi)) (fun i hi => hs _ ((by decide +kernel : ∀ i : Nat, i < 9 → Cond.arrayOf (.field (tmS i) "java/lang/String" "value" "[B") .byte ∈ flatC (Jvm.Cond.and given_1 narrow_1)) i hi)) (fun i hi => hs _ ((by decide +kernel : ∀ i : Nat, i < 9 → Cond.eq (.length (.field (tmS i) "java/lang/String" "value" "[B")) (.int (Int32.ofNat (lenS.getD i 0))) ∈ flatC (Jvm.Cond.and given_1 narrow_1)) i hi)) (fun i hi j hj => hs _ ((by decide +kernel : ∀ i : Nat, i < 9 → ∀ j : Nat, j < lenS.getD i 0 → Cond.eq (.elem (.field (tmS i) "java/lang/String" "value" "[B") (.int (Int32.ofNat j))) (.int ((bytS.getD i []).getD j 0)) ∈ flatC (Jvm.Cond.and given_1 narrow_1)) i hi j hj)) (fun i j hi hj hij => ((by decide +kernel : ∀ i : Nat, i < 9 → ∀ j : Nat, j < 9 → i ≠ j → Cond.not (Cond.eq (tmS i) (tmS j)) ∈ flatC (Jvm.Cond.and given_1 narrow_1) ∨ Cond.not (Cond.eq (tmS j) (tmS i)) ∈ flatC (Jvm.Cond.and given_1 narrow_1)) i hi j hj hij).elim (fun h => Or.inl (hs _ h)) (fun h => Or.inr (hs _ h))) hA
  have hR : ∀ (i : Nat) (q : String × Nat × String), sites[i]? = some q → vk_R q.1 q.2.1 q.2.2 (adK i) s := by
    intro i q hq
    have hi : i < 9 := (List.getElem?_eq_some_iff.mp hq).1
    refine vk_R.of (A := #[Value.ref b]) (htt _ ((by decide +kernel : ∀ q ∈ sites, Cond.stringRef q.1 q.2.1 q.2.2 ∈ lw_tbl) q (List.mem_of_getElem? hq))) ?_
    have h := eS i hi
    unfold tmS at h
    rw [hq] at h
    exact h
  have hN : ∀ (i : Nat) (q : String × Nat × MethodName × String), nests[i]? = some q → va_Nw (.methodLinkNest q.1 q.2.1 q.2.2.1 q.2.2.2) s := fun i q hq => va_Nw.of rfl (htt _ ((by decide +kernel : ∀ q ∈ nests, Cond.methodLinkNest q.1 q.2.1 q.2.2.1 q.2.2.2 ∈ lw_tbl) q (List.mem_of_getElem? hq)))
  have hZ1 := va_Zref (A := fun q : Nat => s.heap.size ≤ q) (htt (.laysStatic "NumeralTexts$Decimal" "TENS" "[I") (by decide +kernel)) (htt (.initialized "NumeralTexts$Decimal") (by decide +kernel)) et hA
  have hZ2 := va_Zof (A := fun q : Nat => s.heap.size ≤ q) (htt (.laysStatic "java/lang/String" "COMPACT_STRINGS" "Z") (by decide +kernel)) (htt (.initialized "java/lang/String") (by decide +kernel)) (va_eqt (z := 1) (hs _ (by decide +kernel))) hA
  have hZ3 := va_Zqof (A := fun q : Nat => s.heap.size ≤ q) (htt (.laysStatic "jdk/internal/util/Preconditions" "SIOOBE_FORMATTER" "Ljava/util/function/BiFunction;") (by decide +kernel)) (htt (.initialized "jdk/internal/util/Preconditions") (by decide +kernel)) (hs _ (by decide +kernel)) hA
  rcases hZ3 with hZ3 | ⟨t3, hZ3⟩
  · exact ⟨(t, adK, adV, none), hZ1, hT, hS, hZ2, hR, hN, hZ3⟩
  · exact ⟨(t, adK, adV, some t3), hZ1, hT, hS, hZ2, hR, hN, hZ3⟩


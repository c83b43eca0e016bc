/-! the String constants at the start -/
def tmS (i : Nat) : Term := if i = 0 then Term.string RX9 67 else Term.string RX9 52
def flS : List Cond := flatC (Jvm.Cond.and given_1 narrow_1)
theorem fS_ex : ∀ i, i < 2 → Cond.exactly (tmS i) "java/lang/String" ∈ flS := by decide +kernel
theorem fS_co : ∀ i, i < 2 → Cond.eq (.field (tmS i) "java/lang/String" "coder" "B") (.int 0) ∈ flS := by decide +kernel
theorem fS_ar : ∀ i, i < 2 → Cond.arrayOf (.field (tmS i) "java/lang/String" "value" "[B") .byte ∈ flS := by decide +kernel
theorem fS_le : ∀ i, i < 2 → Cond.eq (.length (.field (tmS i) "java/lang/String" "value" "[B")) (.int (Int32.ofNat (lenS.getD i 0))) ∈ flS := by decide +kernel
set_option maxRecDepth 100000 in
theorem fS_el : ∀ i, i < 2 → ∀ j, j < lenS.getD i 0 → Cond.eq (.elem (.field (tmS i) "java/lang/String" "value" "[B") (.int (Int32.ofNat j))) (.int ((bytS.getD i []).getD j 0)) ∈ flS := by decide +kernel
theorem fS_ne : Cond.not (Cond.eq (tmS 0) (tmS 1)) ∈ flS := by decide +kernel
theorem start_S {s : State} {b : Nat} {A : Nat → Prop} (hts : ∀ w ∈ lw_tbl, w.before #[Value.ref b] s = true) (hgv : (Jvm.Cond.and given_1 narrow_1).before #[Value.ref b] s = true) (hA : ∀ a : Nat, a < s.heap.size → ¬ A a) : ∃ K : (Nat → Nat) × (Nat → Nat), SE K A s := by
  have hs : ∀ w ∈ flS, w.before #[Value.ref b] s = true := flat_of_before _ hgv
  obtain ⟨adK, adV, hS, ht⟩ := vk_Sof (args := #[Value.ref b]) (s := s) (N := 2) (tm := tmS) (len := lenS) (byt := bytS) (A := A) (by decide +kernel) (fun i hi => hs _ (fS_ex i hi)) (fun i hi => hs _ (fS_co i hi)) (fun i hi => hs _ (fS_ar i hi)) (fun i hi => hs _ (fS_le i hi)) (fun i hi j hj => hs _ (fS_el i hi j hj)) (fun i j hi hj hij => by
    rcases (show (i = 0 ∧ j = 1) ∨ (i = 1 ∧ j = 0) by omega) with ⟨rfl, rfl⟩ | ⟨rfl, rfl⟩
    · exact Or.inl (hs _ fS_ne)
    · exact Or.inr (hs _ fS_ne)) hA
  refine ⟨(adK, adV), hS, ?_, ?_, ?_, ?_⟩
  · exact vk_R.of (hts (.stringRef RX9 67 txW) (List.mem_of_getElem? (i := 550) (by decide +kernel))) (ht 0 (by decide))
  · exact vk_R.of (hts (.stringRef RX9 52 txS) (List.mem_of_getElem? (i := 607) (by decide +kernel))) (ht 1 (by decide))
  · exact va_Zof (hts (.laysStatic RJ0 "COMPACT_STRINGS" "Z") (List.mem_of_getElem? (i := 560) (by decide +kernel))) (hts (.initialized RJ0) (List.mem_of_getElem? (i := 108) (by decide +kernel))) (va_eqt (hs (Cond.eq (Term.static RJ0 "COMPACT_STRINGS" "Z") (.int 1)) (by decide +kernel))) hA
  · exact va_Zqof (hts (.laysStatic RJ3 "SIOOBE_FORMATTER" "Ljava/util/function/BiFunction;") (List.mem_of_getElem? (i := 576) (by decide +kernel))) (hts (.initialized RJ3) (List.mem_of_getElem? (i := 110) (by decide +kernel))) (hs (Cond.isRef (Term.static RJ3 "SIOOBE_FORMATTER" "Ljava/util/function/BiFunction;")) (by decide +kernel)) hA


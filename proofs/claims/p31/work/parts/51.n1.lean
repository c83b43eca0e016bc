theorem dX12_nextOf_0 : decode cX12_nextOf 0 = .ok (.iload_n 0, 1) := by decide +kernel
theorem dX12_nextOf_1 : decode cX12_nextOf 1 = .ok (.iconst 1, 1) := by decide +kernel
theorem dX12_nextOf_2 : decode cX12_nextOf 2 = .ok (.iand, 1) := by decide +kernel
theorem dX12_nextOf_3 : decode cX12_nextOf 3 = .ok (.ifCond .ne 15, 3) := by decide +kernel
theorem dX12_nextOf_6 : decode cX12_nextOf 6 = .ok (.iload_n 1, 1) := by decide +kernel
theorem dX12_nextOf_7 : decode cX12_nextOf 7 = .ok (.ifCond .ne 9, 3) := by decide +kernel
theorem dX12_nextOf_10 : decode cX12_nextOf 10 = .ok (.iload_n 0, 1) := by decide +kernel
theorem dX12_nextOf_11 : decode cX12_nextOf 11 = .ok (.iconst 1, 1) := by decide +kernel
theorem dX12_nextOf_12 : decode cX12_nextOf 12 = .ok (.ishr, 1) := by decide +kernel
theorem dX12_nextOf_13 : decode cX12_nextOf 13 = .ok (.goto 4, 3) := by decide +kernel
theorem dX12_nextOf_16 : decode cX12_nextOf 16 = .ok (.iconst (-1), 1) := by decide +kernel
theorem dX12_nextOf_17 : decode cX12_nextOf 17 = .ok (.ireturn, 1) := by decide +kernel
theorem dX12_nextOf_18 : decode cX12_nextOf 18 = .ok (.iload_n 1, 1) := by decide +kernel
theorem dX12_nextOf_19 : decode cX12_nextOf 19 = .ok (.ifCond .eq 12, 3) := by decide +kernel
theorem dX12_nextOf_22 : decode cX12_nextOf 22 = .ok (.iload_n 0, 1) := by decide +kernel
theorem dX12_nextOf_23 : decode cX12_nextOf 23 = .ok (.iload_n 1, 1) := by decide +kernel
theorem dX12_nextOf_24 : decode cX12_nextOf 24 = .ok (.ishr, 1) := by decide +kernel
theorem dX12_nextOf_25 : decode cX12_nextOf 25 = .ok (.iconst 1, 1) := by decide +kernel
theorem dX12_nextOf_26 : decode cX12_nextOf 26 = .ok (.iand, 1) := by decide +kernel
theorem dX12_nextOf_27 : decode cX12_nextOf 27 = .ok (.iconst 1, 1) := by decide +kernel
theorem dX12_nextOf_28 : decode cX12_nextOf 28 = .ok (.if_icmp .ne 5, 3) := by decide +kernel
theorem dX12_nextOf_31 : decode cX12_nextOf 31 = .ok (.iconst (-1), 1) := by decide +kernel
theorem dX12_nextOf_32 : decode cX12_nextOf 32 = .ok (.ireturn, 1) := by decide +kernel
theorem dX12_nextOf_33 : decode cX12_nextOf 33 = .ok (.iload_n 0, 1) := by decide +kernel
theorem dX12_nextOf_34 : decode cX12_nextOf 34 = .ok (.iconst 1, 1) := by decide +kernel
theorem dX12_nextOf_35 : decode cX12_nextOf 35 = .ok (.ishr, 1) := by decide +kernel
theorem dX12_nextOf_36 : decode cX12_nextOf 36 = .ok (.iconst 1, 1) := by decide +kernel
theorem dX12_nextOf_37 : decode cX12_nextOf 37 = .ok (.iload_n 1, 1) := by decide +kernel
theorem dX12_nextOf_38 : decode cX12_nextOf 38 = .ok (.iconst 1, 1) := by decide +kernel
theorem dX12_nextOf_39 : decode cX12_nextOf 39 = .ok (.isub, 1) := by decide +kernel
theorem dX12_nextOf_40 : decode cX12_nextOf 40 = .ok (.ishl, 1) := by decide +kernel
theorem dX12_nextOf_41 : decode cX12_nextOf 41 = .ok (.ior, 1) := by decide +kernel
theorem dX12_nextOf_42 : decode cX12_nextOf 42 = .ok (.ireturn, 1) := by decide +kernel
/-! nextOf -/
def nxt (s h : Int32) : Int32 := if (s &&& 1).toInt ≠ 0 then (if h.toInt = 0 then -1 else if ((s >>> (h &&& 31)) &&& 1).toInt ≠ (1 : Int32).toInt then (s >>> ((1 : Int32) &&& 31)) ||| ((1 : Int32) <<< ((h - 1) &&& 31)) else -1) else (if h.toInt ≠ 0 then -1 else s >>> ((1 : Int32) &&& 31))
theorem S_X12_nextOf {l : Launch} {D : va_G} {ids : List Nat} {ad : Nat → Nat} {ca : Nat → ClassId} {σ : HS} {x1 x2 : Int32} (hid : ∀ i, i < 277 → i ∈ ids) (hG : GIm σ) : Ki l D ids ad ca yX12_nextOf cX12_nextOf 2 .int 0 0 [.int x1, .int x2] σ (fun r σ1 => (σ1 = σ) ∧ (r = nxt x1 x2)) := by
  refine Ki.of (by decide) (Nat.le_of_ble_eq_true rfl) 0 (fun Γ C Rt => ?_)
  show AW ids ad ca Γ 0 [some (.int x1), some (.int x2)] [] σ
  refine a_iload_n C dX12_nextOf_0 (i := 0) rfl rfl ?_
  refine a_iconst C dX12_nextOf_1 (v := 1) rfl ?_
  refine a_iand C dX12_nextOf_2 ?_
  refine s_if_ne C dX12_nextOf_3 (tgt := 18) rfl (fun c1 => ?_) (fun c1 => ?_)
  · refine a_iload_n C dX12_nextOf_18 (i := 1) rfl rfl ?_
    have r31 : nxt x1 x2 = -1 → AW ids ad ca Γ 31 [some (.int x1), some (.int x2)] [] σ := by
      intro e
      refine a_iconst C dX12_nextOf_31 (v := -1) rfl ?_
      exact a_iret Rt dX12_nextOf_32 rfl ⟨rfl, e.symm⟩
    refine s_if_eq C dX12_nextOf_19 (tgt := 31) rfl (fun c2 => r31 (by unfold nxt; rw [if_pos c1, if_pos c2])) (fun c2 => ?_)
    refine a_iload_n C dX12_nextOf_22 (i := 0) rfl rfl ?_
    refine a_iload_n C dX12_nextOf_23 (i := 1) rfl rfl ?_
    refine a_ishr C dX12_nextOf_24 ?_
    refine a_iconst C dX12_nextOf_25 (v := 1) rfl ?_
    refine a_iand C dX12_nextOf_26 ?_
    refine a_iconst C dX12_nextOf_27 (v := 1) rfl ?_
    refine s_ic_ne C dX12_nextOf_28 (tgt := 33) rfl (fun c3 => ?_) (fun c3 => r31 (by unfold nxt; rw [if_pos c1, if_neg c2, if_neg (fun h => h c3)]))
    refine a_iload_n C dX12_nextOf_33 (i := 0) rfl rfl ?_
    refine a_iconst C dX12_nextOf_34 (v := 1) rfl ?_
    refine a_ishr C dX12_nextOf_35 ?_
    refine a_iconst C dX12_nextOf_36 (v := 1) rfl ?_
    refine a_iload_n C dX12_nextOf_37 (i := 1) rfl rfl ?_
    refine a_iconst C dX12_nextOf_38 (v := 1) rfl ?_
    refine a_isub C dX12_nextOf_39 ?_
    refine a_ishl C dX12_nextOf_40 ?_
    refine a_ior C dX12_nextOf_41 ?_
    exact a_iret Rt dX12_nextOf_42 rfl ⟨rfl, by unfold nxt; rw [if_pos c1, if_neg c2, if_pos c3]⟩
  · refine a_iload_n C dX12_nextOf_6 (i := 1) rfl rfl ?_
    refine s_if_ne C dX12_nextOf_7 (tgt := 16) rfl (fun c2 => ?_) (fun c2 => ?_)
    · refine a_iconst C dX12_nextOf_16 (v := -1) rfl ?_
      exact a_iret Rt dX12_nextOf_17 rfl ⟨rfl, by unfold nxt; rw [if_neg (fun h => h c1), if_pos c2]⟩
    · refine a_iload_n C dX12_nextOf_10 (i := 0) rfl rfl ?_
      refine a_iconst C dX12_nextOf_11 (v := 1) rfl ?_
      refine a_ishr C dX12_nextOf_12 ?_
      refine a_goto C dX12_nextOf_13 (tgt := 17) rfl ?_
      exact a_iret Rt dX12_nextOf_17 rfl ⟨rfl, by unfold nxt; rw [if_neg (fun h => h c1), if_neg (fun h => h c2)]⟩
theorem mz_shr1 {x : Int32} (hx : 0 ≤ x.toInt) : (x >>> ((1 : Int32) &&& 31)).toInt = x.toInt / 2 := by
  obtain ⟨n, hn, e, e2⟩ := i32_nat hx
  rw [e, show ((1 : Int32) &&& 31) = 1 by decide, pk_shrN hn 1 1 (by decide), nI_toInt (by omega), nI_toInt hn]
  omega
theorem mz_tab : ∀ e, e ≤ 15 → 1 ≤ ((1 : Int32) <<< (nI e &&& 31)).toInt ∧ ((1 : Int32) <<< (nI e &&& 31)).toInt ≤ 32768 := by decide
theorem mz_tab8 : ∀ e, e ≤ 9 → 1 ≤ ((1 : Int32) <<< (nI e &&& 31)).toInt ∧ ((1 : Int32) <<< (nI e &&& 31)).toInt ≤ 512 := by decide
theorem mz_shl {y : Int32} (hy : 0 ≤ y.toInt ∧ y.toInt ≤ 9) : 1 ≤ ((1 : Int32) <<< (y &&& 31)).toInt ∧ ((1 : Int32) <<< (y &&& 31)).toInt ≤ 512 := by
  obtain ⟨n, hn, e, e2⟩ := i32_nat hy.1
  rw [e]
  exact mz_tab8 n (by omega)
theorem nxt_le {s h : Int32} (hs : 0 ≤ s.toInt ∧ s.toInt ≤ 1023) (hh : 0 ≤ h.toInt ∧ h.toInt ≤ 9) : (nxt s h).toInt ≤ 1023 := by
  have a := mz_shr1 hs.1
  have m1 : ((-1 : Int32)).toInt = -1 := by decide
  unfold nxt
  by_cases c1 : (s &&& 1).toInt ≠ 0
  · rw [if_pos c1]
    by_cases c2 : h.toInt = 0
    · rw [if_pos c2, m1]; omega
    · rw [if_neg c2]
      by_cases c3 : ((s >>> (h &&& 31)) &&& 1).toInt ≠ (1 : Int32).toInt
      · rw [if_pos c3]
        have e : (h - 1).toInt = h.toInt - 1 := by
          have e1 : (1 : Int32).toInt = 1 := by decide
          have := i32_sub (x := h) (y := 1) (by omega)
          omega
        have b := mz_shl (y := h - 1) (by omega)
        have := i32_or 10 (by decide) (x := s >>> ((1 : Int32) &&& 31)) (y := (1 : Int32) <<< ((h - 1) &&& 31)) ⟨by omega, by omega⟩ ⟨by omega, by omega⟩
        omega
      · rw [if_neg c3, m1]; omega
  · rw [if_neg c1]
    by_cases c2 : h.toInt ≠ 0
    · rw [if_pos c2, m1]; omega
    · rw [if_neg c2]; omega

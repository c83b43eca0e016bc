set_option maxRecDepth 100000 in
theorem la_14 {Γ : GT} {ids : List Nat} {ad : Nat → Nat} {ca : Nat → ClassId} {l0 : Launch} {D0 : va_G} {b : Nat} {xs : Nat → Int32} (C : CT ids ad ca Γ code RL l0 D0 2048 84000 4) (X : SX Γ b 6 xs) (hid : ∀ i, i < 277 → i ∈ ids) (K : ∀ σ : HS, AW ids ad ca Γ 1338 [some (.ref b), some (.ref (ad 0)), some (.ref (ad 236)), some (.int 0)] [] σ) : AW ids ad ca Γ 598 [some (.ref b), some (.ref (ad 0)), some (.ref (ad 236)), some (.int 0)] [] s0 := by
  refine a_aload_n C dL_law_598 (i := 1) rfl rfl ?_
  refine a_aload_n C dL_law_599 (i := 0) rfl rfl ?_
  refine a_iload_n C dL_law_600 (i := 3) rfl rfl ?_
  refine a_iconst C dL_law_601 (v := 1) rfl ?_
  refine a_iadd C dL_law_602 ?_
  refine a_sld C X 1 rfl (by decide) (by decide) dL_law_603 ?_
  obtain ⟨v, ⟨fr, lo, hf, hl, hM⟩, hR⟩ := b_inHand (l := l0) (D := D0) (ad := ad) (ca := ca) (p0 := (xs 1)) hid
  refine a_callVi C (i := 0) kd_0 (hid 0 (by decide)) ⟨_, _, rfl⟩ (by decide) hM mi_X11_inHand ml_RL_77 rfl rfl (by omega) (by omega) (Nat.le_of_ble_eq_true rfl) dL_law_604 (fun r σ1 q1 => ?_)
  obtain ⟨rfl, hk⟩ := q1
  obtain ⟨fr2, lo2, hf2, hl2, hM2⟩ := hR σ1 hk
  refine a_aload_n C dL_law_607 (i := 2) rfl rfl ?_
  refine a_aload_n C dL_law_608 (i := 0) rfl rfl ?_
  refine a_iload_n C dL_law_609 (i := 3) rfl rfl ?_
  refine a_iconst C dL_law_610 (v := 1) rfl ?_
  refine a_iadd C dL_law_611 ?_
  refine a_sld C X 1 rfl (by decide) (by decide) dL_law_612 ?_
  refine a_callVi C (i := 236) kd_236 (hid 236 (by decide)) ⟨_, _, rfl⟩ (by decide) hM2 mi_X12_inHand ml_RL_80 rfl rfl (by omega) (by omega) (Nat.le_of_ble_eq_true rfl) dL_law_613 (fun r2 σ2 q2 => ?_)
  refine a_ic_eq C dL_law_616 (tgt := 1338) rfl (fun _ => K σ2) (fun h => absurd q2.symm h)
set_option maxRecDepth 100000 in
theorem la_15 {Γ : GT} {ids : List Nat} {ad : Nat → Nat} {ca : Nat → ClassId} {l0 : Launch} {D0 : va_G} {b : Nat} {xs : Nat → Int32} (C : CT ids ad ca Γ code RL l0 D0 2048 84000 4) (X : SX Γ b 6 xs) (hid : ∀ i, i < 277 → i ∈ ids) (K : ∀ σ : HS, AW ids ad ca Γ 1338 [some (.ref b), some (.ref (ad 0)), some (.ref (ad 236)), some (.int 0)] [] σ) : AW ids ad ca Γ 621 [some (.ref b), some (.ref (ad 0)), some (.ref (ad 236)), some (.int 0)] [] s0 := by
  refine a_aload_n C dL_law_621 (i := 1) rfl rfl ?_
  obtain ⟨v, ⟨fr, lo, hf, hl, hM⟩, hR⟩ := b_clash (l := l0) (D := D0) (ad := ad) (ca := ca) hid
  refine a_callVi C (i := 0) kd_0 (hid 0 (by decide)) ⟨_, _, rfl⟩ (by decide) hM mi_X11_clash ml_RL_81 rfl rfl (by omega) (by omega) (Nat.le_of_ble_eq_true rfl) dL_law_622 (fun r σ1 q1 => ?_)
  obtain ⟨rfl, hk⟩ := q1
  obtain ⟨fr2, lo2, hf2, hl2, hM2⟩ := hR σ1 hk
  refine a_aload_n C dL_law_625 (i := 2) rfl rfl ?_
  refine a_callVi C (i := 236) kd_236 (hid 236 (by decide)) ⟨_, _, rfl⟩ (by decide) hM2 mi_X12_clash ml_RL_84 rfl rfl (by omega) (by omega) (Nat.le_of_ble_eq_true rfl) dL_law_626 (fun r2 σ2 q2 => ?_)
  refine a_ic_eq C dL_law_629 (tgt := 1338) rfl (fun _ => K σ2) (fun h => absurd q2.symm h)
set_option maxRecDepth 100000 in
theorem la_16 {Γ : GT} {ids : List Nat} {ad : Nat → Nat} {ca : Nat → ClassId} {l0 : Launch} {D0 : va_G} {b : Nat} {xs : Nat → Int32} (C : CT ids ad ca Γ code RL l0 D0 2048 84000 4) (X : SX Γ b 6 xs) (hid : ∀ i, i < 277 → i ∈ ids) (K : ∀ σ : HS, AW ids ad ca Γ 1338 [some (.ref b), some (.ref (ad 0)), some (.ref (ad 236)), some (.int 0)] [] σ) : AW ids ad ca Γ 634 [some (.ref b), some (.ref (ad 0)), some (.ref (ad 236)), some (.int 0)] [] s0 := by
  refine a_aload_n C dL_law_634 (i := 1) rfl rfl ?_
  refine a_aload_n C dL_law_635 (i := 0) rfl rfl ?_
  refine a_iload_n C dL_law_636 (i := 3) rfl rfl ?_
  refine a_iconst C dL_law_637 (v := 1) rfl ?_
  refine a_iadd C dL_law_638 ?_
  refine a_sld C X 1 rfl (by decide) (by decide) dL_law_639 ?_
  refine a_aload_n C dL_law_640 (i := 0) rfl rfl ?_
  refine a_iload_n C dL_law_641 (i := 3) rfl rfl ?_
  refine a_iconst C dL_law_642 (v := 2) rfl ?_
  refine a_iadd C dL_law_643 ?_
  refine a_sld C X 2 rfl (by decide) (by decide) dL_law_644 ?_
  obtain ⟨v, ⟨fr, lo, hf, hl, hM⟩, hR⟩ := b_into (l := l0) (D := D0) (ad := ad) (ca := ca) (p0 := (xs 1)) (p1 := (xs 2)) hid
  refine a_callVi C (i := 0) kd_0 (hid 0 (by decide)) ⟨_, _, rfl⟩ (by decide) hM mi_X11_into ml_RL_85 rfl rfl (by omega) (by omega) (Nat.le_of_ble_eq_true rfl) dL_law_645 (fun r σ1 q1 => ?_)
  obtain ⟨rfl, hk⟩ := q1
  obtain ⟨fr2, lo2, hf2, hl2, hM2⟩ := hR σ1 hk
  refine a_aload_n C dL_law_648 (i := 2) rfl rfl ?_
  refine a_aload_n C dL_law_649 (i := 0) rfl rfl ?_
  refine a_iload_n C dL_law_650 (i := 3) rfl rfl ?_
  refine a_iconst C dL_law_651 (v := 1) rfl ?_
  refine a_iadd C dL_law_652 ?_
  refine a_sld C X 1 rfl (by decide) (by decide) dL_law_653 ?_
  refine a_aload_n C dL_law_654 (i := 0) rfl rfl ?_
  refine a_iload_n C dL_law_655 (i := 3) rfl rfl ?_
  refine a_iconst C dL_law_656 (v := 2) rfl ?_
  refine a_iadd C dL_law_657 ?_
  refine a_sld C X 2 rfl (by decide) (by decide) dL_law_658 ?_
  refine a_callVi C (i := 236) kd_236 (hid 236 (by decide)) ⟨_, _, rfl⟩ (by decide) hM2 mi_X12_into ml_RL_88 rfl rfl (by omega) (by omega) (Nat.le_of_ble_eq_true rfl) dL_law_659 (fun r2 σ2 q2 => ?_)
  refine a_ic_eq C dL_law_662 (tgt := 1338) rfl (fun _ => K σ2) (fun h => absurd q2.symm h)
set_option maxRecDepth 100000 in
theorem la_17 {Γ : GT} {ids : List Nat} {ad : Nat → Nat} {ca : Nat → ClassId} {l0 : Launch} {D0 : va_G} {b : Nat} {xs : Nat → Int32} (C : CT ids ad ca Γ code RL l0 D0 2048 84000 4) (X : SX Γ b 6 xs) (hid : ∀ i, i < 277 → i ∈ ids) (K : ∀ σ : HS, AW ids ad ca Γ 1338 [some (.ref b), some (.ref (ad 0)), some (.ref (ad 236)), some (.int 0)] [] σ) : AW ids ad ca Γ 667 [some (.ref b), some (.ref (ad 0)), some (.ref (ad 236)), some (.int 0)] [] s0 := by
  refine a_aload_n C dL_law_667 (i := 1) rfl rfl ?_
  refine a_aload_n C dL_law_668 (i := 0) rfl rfl ?_
  refine a_iload_n C dL_law_669 (i := 3) rfl rfl ?_
  refine a_iconst C dL_law_670 (v := 1) rfl ?_
  refine a_iadd C dL_law_671 ?_
  refine a_sld C X 1 rfl (by decide) (by decide) dL_law_672 ?_
  refine a_aload_n C dL_law_673 (i := 0) rfl rfl ?_
  refine a_iload_n C dL_law_674 (i := 3) rfl rfl ?_
  refine a_iconst C dL_law_675 (v := 2) rfl ?_
  refine a_iadd C dL_law_676 ?_
  refine a_sld C X 2 rfl (by decide) (by decide) dL_law_677 ?_
  refine a_aload_n C dL_law_678 (i := 0) rfl rfl ?_
  refine a_iload_n C dL_law_679 (i := 3) rfl rfl ?_
  refine a_iconst C dL_law_680 (v := 3) rfl ?_
  refine a_iadd C dL_law_681 ?_
  refine a_sld C X 3 rfl (by decide) (by decide) dL_law_682 ?_
  obtain ⟨v, ⟨fr, lo, hf, hl, hM⟩, hR⟩ := b_joined (l := l0) (D := D0) (ad := ad) (ca := ca) (p0 := (xs 1)) (p1 := (xs 2)) (p2 := (xs 3)) hid
  refine a_callVi C (i := 0) kd_0 (hid 0 (by decide)) ⟨_, _, rfl⟩ (by decide) hM mi_X11_joined ml_RL_89 rfl rfl (by omega) (by omega) (Nat.le_of_ble_eq_true rfl) dL_law_683 (fun r σ1 q1 => ?_)
  obtain ⟨rfl, hk⟩ := q1
  obtain ⟨fr2, lo2, hf2, hl2, hM2⟩ := hR σ1 hk
  refine a_aload_n C dL_law_686 (i := 2) rfl rfl ?_
  refine a_aload_n C dL_law_687 (i := 0) rfl rfl ?_
  refine a_iload_n C dL_law_688 (i := 3) rfl rfl ?_
  refine a_iconst C dL_law_689 (v := 1) rfl ?_
  refine a_iadd C dL_law_690 ?_
  refine a_sld C X 1 rfl (by decide) (by decide) dL_law_691 ?_
  refine a_aload_n C dL_law_692 (i := 0) rfl rfl ?_
  refine a_iload_n C dL_law_693 (i := 3) rfl rfl ?_
  refine a_iconst C dL_law_694 (v := 2) rfl ?_
  refine a_iadd C dL_law_695 ?_
  refine a_sld C X 2 rfl (by decide) (by decide) dL_law_696 ?_
  refine a_aload_n C dL_law_697 (i := 0) rfl rfl ?_
  refine a_iload_n C dL_law_698 (i := 3) rfl rfl ?_
  refine a_iconst C dL_law_699 (v := 3) rfl ?_
  refine a_iadd C dL_law_700 ?_
  refine a_sld C X 3 rfl (by decide) (by decide) dL_law_701 ?_
  refine a_callVi C (i := 236) kd_236 (hid 236 (by decide)) ⟨_, _, rfl⟩ (by decide) hM2 mi_X12_joined ml_RL_92 rfl rfl (by omega) (by omega) (Nat.le_of_ble_eq_true rfl) dL_law_702 (fun r2 σ2 q2 => ?_)
  refine a_ic_eq C dL_law_705 (tgt := 1338) rfl (fun _ => K σ2) (fun h => absurd q2.symm h)
set_option maxRecDepth 100000 in
theorem la_18 {Γ : GT} {ids : List Nat} {ad : Nat → Nat} {ca : Nat → ClassId} {l0 : Launch} {D0 : va_G} {b : Nat} {xs : Nat → Int32} (C : CT ids ad ca Γ code RL l0 D0 2048 84000 4) (X : SX Γ b 6 xs) (hid : ∀ i, i < 277 → i ∈ ids) (K : ∀ σ : HS, AW ids ad ca Γ 1338 [some (.ref b), some (.ref (ad 0)), some (.ref (ad 236)), some (.int 0)] [] σ) : AW ids ad ca Γ 710 [some (.ref b), some (.ref (ad 0)), some (.ref (ad 236)), some (.int 0)] [] s0 := by
  refine a_aload_n C dL_law_710 (i := 1) rfl rfl ?_
  refine a_aload_n C dL_law_711 (i := 0) rfl rfl ?_
  refine a_iload_n C dL_law_712 (i := 3) rfl rfl ?_
  refine a_iconst C dL_law_713 (v := 1) rfl ?_
  refine a_iadd C dL_law_714 ?_
  refine a_sld C X 1 rfl (by decide) (by decide) dL_law_715 ?_
  refine a_aload_n C dL_law_716 (i := 0) rfl rfl ?_
  refine a_iload_n C dL_law_717 (i := 3) rfl rfl ?_
  refine a_iconst C dL_law_718 (v := 2) rfl ?_
  refine a_iadd C dL_law_719 ?_
  refine a_sld C X 2 rfl (by decide) (by decide) dL_law_720 ?_
  obtain ⟨v, ⟨fr, lo, hf, hl, hM⟩, hR⟩ := b_turned (l := l0) (D := D0) (ad := ad) (ca := ca) (p0 := (xs 1)) (p1 := (xs 2)) hid
  refine a_callVi C (i := 0) kd_0 (hid 0 (by decide)) ⟨_, _, rfl⟩ (by decide) hM mi_X11_turned ml_RL_93 rfl rfl (by omega) (by omega) (Nat.le_of_ble_eq_true rfl) dL_law_721 (fun r σ1 q1 => ?_)
  obtain ⟨rfl, hk⟩ := q1
  obtain ⟨fr2, lo2, hf2, hl2, hM2⟩ := hR σ1 hk
  refine a_aload_n C dL_law_724 (i := 2) rfl rfl ?_
  refine a_aload_n C dL_law_725 (i := 0) rfl rfl ?_
  refine a_iload_n C dL_law_726 (i := 3) rfl rfl ?_
  refine a_iconst C dL_law_727 (v := 1) rfl ?_
  refine a_iadd C dL_law_728 ?_
  refine a_sld C X 1 rfl (by decide) (by decide) dL_law_729 ?_
  refine a_aload_n C dL_law_730 (i := 0) rfl rfl ?_
  refine a_iload_n C dL_law_731 (i := 3) rfl rfl ?_
  refine a_iconst C dL_law_732 (v := 2) rfl ?_
  refine a_iadd C dL_law_733 ?_
  refine a_sld C X 2 rfl (by decide) (by decide) dL_law_734 ?_
  refine a_callVi C (i := 236) kd_236 (hid 236 (by decide)) ⟨_, _, rfl⟩ (by decide) hM2 mi_X12_turned ml_RL_96 rfl rfl (by omega) (by omega) (Nat.le_of_ble_eq_true rfl) dL_law_735 (fun r2 σ2 q2 => ?_)
  refine a_ic_eq C dL_law_738 (tgt := 1338) rfl (fun _ => K σ2) (fun h => absurd q2.symm h)
set_option maxRecDepth 100000 in
theorem la_19 {Γ : GT} {ids : List Nat} {ad : Nat → Nat} {ca : Nat → ClassId} {l0 : Launch} {D0 : va_G} {b : Nat} {xs : Nat → Int32} (C : CT ids ad ca Γ code RL l0 D0 2048 84000 4) (X : SX Γ b 6 xs) (hid : ∀ i, i < 277 → i ∈ ids) (K : ∀ σ : HS, AW ids ad ca Γ 1338 [some (.ref b), some (.ref (ad 0)), some (.ref (ad 236)), some (.int 0)] [] σ) : AW ids ad ca Γ 743 [some (.ref b), some (.ref (ad 0)), some (.ref (ad 236)), some (.int 0)] [] s0 := by
  refine a_aload_n C dL_law_743 (i := 1) rfl rfl ?_
  refine a_aload_n C dL_law_744 (i := 0) rfl rfl ?_
  refine a_iload_n C dL_law_745 (i := 3) rfl rfl ?_
  refine a_iconst C dL_law_746 (v := 1) rfl ?_
  refine a_iadd C dL_law_747 ?_
  refine a_sld C X 1 rfl (by decide) (by decide) dL_law_748 ?_
  obtain ⟨v, ⟨fr, lo, hf, hl, hM⟩, hR⟩ := b_span (l := l0) (D := D0) (ad := ad) (ca := ca) (p0 := (xs 1)) hid
  refine a_callVi C (i := 0) kd_0 (hid 0 (by decide)) ⟨_, _, rfl⟩ (by decide) hM mi_X11_span ml_RL_97 rfl rfl (by omega) (by omega) (Nat.le_of_ble_eq_true rfl) dL_law_749 (fun r σ1 q1 => ?_)
  obtain ⟨rfl, hk⟩ := q1
  obtain ⟨fr2, lo2, hf2, hl2, hM2⟩ := hR σ1 hk
  refine a_aload_n C dL_law_752 (i := 2) rfl rfl ?_
  refine a_aload_n C dL_law_753 (i := 0) rfl rfl ?_
  refine a_iload_n C dL_law_754 (i := 3) rfl rfl ?_
  refine a_iconst C dL_law_755 (v := 1) rfl ?_
  refine a_iadd C dL_law_756 ?_
  refine a_sld C X 1 rfl (by decide) (by decide) dL_law_757 ?_
  refine a_callVi C (i := 236) kd_236 (hid 236 (by decide)) ⟨_, _, rfl⟩ (by decide) hM2 mi_X12_span ml_RL_100 rfl rfl (by omega) (by omega) (Nat.le_of_ble_eq_true rfl) dL_law_758 (fun r2 σ2 q2 => ?_)
  refine a_ic_eq C dL_law_761 (tgt := 1338) rfl (fun _ => K σ2) (fun h => absurd q2.symm h)
set_option maxRecDepth 100000 in
theorem la_20 {Γ : GT} {ids : List Nat} {ad : Nat → Nat} {ca : Nat → ClassId} {l0 : Launch} {D0 : va_G} {b : Nat} {xs : Nat → Int32} (C : CT ids ad ca Γ code RL l0 D0 2048 84000 4) (X : SX Γ b 6 xs) (hid : ∀ i, i < 277 → i ∈ ids) (K : ∀ σ : HS, AW ids ad ca Γ 1338 [some (.ref b), some (.ref (ad 0)), some (.ref (ad 236)), some (.int 0)] [] σ) : AW ids ad ca Γ 766 [some (.ref b), some (.ref (ad 0)), some (.ref (ad 236)), some (.int 0)] [] s0 := by
  refine a_aload_n C dL_law_766 (i := 1) rfl rfl ?_
  refine a_aload_n C dL_law_767 (i := 0) rfl rfl ?_
  refine a_iload_n C dL_law_768 (i := 3) rfl rfl ?_
  refine a_iconst C dL_law_769 (v := 1) rfl ?_
  refine a_iadd C dL_law_770 ?_
  refine a_sld C X 1 rfl (by decide) (by decide) dL_law_771 ?_
  obtain ⟨v, ⟨fr, lo, hf, hl, hM⟩, hR⟩ := b_orbits (l := l0) (D := D0) (ad := ad) (ca := ca) (p0 := (xs 1)) hid
  refine a_callVi C (i := 0) kd_0 (hid 0 (by decide)) ⟨_, _, rfl⟩ (by decide) hM mi_X11_orbits ml_RL_101 rfl rfl (by omega) (by omega) (Nat.le_of_ble_eq_true rfl) dL_law_772 (fun r σ1 q1 => ?_)
  obtain ⟨rfl, hk⟩ := q1
  obtain ⟨fr2, lo2, hf2, hl2, hM2⟩ := hR σ1 hk
  refine a_aload_n C dL_law_775 (i := 2) rfl rfl ?_
  refine a_aload_n C dL_law_776 (i := 0) rfl rfl ?_
  refine a_iload_n C dL_law_777 (i := 3) rfl rfl ?_
  refine a_iconst C dL_law_778 (v := 1) rfl ?_
  refine a_iadd C dL_law_779 ?_
  refine a_sld C X 1 rfl (by decide) (by decide) dL_law_780 ?_
  refine a_callVi C (i := 236) kd_236 (hid 236 (by decide)) ⟨_, _, rfl⟩ (by decide) hM2 mi_X12_orbits ml_RL_104 rfl rfl (by omega) (by omega) (Nat.le_of_ble_eq_true rfl) dL_law_781 (fun r2 σ2 q2 => ?_)
  refine a_ic_eq C dL_law_784 (tgt := 1338) rfl (fun _ => K σ2) (fun h => absurd q2.symm h)
set_option maxRecDepth 100000 in
theorem la_21 {Γ : GT} {ids : List Nat} {ad : Nat → Nat} {ca : Nat → ClassId} {l0 : Launch} {D0 : va_G} {b : Nat} {xs : Nat → Int32} (C : CT ids ad ca Γ code RL l0 D0 2048 84000 4) (X : SX Γ b 6 xs) (hid : ∀ i, i < 277 → i ∈ ids) (K : ∀ σ : HS, AW ids ad ca Γ 1338 [some (.ref b), some (.ref (ad 0)), some (.ref (ad 236)), some (.int 0)] [] σ) : AW ids ad ca Γ 789 [some (.ref b), some (.ref (ad 0)), some (.ref (ad 236)), some (.int 0)] [] s0 := by
  refine a_aload_n C dL_law_789 (i := 1) rfl rfl ?_
  refine a_aload_n C dL_law_790 (i := 0) rfl rfl ?_
  refine a_iload_n C dL_law_791 (i := 3) rfl rfl ?_
  refine a_iconst C dL_law_792 (v := 1) rfl ?_
  refine a_iadd C dL_law_793 ?_
  refine a_sld C X 1 rfl (by decide) (by decide) dL_law_794 ?_
  obtain ⟨v, ⟨fr, lo, hf, hl, hM⟩, hR⟩ := b_swaps (l := l0) (D := D0) (ad := ad) (ca := ca) (p0 := (xs 1)) hid
  refine a_callVi C (i := 0) kd_0 (hid 0 (by decide)) ⟨_, _, rfl⟩ (by decide) hM mi_X11_swaps ml_RL_105 rfl rfl (by omega) (by omega) (Nat.le_of_ble_eq_true rfl) dL_law_795 (fun r σ1 q1 => ?_)
  obtain ⟨rfl, hk⟩ := q1
  obtain ⟨fr2, lo2, hf2, hl2, hM2⟩ := hR σ1 hk
  refine a_aload_n C dL_law_798 (i := 2) rfl rfl ?_
  refine a_aload_n C dL_law_799 (i := 0) rfl rfl ?_
  refine a_iload_n C dL_law_800 (i := 3) rfl rfl ?_
  refine a_iconst C dL_law_801 (v := 1) rfl ?_
  refine a_iadd C dL_law_802 ?_
  refine a_sld C X 1 rfl (by decide) (by decide) dL_law_803 ?_
  refine a_callVi C (i := 236) kd_236 (hid 236 (by decide)) ⟨_, _, rfl⟩ (by decide) hM2 mi_X12_swaps ml_RL_108 rfl rfl (by omega) (by omega) (Nat.le_of_ble_eq_true rfl) dL_law_804 (fun r2 σ2 q2 => ?_)
  refine a_ic_eq C dL_law_807 (tgt := 1338) rfl (fun _ => K σ2) (fun h => absurd q2.symm h)
set_option maxRecDepth 100000 in
theorem la_22 {Γ : GT} {ids : List Nat} {ad : Nat → Nat} {ca : Nat → ClassId} {l0 : Launch} {D0 : va_G} {b : Nat} {xs : Nat → Int32} (C : CT ids ad ca Γ code RL l0 D0 2048 84000 4) (X : SX Γ b 6 xs) (hid : ∀ i, i < 277 → i ∈ ids) (K : ∀ σ : HS, AW ids ad ca Γ 1338 [some (.ref b), some (.ref (ad 0)), some (.ref (ad 236)), some (.int 0)] [] σ) : AW ids ad ca Γ 812 [some (.ref b), some (.ref (ad 0)), some (.ref (ad 236)), some (.int 0)] [] s0 := by
  refine a_aload_n C dL_law_812 (i := 1) rfl rfl ?_
  refine a_aload_n C dL_law_813 (i := 0) rfl rfl ?_
  refine a_iload_n C dL_law_814 (i := 3) rfl rfl ?_
  refine a_iconst C dL_law_815 (v := 1) rfl ?_
  refine a_iadd C dL_law_816 ?_
  refine a_sld C X 1 rfl (by decide) (by decide) dL_law_817 ?_
  obtain ⟨v, ⟨fr, lo, hf, hl, hM⟩, hR⟩ := b_room (l := l0) (D := D0) (ad := ad) (ca := ca) (p0 := (xs 1)) hid
  refine a_callVi C (i := 0) kd_0 (hid 0 (by decide)) ⟨_, _, rfl⟩ (by decide) hM mi_X11_room ml_RL_109 rfl rfl (by omega) (by omega) (Nat.le_of_ble_eq_true rfl) dL_law_818 (fun r σ1 q1 => ?_)
  obtain ⟨rfl, hk⟩ := q1
  obtain ⟨fr2, lo2, hf2, hl2, hM2⟩ := hR σ1 hk
  refine a_aload_n C dL_law_821 (i := 2) rfl rfl ?_
  refine a_aload_n C dL_law_822 (i := 0) rfl rfl ?_
  refine a_iload_n C dL_law_823 (i := 3) rfl rfl ?_
  refine a_iconst C dL_law_824 (v := 1) rfl ?_
  refine a_iadd C dL_law_825 ?_
  refine a_sld C X 1 rfl (by decide) (by decide) dL_law_826 ?_
  refine a_callVi C (i := 236) kd_236 (hid 236 (by decide)) ⟨_, _, rfl⟩ (by decide) hM2 mi_X12_room ml_RL_112 rfl rfl (by omega) (by omega) (Nat.le_of_ble_eq_true rfl) dL_law_827 (fun r2 σ2 q2 => ?_)
  refine a_ic_eq C dL_law_830 (tgt := 1338) rfl (fun _ => K σ2) (fun h => absurd q2.symm h)
set_option maxRecDepth 100000 in
theorem la_23 {Γ : GT} {ids : List Nat} {ad : Nat → Nat} {ca : Nat → ClassId} {l0 : Launch} {D0 : va_G} {b : Nat} {xs : Nat → Int32} (C : CT ids ad ca Γ code RL l0 D0 2048 84000 4) (X : SX Γ b 6 xs) (hid : ∀ i, i < 277 → i ∈ ids) (K : ∀ σ : HS, AW ids ad ca Γ 1338 [some (.ref b), some (.ref (ad 0)), some (.ref (ad 236)), some (.int 0)] [] σ) : AW ids ad ca Γ 835 [some (.ref b), some (.ref (ad 0)), some (.ref (ad 236)), some (.int 0)] [] s0 := by
  refine a_aload_n C dL_law_835 (i := 1) rfl rfl ?_
  obtain ⟨v, ⟨fr, lo, hf, hl, hM⟩, hR⟩ := b_handover (l := l0) (D := D0) (ad := ad) (ca := ca) hid
  refine a_callVi C (i := 0) kd_0 (hid 0 (by decide)) ⟨_, _, rfl⟩ (by decide) hM mi_X11_handover ml_RL_113 rfl rfl (by omega) (by omega) (Nat.le_of_ble_eq_true rfl) dL_law_836 (fun r σ1 q1 => ?_)
  obtain ⟨rfl, hk⟩ := q1
  obtain ⟨fr2, lo2, hf2, hl2, hM2⟩ := hR σ1 hk
  refine a_aload_n C dL_law_839 (i := 2) rfl rfl ?_
  refine a_callVi C (i := 236) kd_236 (hid 236 (by decide)) ⟨_, _, rfl⟩ (by decide) hM2 mi_X12_handover ml_RL_116 rfl rfl (by omega) (by omega) (Nat.le_of_ble_eq_true rfl) dL_law_840 (fun r2 σ2 q2 => ?_)
  refine a_ic_eq C dL_law_843 (tgt := 1338) rfl (fun _ => K σ2) (fun h => absurd q2.symm h)
set_option maxRecDepth 100000 in
theorem la_24 {Γ : GT} {ids : List Nat} {ad : Nat → Nat} {ca : Nat → ClassId} {l0 : Launch} {D0 : va_G} {b : Nat} {xs : Nat → Int32} (C : CT ids ad ca Γ code RL l0 D0 2048 84000 4) (X : SX Γ b 6 xs) (hid : ∀ i, i < 277 → i ∈ ids) (K : ∀ σ : HS, AW ids ad ca Γ 1338 [some (.ref b), some (.ref (ad 0)), some (.ref (ad 236)), some (.int 0)] [] σ) : AW ids ad ca Γ 848 [some (.ref b), some (.ref (ad 0)), some (.ref (ad 236)), some (.int 0)] [] s0 := by
  refine a_aload_n C dL_law_848 (i := 1) rfl rfl ?_
  refine a_aload_n C dL_law_849 (i := 0) rfl rfl ?_
  refine a_iload_n C dL_law_850 (i := 3) rfl rfl ?_
  refine a_iconst C dL_law_851 (v := 1) rfl ?_
  refine a_iadd C dL_law_852 ?_
  refine a_sld C X 1 rfl (by decide) (by decide) dL_law_853 ?_
  obtain ⟨v, ⟨fr, lo, hf, hl, hM⟩, hR⟩ := b_limit (l := l0) (D := D0) (ad := ad) (ca := ca) (p0 := (xs 1)) hid
  refine a_callVi C (i := 0) kd_0 (hid 0 (by decide)) ⟨_, _, rfl⟩ (by decide) hM mi_X11_limit ml_RL_117 rfl rfl (by omega) (by omega) (Nat.le_of_ble_eq_true rfl) dL_law_854 (fun r σ1 q1 => ?_)
  obtain ⟨rfl, hk⟩ := q1
  obtain ⟨fr2, lo2, hf2, hl2, hM2⟩ := hR σ1 hk
  refine a_aload_n C dL_law_857 (i := 2) rfl rfl ?_
  refine a_aload_n C dL_law_858 (i := 0) rfl rfl ?_
  refine a_iload_n C dL_law_859 (i := 3) rfl rfl ?_
  refine a_iconst C dL_law_860 (v := 1) rfl ?_
  refine a_iadd C dL_law_861 ?_
  refine a_sld C X 1 rfl (by decide) (by decide) dL_law_862 ?_
  refine a_callVi C (i := 236) kd_236 (hid 236 (by decide)) ⟨_, _, rfl⟩ (by decide) hM2 mi_X12_limit ml_RL_120 rfl rfl (by omega) (by omega) (Nat.le_of_ble_eq_true rfl) dL_law_863 (fun r2 σ2 q2 => ?_)
  refine a_ic_eq C dL_law_866 (tgt := 1338) rfl (fun _ => K σ2) (fun h => absurd q2.symm h)
set_option maxRecDepth 100000 in
theorem la_25 {Γ : GT} {ids : List Nat} {ad : Nat → Nat} {ca : Nat → ClassId} {l0 : Launch} {D0 : va_G} {b : Nat} {xs : Nat → Int32} (C : CT ids ad ca Γ code RL l0 D0 2048 84000 4) (X : SX Γ b 6 xs) (hid : ∀ i, i < 277 → i ∈ ids) (K : ∀ σ : HS, AW ids ad ca Γ 1338 [some (.ref b), some (.ref (ad 0)), some (.ref (ad 236)), some (.int 0)] [] σ) : AW ids ad ca Γ 871 [some (.ref b), some (.ref (ad 0)), some (.ref (ad 236)), some (.int 0)] [] s0 := by
  refine a_aload_n C dL_law_871 (i := 1) rfl rfl ?_
  refine a_aload_n C dL_law_872 (i := 0) rfl rfl ?_
  refine a_iload_n C dL_law_873 (i := 3) rfl rfl ?_
  refine a_iconst C dL_law_874 (v := 1) rfl ?_
  refine a_iadd C dL_law_875 ?_
  refine a_sld C X 1 rfl (by decide) (by decide) dL_law_876 ?_
  refine a_aload_n C dL_law_877 (i := 0) rfl rfl ?_
  refine a_iload_n C dL_law_878 (i := 3) rfl rfl ?_
  refine a_iconst C dL_law_879 (v := 2) rfl ?_
  refine a_iadd C dL_law_880 ?_
  refine a_sld C X 2 rfl (by decide) (by decide) dL_law_881 ?_
  obtain ⟨v, ⟨fr, lo, hf, hl, hM⟩, hR⟩ := b_busiest (l := l0) (D := D0) (ad := ad) (ca := ca) (p0 := (xs 1)) (p1 := (xs 2)) hid
  refine a_callVi C (i := 0) kd_0 (hid 0 (by decide)) ⟨_, _, rfl⟩ (by decide) hM mi_X11_busiest ml_RL_121 rfl rfl (by omega) (by omega) (Nat.le_of_ble_eq_true rfl) dL_law_882 (fun r σ1 q1 => ?_)
  obtain ⟨rfl, hk⟩ := q1
  obtain ⟨fr2, lo2, hf2, hl2, hM2⟩ := hR σ1 hk
  refine a_aload_n C dL_law_885 (i := 2) rfl rfl ?_
  refine a_aload_n C dL_law_886 (i := 0) rfl rfl ?_
  refine a_iload_n C dL_law_887 (i := 3) rfl rfl ?_
  refine a_iconst C dL_law_888 (v := 1) rfl ?_
  refine a_iadd C dL_law_889 ?_
  refine a_sld C X 1 rfl (by decide) (by decide) dL_law_890 ?_
  refine a_aload_n C dL_law_891 (i := 0) rfl rfl ?_
  refine a_iload_n C dL_law_892 (i := 3) rfl rfl ?_
  refine a_iconst C dL_law_893 (v := 2) rfl ?_
  refine a_iadd C dL_law_894 ?_
  refine a_sld C X 2 rfl (by decide) (by decide) dL_law_895 ?_
  refine a_callVi C (i := 236) kd_236 (hid 236 (by decide)) ⟨_, _, rfl⟩ (by decide) hM2 mi_X12_busiest ml_RL_124 rfl rfl (by omega) (by omega) (Nat.le_of_ble_eq_true rfl) dL_law_896 (fun r2 σ2 q2 => ?_)
  refine a_ic_eq C dL_law_899 (tgt := 1338) rfl (fun _ => K σ2) (fun h => absurd q2.symm h)
set_option maxRecDepth 100000 in
theorem la_26 {Γ : GT} {ids : List Nat} {ad : Nat → Nat} {ca : Nat → ClassId} {l0 : Launch} {D0 : va_G} {b : Nat} {xs : Nat → Int32} (C : CT ids ad ca Γ code RL l0 D0 2048 84000 4) (X : SX Γ b 6 xs) (hid : ∀ i, i < 277 → i ∈ ids) (K : ∀ σ : HS, AW ids ad ca Γ 1338 [some (.ref b), some (.ref (ad 0)), some (.ref (ad 236)), some (.int 0)] [] σ) : AW ids ad ca Γ 904 [some (.ref b), some (.ref (ad 0)), some (.ref (ad 236)), some (.int 0)] [] s0 := by
  refine a_aload_n C dL_law_904 (i := 1) rfl rfl ?_
  refine a_aload_n C dL_law_905 (i := 0) rfl rfl ?_
  refine a_iload_n C dL_law_906 (i := 3) rfl rfl ?_
  refine a_iconst C dL_law_907 (v := 1) rfl ?_
  refine a_iadd C dL_law_908 ?_
  refine a_sld C X 1 rfl (by decide) (by decide) dL_law_909 ?_
  obtain ⟨v, ⟨fr, lo, hf, hl, hM⟩, hR⟩ := b_load (l := l0) (D := D0) (ad := ad) (ca := ca) (p0 := (xs 1)) hid
  refine a_callVi C (i := 0) kd_0 (hid 0 (by decide)) ⟨_, _, rfl⟩ (by decide) hM mi_X11_load ml_RL_125 rfl rfl (by omega) (by omega) (Nat.le_of_ble_eq_true rfl) dL_law_910 (fun r σ1 q1 => ?_)
  obtain ⟨rfl, hk⟩ := q1
  obtain ⟨fr2, lo2, hf2, hl2, hM2⟩ := hR σ1 hk
  refine a_aload_n C dL_law_913 (i := 2) rfl rfl ?_
  refine a_aload_n C dL_law_914 (i := 0) rfl rfl ?_
  refine a_iload_n C dL_law_915 (i := 3) rfl rfl ?_
  refine a_iconst C dL_law_916 (v := 1) rfl ?_
  refine a_iadd C dL_law_917 ?_
  refine a_sld C X 1 rfl (by decide) (by decide) dL_law_918 ?_
  refine a_callVi C (i := 236) kd_236 (hid 236 (by decide)) ⟨_, _, rfl⟩ (by decide) hM2 mi_X12_load ml_RL_128 rfl rfl (by omega) (by omega) (Nat.le_of_ble_eq_true rfl) dL_law_919 (fun r2 σ2 q2 => ?_)
  refine a_ic_eq C dL_law_922 (tgt := 1338) rfl (fun _ => K σ2) (fun h => absurd q2.symm h)
set_option maxRecDepth 100000 in
theorem la_27 {Γ : GT} {ids : List Nat} {ad : Nat → Nat} {ca : Nat → ClassId} {l0 : Launch} {D0 : va_G} {b : Nat} {xs : Nat → Int32} (C : CT ids ad ca Γ code RL l0 D0 2048 84000 4) (X : SX Γ b 6 xs) (hid : ∀ i, i < 277 → i ∈ ids) (K : ∀ σ : HS, AW ids ad ca Γ 1338 [some (.ref b), some (.ref (ad 0)), some (.ref (ad 236)), some (.int 0)] [] σ) : AW ids ad ca Γ 927 [some (.ref b), some (.ref (ad 0)), some (.ref (ad 236)), some (.int 0)] [] s0 := by
  refine a_aload_n C dL_law_927 (i := 1) rfl rfl ?_
  obtain ⟨v, ⟨fr, lo, hf, hl, hM⟩, hR⟩ := b_gap (l := l0) (D := D0) (ad := ad) (ca := ca) hid
  refine a_callVi C (i := 0) kd_0 (hid 0 (by decide)) ⟨_, _, rfl⟩ (by decide) hM mi_X11_gap ml_RL_129 rfl rfl (by omega) (by omega) (Nat.le_of_ble_eq_true rfl) dL_law_928 (fun r σ1 q1 => ?_)
  obtain ⟨rfl, hk⟩ := q1
  obtain ⟨fr2, lo2, hf2, hl2, hM2⟩ := hR σ1 hk
  refine a_aload_n C dL_law_931 (i := 2) rfl rfl ?_
  refine a_callVi C (i := 236) kd_236 (hid 236 (by decide)) ⟨_, _, rfl⟩ (by decide) hM2 mi_X12_gap ml_RL_132 rfl rfl (by omega) (by omega) (Nat.le_of_ble_eq_true rfl) dL_law_932 (fun r2 σ2 q2 => ?_)
  refine a_ic_eq C dL_law_935 (tgt := 1338) rfl (fun _ => K σ2) (fun h => absurd q2.symm h)

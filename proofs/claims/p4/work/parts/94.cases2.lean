set_option maxHeartbeats 4000000 in
set_option maxRecDepth 100000 in
theorem la_14 {Γ : GT} {ids : List Nat} {ad : Nat → Nat} {ca : Nat → ClassId} {l0 : Launch} {D0 : va_G} {b L n : Nat} {i : Int32} {xs : Nat → Int32} {σ : HS} {K9 : (Nat → Nat) × (Nat → Nat)} (C : CT ids ad ca Γ code RL l0 D0 2048 84000 4) (X : SX Γ b L xs) (E9 : SG K9 Γ) (hid : ∀ i, i < 277 → i ∈ ids) (hi : i.toInt = 6 * (n : Int)) (hL : 6 * n + 6 ≤ L) (hLL : L ≤ 3072) (hI : REL n σ) (K : ∀ σ : HS, REL (n + 1) σ → AW ids ad ca Γ 1338 [some (.ref b), some (.ref (ad 0)), some (.ref (ad 236)), some (.int i)] [] σ) : AW ids ad ca Γ 598 [some (.ref b), some (.ref (ad 0)), some (.ref (ad 236)), some (.int i)] [] σ := by
  refine a_aload_n C dL_law_598 (i := 1) rfl rfl ?_
  refine a_aload_n C dL_law_599 (i := 0) rfl rfl ?_
  refine a_iload_n C dL_law_600 (i := 3) rfl rfl ?_
  refine s_iconst C dL_law_601 (1) (by decide) (fun z241 h242 => ?_)
  refine s_iadd C dL_law_602 (by omega) (fun z243 h244 => ?_)
  refine s_sld C X (by omega) (by omega) dL_law_603 (fun m245 h246 => ?_)
  have hS : SIM n (f_X11_inHand (xs m245)) (f_X12_inHand (xs m245)) := sim_inHand (by omega)
  obtain ⟨r9, s9, s8, ec, em, hN⟩ := hS σ hI
  refine a_callVi C (i := 0) kd_0 (hid 0 (by decide)) ⟨_, _, rfl⟩ (by decide) (Z_X11_inHand hid ec) mi_X11_inHand ml_RL_77 rfl rfl (Nat.le_of_ble_eq_true rfl) (Nat.le_of_ble_eq_true rfl) (Nat.le_of_ble_eq_true rfl) dL_law_604 (fun r σ1 q1 => ?_)
  obtain ⟨er, es⟩ := q1
  subst es
  subst er
  refine a_pop C dL_law_607 rfl ?_
  refine a_aload_n C dL_law_608 (i := 2) rfl rfl ?_
  refine a_aload_n C dL_law_609 (i := 0) rfl rfl ?_
  refine a_iload_n C dL_law_610 (i := 3) rfl rfl ?_
  refine s_iconst C dL_law_611 (1) (by decide) (fun z247 h248 => ?_)
  refine s_iadd C dL_law_612 (by omega) (fun z249 h250 => ?_)
  refine s_sld C X (by omega) (by omega) dL_law_613 (fun m251 h252 => ?_)
  obtain rfl : m251 = m245 := by omega
  refine a_callVi C (i := 236) kd_236 (hid 236 (by decide)) ⟨_, _, rfl⟩ (by decide) (Z_X12_inHand hid em) mi_X12_inHand ml_RL_80 rfl rfl (Nat.le_of_ble_eq_true rfl) (Nat.le_of_ble_eq_true rfl) (Nat.le_of_ble_eq_true rfl) dL_law_614 (fun r2 σ2 q2 => ?_)
  obtain ⟨er2, es2⟩ := q2
  subst es2
  subst er2
  refine a_pop C dL_law_617 rfl ?_
  exact a_goto C dL_law_618 (tgt := 1338) rfl (K _ hN)
set_option maxHeartbeats 4000000 in
set_option maxRecDepth 100000 in
theorem la_15 {Γ : GT} {ids : List Nat} {ad : Nat → Nat} {ca : Nat → ClassId} {l0 : Launch} {D0 : va_G} {b L n : Nat} {i : Int32} {xs : Nat → Int32} {σ : HS} {K9 : (Nat → Nat) × (Nat → Nat)} (C : CT ids ad ca Γ code RL l0 D0 2048 84000 4) (X : SX Γ b L xs) (E9 : SG K9 Γ) (hid : ∀ i, i < 277 → i ∈ ids) (hi : i.toInt = 6 * (n : Int)) (hL : 6 * n + 6 ≤ L) (hLL : L ≤ 3072) (hI : REL n σ) (K : ∀ σ : HS, REL (n + 1) σ → AW ids ad ca Γ 1338 [some (.ref b), some (.ref (ad 0)), some (.ref (ad 236)), some (.int i)] [] σ) : AW ids ad ca Γ 621 [some (.ref b), some (.ref (ad 0)), some (.ref (ad 236)), some (.int i)] [] σ := by
  refine a_aload_n C dL_law_621 (i := 1) rfl rfl ?_
  have hS : SIM n (f_X11_clash) (f_X12_clash) := sim_clash (by omega)
  obtain ⟨r9, s9, s8, ec, em, hN⟩ := hS σ hI
  refine a_callVi C (i := 0) kd_0 (hid 0 (by decide)) ⟨_, _, rfl⟩ (by decide) (Z_X11_clash hid ec) mi_X11_clash ml_RL_81 rfl rfl (Nat.le_of_ble_eq_true rfl) (Nat.le_of_ble_eq_true rfl) (Nat.le_of_ble_eq_true rfl) dL_law_622 (fun r σ1 q1 => ?_)
  obtain ⟨er, es⟩ := q1
  subst es
  subst er
  refine a_pop C dL_law_625 rfl ?_
  refine a_aload_n C dL_law_626 (i := 2) rfl rfl ?_
  refine a_callVi C (i := 236) kd_236 (hid 236 (by decide)) ⟨_, _, rfl⟩ (by decide) (Z_X12_clash hid em) mi_X12_clash ml_RL_84 rfl rfl (Nat.le_of_ble_eq_true rfl) (Nat.le_of_ble_eq_true rfl) (Nat.le_of_ble_eq_true rfl) dL_law_627 (fun r2 σ2 q2 => ?_)
  obtain ⟨er2, es2⟩ := q2
  subst es2
  subst er2
  refine a_pop C dL_law_630 rfl ?_
  exact a_goto C dL_law_631 (tgt := 1338) rfl (K _ hN)
set_option maxHeartbeats 4000000 in
set_option maxRecDepth 100000 in
theorem la_16 {Γ : GT} {ids : List Nat} {ad : Nat → Nat} {ca : Nat → ClassId} {l0 : Launch} {D0 : va_G} {b L n : Nat} {i : Int32} {xs : Nat → Int32} {σ : HS} {K9 : (Nat → Nat) × (Nat → Nat)} (C : CT ids ad ca Γ code RL l0 D0 2048 84000 4) (X : SX Γ b L xs) (E9 : SG K9 Γ) (hid : ∀ i, i < 277 → i ∈ ids) (hi : i.toInt = 6 * (n : Int)) (hL : 6 * n + 6 ≤ L) (hLL : L ≤ 3072) (hI : REL n σ) (K : ∀ σ : HS, REL (n + 1) σ → AW ids ad ca Γ 1338 [some (.ref b), some (.ref (ad 0)), some (.ref (ad 236)), some (.int i)] [] σ) : AW ids ad ca Γ 634 [some (.ref b), some (.ref (ad 0)), some (.ref (ad 236)), some (.int i)] [] σ := by
  refine a_aload_n C dL_law_634 (i := 1) rfl rfl ?_
  refine a_aload_n C dL_law_635 (i := 0) rfl rfl ?_
  refine a_iload_n C dL_law_636 (i := 3) rfl rfl ?_
  refine s_iconst C dL_law_637 (1) (by decide) (fun z253 h254 => ?_)
  refine s_iadd C dL_law_638 (by omega) (fun z255 h256 => ?_)
  refine s_sld C X (by omega) (by omega) dL_law_639 (fun m257 h258 => ?_)
  refine a_aload_n C dL_law_640 (i := 0) rfl rfl ?_
  refine a_iload_n C dL_law_641 (i := 3) rfl rfl ?_
  refine s_iconst C dL_law_642 (2) (by decide) (fun z259 h260 => ?_)
  refine s_iadd C dL_law_643 (by omega) (fun z261 h262 => ?_)
  refine s_sld C X (by omega) (by omega) dL_law_644 (fun m263 h264 => ?_)
  have hS : SIMx n (f_X11_into (xs m257) (xs m263)) (f_X12_into (xs m257) (xs m263)) := simx_into
  obtain ⟨r9, r8, s9, s8, ec, em, hN⟩ := hS σ hI
  refine a_callVi C (i := 0) kd_0 (hid 0 (by decide)) ⟨_, _, rfl⟩ (by decide) (Z_X11_into hid ec) mi_X11_into ml_RL_85 rfl rfl (Nat.le_of_ble_eq_true rfl) (Nat.le_of_ble_eq_true rfl) (Nat.le_of_ble_eq_true rfl) dL_law_645 (fun r σ1 q1 => ?_)
  obtain ⟨er, es⟩ := q1
  subst es
  subst er
  refine a_pop C dL_law_648 rfl ?_
  refine a_aload_n C dL_law_649 (i := 2) rfl rfl ?_
  refine a_aload_n C dL_law_650 (i := 0) rfl rfl ?_
  refine a_iload_n C dL_law_651 (i := 3) rfl rfl ?_
  refine s_iconst C dL_law_652 (1) (by decide) (fun z265 h266 => ?_)
  refine s_iadd C dL_law_653 (by omega) (fun z267 h268 => ?_)
  refine s_sld C X (by omega) (by omega) dL_law_654 (fun m269 h270 => ?_)
  refine a_aload_n C dL_law_655 (i := 0) rfl rfl ?_
  refine a_iload_n C dL_law_656 (i := 3) rfl rfl ?_
  refine s_iconst C dL_law_657 (2) (by decide) (fun z271 h272 => ?_)
  refine s_iadd C dL_law_658 (by omega) (fun z273 h274 => ?_)
  refine s_sld C X (by omega) (by omega) dL_law_659 (fun m275 h276 => ?_)
  obtain rfl : m269 = m257 := by omega
  obtain rfl : m275 = m263 := by omega
  refine a_callVi C (i := 236) kd_236 (hid 236 (by decide)) ⟨_, _, rfl⟩ (by decide) (Z_X12_into hid em) mi_X12_into ml_RL_88 rfl rfl (Nat.le_of_ble_eq_true rfl) (Nat.le_of_ble_eq_true rfl) (Nat.le_of_ble_eq_true rfl) dL_law_660 (fun r2 σ2 q2 => ?_)
  obtain ⟨er2, es2⟩ := q2
  subst es2
  subst er2
  refine a_pop C dL_law_663 rfl ?_
  exact a_goto C dL_law_664 (tgt := 1338) rfl (K _ hN)
set_option maxHeartbeats 4000000 in
set_option maxRecDepth 100000 in
theorem la_17 {Γ : GT} {ids : List Nat} {ad : Nat → Nat} {ca : Nat → ClassId} {l0 : Launch} {D0 : va_G} {b L n : Nat} {i : Int32} {xs : Nat → Int32} {σ : HS} {K9 : (Nat → Nat) × (Nat → Nat)} (C : CT ids ad ca Γ code RL l0 D0 2048 84000 4) (X : SX Γ b L xs) (E9 : SG K9 Γ) (hid : ∀ i, i < 277 → i ∈ ids) (hi : i.toInt = 6 * (n : Int)) (hL : 6 * n + 6 ≤ L) (hLL : L ≤ 3072) (hI : REL n σ) (K : ∀ σ : HS, REL (n + 1) σ → AW ids ad ca Γ 1338 [some (.ref b), some (.ref (ad 0)), some (.ref (ad 236)), some (.int i)] [] σ) : AW ids ad ca Γ 667 [some (.ref b), some (.ref (ad 0)), some (.ref (ad 236)), some (.int i)] [] σ := by
  refine a_aload_n C dL_law_667 (i := 1) rfl rfl ?_
  refine a_aload_n C dL_law_668 (i := 0) rfl rfl ?_
  refine a_iload_n C dL_law_669 (i := 3) rfl rfl ?_
  refine s_iconst C dL_law_670 (1) (by decide) (fun z277 h278 => ?_)
  refine s_iadd C dL_law_671 (by omega) (fun z279 h280 => ?_)
  refine s_sld C X (by omega) (by omega) dL_law_672 (fun m281 h282 => ?_)
  refine a_aload_n C dL_law_673 (i := 0) rfl rfl ?_
  refine a_iload_n C dL_law_674 (i := 3) rfl rfl ?_
  refine s_iconst C dL_law_675 (2) (by decide) (fun z283 h284 => ?_)
  refine s_iadd C dL_law_676 (by omega) (fun z285 h286 => ?_)
  refine s_sld C X (by omega) (by omega) dL_law_677 (fun m287 h288 => ?_)
  refine a_aload_n C dL_law_678 (i := 0) rfl rfl ?_
  refine a_iload_n C dL_law_679 (i := 3) rfl rfl ?_
  refine s_iconst C dL_law_680 (3) (by decide) (fun z289 h290 => ?_)
  refine s_iadd C dL_law_681 (by omega) (fun z291 h292 => ?_)
  refine s_sld C X (by omega) (by omega) dL_law_682 (fun m293 h294 => ?_)
  have hS : SIM n (f_X11_joined (xs m281) (xs m287) (xs m293)) (f_X12_joined (xs m281) (xs m287) (xs m293)) := sim_joined
  obtain ⟨r9, s9, s8, ec, em, hN⟩ := hS σ hI
  refine a_callVi C (i := 0) kd_0 (hid 0 (by decide)) ⟨_, _, rfl⟩ (by decide) (Z_X11_joined hid ec) mi_X11_joined ml_RL_89 rfl rfl (Nat.le_of_ble_eq_true rfl) (Nat.le_of_ble_eq_true rfl) (Nat.le_of_ble_eq_true rfl) dL_law_683 (fun r σ1 q1 => ?_)
  obtain ⟨er, es⟩ := q1
  subst es
  subst er
  refine a_pop C dL_law_686 rfl ?_
  refine a_aload_n C dL_law_687 (i := 2) rfl rfl ?_
  refine a_aload_n C dL_law_688 (i := 0) rfl rfl ?_
  refine a_iload_n C dL_law_689 (i := 3) rfl rfl ?_
  refine s_iconst C dL_law_690 (1) (by decide) (fun z295 h296 => ?_)
  refine s_iadd C dL_law_691 (by omega) (fun z297 h298 => ?_)
  refine s_sld C X (by omega) (by omega) dL_law_692 (fun m299 h300 => ?_)
  refine a_aload_n C dL_law_693 (i := 0) rfl rfl ?_
  refine a_iload_n C dL_law_694 (i := 3) rfl rfl ?_
  refine s_iconst C dL_law_695 (2) (by decide) (fun z301 h302 => ?_)
  refine s_iadd C dL_law_696 (by omega) (fun z303 h304 => ?_)
  refine s_sld C X (by omega) (by omega) dL_law_697 (fun m305 h306 => ?_)
  refine a_aload_n C dL_law_698 (i := 0) rfl rfl ?_
  refine a_iload_n C dL_law_699 (i := 3) rfl rfl ?_
  refine s_iconst C dL_law_700 (3) (by decide) (fun z307 h308 => ?_)
  refine s_iadd C dL_law_701 (by omega) (fun z309 h310 => ?_)
  refine s_sld C X (by omega) (by omega) dL_law_702 (fun m311 h312 => ?_)
  obtain rfl : m299 = m281 := by omega
  obtain rfl : m305 = m287 := by omega
  obtain rfl : m311 = m293 := by omega
  refine a_callVi C (i := 236) kd_236 (hid 236 (by decide)) ⟨_, _, rfl⟩ (by decide) (Z_X12_joined hid em) mi_X12_joined ml_RL_92 rfl rfl (Nat.le_of_ble_eq_true rfl) (Nat.le_of_ble_eq_true rfl) (Nat.le_of_ble_eq_true rfl) dL_law_703 (fun r2 σ2 q2 => ?_)
  obtain ⟨er2, es2⟩ := q2
  subst es2
  subst er2
  refine a_pop C dL_law_706 rfl ?_
  exact a_goto C dL_law_707 (tgt := 1338) rfl (K _ hN)
set_option maxHeartbeats 4000000 in
set_option maxRecDepth 100000 in
theorem la_18 {Γ : GT} {ids : List Nat} {ad : Nat → Nat} {ca : Nat → ClassId} {l0 : Launch} {D0 : va_G} {b L n : Nat} {i : Int32} {xs : Nat → Int32} {σ : HS} {K9 : (Nat → Nat) × (Nat → Nat)} (C : CT ids ad ca Γ code RL l0 D0 2048 84000 4) (X : SX Γ b L xs) (E9 : SG K9 Γ) (hid : ∀ i, i < 277 → i ∈ ids) (hi : i.toInt = 6 * (n : Int)) (hL : 6 * n + 6 ≤ L) (hLL : L ≤ 3072) (hI : REL n σ) (K : ∀ σ : HS, REL (n + 1) σ → AW ids ad ca Γ 1338 [some (.ref b), some (.ref (ad 0)), some (.ref (ad 236)), some (.int i)] [] σ) : AW ids ad ca Γ 710 [some (.ref b), some (.ref (ad 0)), some (.ref (ad 236)), some (.int i)] [] σ := by
  refine a_aload_n C dL_law_710 (i := 1) rfl rfl ?_
  refine a_aload_n C dL_law_711 (i := 0) rfl rfl ?_
  refine a_iload_n C dL_law_712 (i := 3) rfl rfl ?_
  refine s_iconst C dL_law_713 (1) (by decide) (fun z313 h314 => ?_)
  refine s_iadd C dL_law_714 (by omega) (fun z315 h316 => ?_)
  refine s_sld C X (by omega) (by omega) dL_law_715 (fun m317 h318 => ?_)
  refine a_aload_n C dL_law_716 (i := 0) rfl rfl ?_
  refine a_iload_n C dL_law_717 (i := 3) rfl rfl ?_
  refine s_iconst C dL_law_718 (2) (by decide) (fun z319 h320 => ?_)
  refine s_iadd C dL_law_719 (by omega) (fun z321 h322 => ?_)
  refine s_sld C X (by omega) (by omega) dL_law_720 (fun m323 h324 => ?_)
  have hS : SIM n (f_X11_turned (xs m317) (xs m323)) (f_X12_turned (xs m317) (xs m323)) := sim_turned
  obtain ⟨r9, s9, s8, ec, em, hN⟩ := hS σ hI
  refine a_callVi C (i := 0) kd_0 (hid 0 (by decide)) ⟨_, _, rfl⟩ (by decide) (Z_X11_turned hid ec) mi_X11_turned ml_RL_93 rfl rfl (Nat.le_of_ble_eq_true rfl) (Nat.le_of_ble_eq_true rfl) (Nat.le_of_ble_eq_true rfl) dL_law_721 (fun r σ1 q1 => ?_)
  obtain ⟨er, es⟩ := q1
  subst es
  subst er
  refine a_pop C dL_law_724 rfl ?_
  refine a_aload_n C dL_law_725 (i := 2) rfl rfl ?_
  refine a_aload_n C dL_law_726 (i := 0) rfl rfl ?_
  refine a_iload_n C dL_law_727 (i := 3) rfl rfl ?_
  refine s_iconst C dL_law_728 (1) (by decide) (fun z325 h326 => ?_)
  refine s_iadd C dL_law_729 (by omega) (fun z327 h328 => ?_)
  refine s_sld C X (by omega) (by omega) dL_law_730 (fun m329 h330 => ?_)
  refine a_aload_n C dL_law_731 (i := 0) rfl rfl ?_
  refine a_iload_n C dL_law_732 (i := 3) rfl rfl ?_
  refine s_iconst C dL_law_733 (2) (by decide) (fun z331 h332 => ?_)
  refine s_iadd C dL_law_734 (by omega) (fun z333 h334 => ?_)
  refine s_sld C X (by omega) (by omega) dL_law_735 (fun m335 h336 => ?_)
  obtain rfl : m329 = m317 := by omega
  obtain rfl : m335 = m323 := by omega
  refine a_callVi C (i := 236) kd_236 (hid 236 (by decide)) ⟨_, _, rfl⟩ (by decide) (Z_X12_turned hid em) mi_X12_turned ml_RL_96 rfl rfl (Nat.le_of_ble_eq_true rfl) (Nat.le_of_ble_eq_true rfl) (Nat.le_of_ble_eq_true rfl) dL_law_736 (fun r2 σ2 q2 => ?_)
  obtain ⟨er2, es2⟩ := q2
  subst es2
  subst er2
  refine a_pop C dL_law_739 rfl ?_
  exact a_goto C dL_law_740 (tgt := 1338) rfl (K _ hN)
set_option maxHeartbeats 4000000 in
set_option maxRecDepth 100000 in
theorem la_19 {Γ : GT} {ids : List Nat} {ad : Nat → Nat} {ca : Nat → ClassId} {l0 : Launch} {D0 : va_G} {b L n : Nat} {i : Int32} {xs : Nat → Int32} {σ : HS} {K9 : (Nat → Nat) × (Nat → Nat)} (C : CT ids ad ca Γ code RL l0 D0 2048 84000 4) (X : SX Γ b L xs) (E9 : SG K9 Γ) (hid : ∀ i, i < 277 → i ∈ ids) (hi : i.toInt = 6 * (n : Int)) (hL : 6 * n + 6 ≤ L) (hLL : L ≤ 3072) (hI : REL n σ) (K : ∀ σ : HS, REL (n + 1) σ → AW ids ad ca Γ 1338 [some (.ref b), some (.ref (ad 0)), some (.ref (ad 236)), some (.int i)] [] σ) : AW ids ad ca Γ 743 [some (.ref b), some (.ref (ad 0)), some (.ref (ad 236)), some (.int i)] [] σ := by
  refine a_aload_n C dL_law_743 (i := 1) rfl rfl ?_
  refine a_aload_n C dL_law_744 (i := 0) rfl rfl ?_
  refine a_iload_n C dL_law_745 (i := 3) rfl rfl ?_
  refine s_iconst C dL_law_746 (1) (by decide) (fun z337 h338 => ?_)
  refine s_iadd C dL_law_747 (by omega) (fun z339 h340 => ?_)
  refine s_sld C X (by omega) (by omega) dL_law_748 (fun m341 h342 => ?_)
  have hS : SIM n (f_X11_span (xs m341)) (f_X12_span (xs m341)) := sim_span
  obtain ⟨r9, s9, s8, ec, em, hN⟩ := hS σ hI
  refine a_callVi C (i := 0) kd_0 (hid 0 (by decide)) ⟨_, _, rfl⟩ (by decide) (Z_X11_span hid ec) mi_X11_span ml_RL_97 rfl rfl (Nat.le_of_ble_eq_true rfl) (Nat.le_of_ble_eq_true rfl) (Nat.le_of_ble_eq_true rfl) dL_law_749 (fun r σ1 q1 => ?_)
  obtain ⟨er, es⟩ := q1
  subst es
  subst er
  refine a_pop C dL_law_752 rfl ?_
  refine a_aload_n C dL_law_753 (i := 2) rfl rfl ?_
  refine a_aload_n C dL_law_754 (i := 0) rfl rfl ?_
  refine a_iload_n C dL_law_755 (i := 3) rfl rfl ?_
  refine s_iconst C dL_law_756 (1) (by decide) (fun z343 h344 => ?_)
  refine s_iadd C dL_law_757 (by omega) (fun z345 h346 => ?_)
  refine s_sld C X (by omega) (by omega) dL_law_758 (fun m347 h348 => ?_)
  obtain rfl : m347 = m341 := by omega
  refine a_callVi C (i := 236) kd_236 (hid 236 (by decide)) ⟨_, _, rfl⟩ (by decide) (Z_X12_span hid em) mi_X12_span ml_RL_100 rfl rfl (Nat.le_of_ble_eq_true rfl) (Nat.le_of_ble_eq_true rfl) (Nat.le_of_ble_eq_true rfl) dL_law_759 (fun r2 σ2 q2 => ?_)
  obtain ⟨er2, es2⟩ := q2
  subst es2
  subst er2
  refine a_pop C dL_law_762 rfl ?_
  exact a_goto C dL_law_763 (tgt := 1338) rfl (K _ hN)
set_option maxHeartbeats 4000000 in
set_option maxRecDepth 100000 in
theorem la_20 {Γ : GT} {ids : List Nat} {ad : Nat → Nat} {ca : Nat → ClassId} {l0 : Launch} {D0 : va_G} {b L n : Nat} {i : Int32} {xs : Nat → Int32} {σ : HS} {K9 : (Nat → Nat) × (Nat → Nat)} (C : CT ids ad ca Γ code RL l0 D0 2048 84000 4) (X : SX Γ b L xs) (E9 : SG K9 Γ) (hid : ∀ i, i < 277 → i ∈ ids) (hi : i.toInt = 6 * (n : Int)) (hL : 6 * n + 6 ≤ L) (hLL : L ≤ 3072) (hI : REL n σ) (K : ∀ σ : HS, REL (n + 1) σ → AW ids ad ca Γ 1338 [some (.ref b), some (.ref (ad 0)), some (.ref (ad 236)), some (.int i)] [] σ) : AW ids ad ca Γ 766 [some (.ref b), some (.ref (ad 0)), some (.ref (ad 236)), some (.int i)] [] σ := by
  refine a_aload_n C dL_law_766 (i := 1) rfl rfl ?_
  refine a_aload_n C dL_law_767 (i := 0) rfl rfl ?_
  refine a_iload_n C dL_law_768 (i := 3) rfl rfl ?_
  refine s_iconst C dL_law_769 (1) (by decide) (fun z349 h350 => ?_)
  refine s_iadd C dL_law_770 (by omega) (fun z351 h352 => ?_)
  refine s_sld C X (by omega) (by omega) dL_law_771 (fun m353 h354 => ?_)
  have hS : SIM n (f_X11_orbits (xs m353)) (f_X12_orbits (xs m353)) := sim_orbits
  obtain ⟨r9, s9, s8, ec, em, hN⟩ := hS σ hI
  refine a_callVi C (i := 0) kd_0 (hid 0 (by decide)) ⟨_, _, rfl⟩ (by decide) (Z_X11_orbits hid ec) mi_X11_orbits ml_RL_101 rfl rfl (Nat.le_of_ble_eq_true rfl) (Nat.le_of_ble_eq_true rfl) (Nat.le_of_ble_eq_true rfl) dL_law_772 (fun r σ1 q1 => ?_)
  obtain ⟨er, es⟩ := q1
  subst es
  subst er
  refine a_pop C dL_law_775 rfl ?_
  refine a_aload_n C dL_law_776 (i := 2) rfl rfl ?_
  refine a_aload_n C dL_law_777 (i := 0) rfl rfl ?_
  refine a_iload_n C dL_law_778 (i := 3) rfl rfl ?_
  refine s_iconst C dL_law_779 (1) (by decide) (fun z355 h356 => ?_)
  refine s_iadd C dL_law_780 (by omega) (fun z357 h358 => ?_)
  refine s_sld C X (by omega) (by omega) dL_law_781 (fun m359 h360 => ?_)
  obtain rfl : m359 = m353 := by omega
  refine a_callVi C (i := 236) kd_236 (hid 236 (by decide)) ⟨_, _, rfl⟩ (by decide) (Z_X12_orbits hid em) mi_X12_orbits ml_RL_104 rfl rfl (Nat.le_of_ble_eq_true rfl) (Nat.le_of_ble_eq_true rfl) (Nat.le_of_ble_eq_true rfl) dL_law_782 (fun r2 σ2 q2 => ?_)
  obtain ⟨er2, es2⟩ := q2
  subst es2
  subst er2
  refine a_pop C dL_law_785 rfl ?_
  exact a_goto C dL_law_786 (tgt := 1338) rfl (K _ hN)
set_option maxHeartbeats 4000000 in
set_option maxRecDepth 100000 in
theorem la_21 {Γ : GT} {ids : List Nat} {ad : Nat → Nat} {ca : Nat → ClassId} {l0 : Launch} {D0 : va_G} {b L n : Nat} {i : Int32} {xs : Nat → Int32} {σ : HS} {K9 : (Nat → Nat) × (Nat → Nat)} (C : CT ids ad ca Γ code RL l0 D0 2048 84000 4) (X : SX Γ b L xs) (E9 : SG K9 Γ) (hid : ∀ i, i < 277 → i ∈ ids) (hi : i.toInt = 6 * (n : Int)) (hL : 6 * n + 6 ≤ L) (hLL : L ≤ 3072) (hI : REL n σ) (K : ∀ σ : HS, REL (n + 1) σ → AW ids ad ca Γ 1338 [some (.ref b), some (.ref (ad 0)), some (.ref (ad 236)), some (.int i)] [] σ) : AW ids ad ca Γ 789 [some (.ref b), some (.ref (ad 0)), some (.ref (ad 236)), some (.int i)] [] σ := by
  refine a_aload_n C dL_law_789 (i := 1) rfl rfl ?_
  refine a_aload_n C dL_law_790 (i := 0) rfl rfl ?_
  refine a_iload_n C dL_law_791 (i := 3) rfl rfl ?_
  refine s_iconst C dL_law_792 (1) (by decide) (fun z361 h362 => ?_)
  refine s_iadd C dL_law_793 (by omega) (fun z363 h364 => ?_)
  refine s_sld C X (by omega) (by omega) dL_law_794 (fun m365 h366 => ?_)
  have hS : SIM n (f_X11_swaps (xs m365)) (f_X12_swaps (xs m365)) := sim_swaps
  obtain ⟨r9, s9, s8, ec, em, hN⟩ := hS σ hI
  refine a_callVi C (i := 0) kd_0 (hid 0 (by decide)) ⟨_, _, rfl⟩ (by decide) (Z_X11_swaps hid ec) mi_X11_swaps ml_RL_105 rfl rfl (Nat.le_of_ble_eq_true rfl) (Nat.le_of_ble_eq_true rfl) (Nat.le_of_ble_eq_true rfl) dL_law_795 (fun r σ1 q1 => ?_)
  obtain ⟨er, es⟩ := q1
  subst es
  subst er
  refine a_pop C dL_law_798 rfl ?_
  refine a_aload_n C dL_law_799 (i := 2) rfl rfl ?_
  refine a_aload_n C dL_law_800 (i := 0) rfl rfl ?_
  refine a_iload_n C dL_law_801 (i := 3) rfl rfl ?_
  refine s_iconst C dL_law_802 (1) (by decide) (fun z367 h368 => ?_)
  refine s_iadd C dL_law_803 (by omega) (fun z369 h370 => ?_)
  refine s_sld C X (by omega) (by omega) dL_law_804 (fun m371 h372 => ?_)
  obtain rfl : m371 = m365 := by omega
  refine a_callVi C (i := 236) kd_236 (hid 236 (by decide)) ⟨_, _, rfl⟩ (by decide) (Z_X12_swaps hid em) mi_X12_swaps ml_RL_108 rfl rfl (Nat.le_of_ble_eq_true rfl) (Nat.le_of_ble_eq_true rfl) (Nat.le_of_ble_eq_true rfl) dL_law_805 (fun r2 σ2 q2 => ?_)
  obtain ⟨er2, es2⟩ := q2
  subst es2
  subst er2
  refine a_pop C dL_law_808 rfl ?_
  exact a_goto C dL_law_809 (tgt := 1338) rfl (K _ hN)
set_option maxHeartbeats 4000000 in
set_option maxRecDepth 100000 in
theorem la_22 {Γ : GT} {ids : List Nat} {ad : Nat → Nat} {ca : Nat → ClassId} {l0 : Launch} {D0 : va_G} {b L n : Nat} {i : Int32} {xs : Nat → Int32} {σ : HS} {K9 : (Nat → Nat) × (Nat → Nat)} (C : CT ids ad ca Γ code RL l0 D0 2048 84000 4) (X : SX Γ b L xs) (E9 : SG K9 Γ) (hid : ∀ i, i < 277 → i ∈ ids) (hi : i.toInt = 6 * (n : Int)) (hL : 6 * n + 6 ≤ L) (hLL : L ≤ 3072) (hI : REL n σ) (K : ∀ σ : HS, REL (n + 1) σ → AW ids ad ca Γ 1338 [some (.ref b), some (.ref (ad 0)), some (.ref (ad 236)), some (.int i)] [] σ) : AW ids ad ca Γ 812 [some (.ref b), some (.ref (ad 0)), some (.ref (ad 236)), some (.int i)] [] σ := by
  refine a_aload_n C dL_law_812 (i := 1) rfl rfl ?_
  refine a_aload_n C dL_law_813 (i := 0) rfl rfl ?_
  refine a_iload_n C dL_law_814 (i := 3) rfl rfl ?_
  refine s_iconst C dL_law_815 (1) (by decide) (fun z373 h374 => ?_)
  refine s_iadd C dL_law_816 (by omega) (fun z375 h376 => ?_)
  refine s_sld C X (by omega) (by omega) dL_law_817 (fun m377 h378 => ?_)
  have hS : SIM n (f_X11_room (xs m377)) (f_X12_room (xs m377)) := sim_room (by omega)
  obtain ⟨r9, s9, s8, ec, em, hN⟩ := hS σ hI
  refine a_callVi C (i := 0) kd_0 (hid 0 (by decide)) ⟨_, _, rfl⟩ (by decide) (Z_X11_room hid ec) mi_X11_room ml_RL_109 rfl rfl (Nat.le_of_ble_eq_true rfl) (Nat.le_of_ble_eq_true rfl) (Nat.le_of_ble_eq_true rfl) dL_law_818 (fun r σ1 q1 => ?_)
  obtain ⟨er, es⟩ := q1
  subst es
  subst er
  refine a_pop C dL_law_821 rfl ?_
  refine a_aload_n C dL_law_822 (i := 2) rfl rfl ?_
  refine a_aload_n C dL_law_823 (i := 0) rfl rfl ?_
  refine a_iload_n C dL_law_824 (i := 3) rfl rfl ?_
  refine s_iconst C dL_law_825 (1) (by decide) (fun z379 h380 => ?_)
  refine s_iadd C dL_law_826 (by omega) (fun z381 h382 => ?_)
  refine s_sld C X (by omega) (by omega) dL_law_827 (fun m383 h384 => ?_)
  obtain rfl : m383 = m377 := by omega
  refine a_callVi C (i := 236) kd_236 (hid 236 (by decide)) ⟨_, _, rfl⟩ (by decide) (Z_X12_room hid em) mi_X12_room ml_RL_112 rfl rfl (Nat.le_of_ble_eq_true rfl) (Nat.le_of_ble_eq_true rfl) (Nat.le_of_ble_eq_true rfl) dL_law_828 (fun r2 σ2 q2 => ?_)
  obtain ⟨er2, es2⟩ := q2
  subst es2
  subst er2
  refine a_pop C dL_law_831 rfl ?_
  exact a_goto C dL_law_832 (tgt := 1338) rfl (K _ hN)
set_option maxHeartbeats 4000000 in
set_option maxRecDepth 100000 in
theorem la_23 {Γ : GT} {ids : List Nat} {ad : Nat → Nat} {ca : Nat → ClassId} {l0 : Launch} {D0 : va_G} {b L n : Nat} {i : Int32} {xs : Nat → Int32} {σ : HS} {K9 : (Nat → Nat) × (Nat → Nat)} (C : CT ids ad ca Γ code RL l0 D0 2048 84000 4) (X : SX Γ b L xs) (E9 : SG K9 Γ) (hid : ∀ i, i < 277 → i ∈ ids) (hi : i.toInt = 6 * (n : Int)) (hL : 6 * n + 6 ≤ L) (hLL : L ≤ 3072) (hI : REL n σ) (K : ∀ σ : HS, REL (n + 1) σ → AW ids ad ca Γ 1338 [some (.ref b), some (.ref (ad 0)), some (.ref (ad 236)), some (.int i)] [] σ) : AW ids ad ca Γ 835 [some (.ref b), some (.ref (ad 0)), some (.ref (ad 236)), some (.int i)] [] σ := by
  refine a_aload_n C dL_law_835 (i := 1) rfl rfl ?_
  have hS : SIMx n (f_X11_handover) (f_X12_handover) := simx_handover (by omega)
  obtain ⟨r9, r8, s9, s8, ec, em, hN⟩ := hS σ hI
  refine a_callVi C (i := 0) kd_0 (hid 0 (by decide)) ⟨_, _, rfl⟩ (by decide) (Z_X11_handover hid ec) mi_X11_handover ml_RL_113 rfl rfl (Nat.le_of_ble_eq_true rfl) (Nat.le_of_ble_eq_true rfl) (Nat.le_of_ble_eq_true rfl) dL_law_836 (fun r σ1 q1 => ?_)
  obtain ⟨er, es⟩ := q1
  subst es
  subst er
  refine a_pop C dL_law_839 rfl ?_
  refine a_aload_n C dL_law_840 (i := 2) rfl rfl ?_
  refine a_callVi C (i := 236) kd_236 (hid 236 (by decide)) ⟨_, _, rfl⟩ (by decide) (Z_X12_handover hid em) mi_X12_handover ml_RL_116 rfl rfl (Nat.le_of_ble_eq_true rfl) (Nat.le_of_ble_eq_true rfl) (Nat.le_of_ble_eq_true rfl) dL_law_841 (fun r2 σ2 q2 => ?_)
  obtain ⟨er2, es2⟩ := q2
  subst es2
  subst er2
  refine a_pop C dL_law_844 rfl ?_
  exact a_goto C dL_law_845 (tgt := 1338) rfl (K _ hN)
set_option maxHeartbeats 4000000 in
set_option maxRecDepth 100000 in
theorem la_24 {Γ : GT} {ids : List Nat} {ad : Nat → Nat} {ca : Nat → ClassId} {l0 : Launch} {D0 : va_G} {b L n : Nat} {i : Int32} {xs : Nat → Int32} {σ : HS} {K9 : (Nat → Nat) × (Nat → Nat)} (C : CT ids ad ca Γ code RL l0 D0 2048 84000 4) (X : SX Γ b L xs) (E9 : SG K9 Γ) (hid : ∀ i, i < 277 → i ∈ ids) (hi : i.toInt = 6 * (n : Int)) (hL : 6 * n + 6 ≤ L) (hLL : L ≤ 3072) (hI : REL n σ) (K : ∀ σ : HS, REL (n + 1) σ → AW ids ad ca Γ 1338 [some (.ref b), some (.ref (ad 0)), some (.ref (ad 236)), some (.int i)] [] σ) : AW ids ad ca Γ 848 [some (.ref b), some (.ref (ad 0)), some (.ref (ad 236)), some (.int i)] [] σ := by
  refine a_aload_n C dL_law_848 (i := 1) rfl rfl ?_
  refine a_aload_n C dL_law_849 (i := 0) rfl rfl ?_
  refine a_iload_n C dL_law_850 (i := 3) rfl rfl ?_
  refine s_iconst C dL_law_851 (1) (by decide) (fun z385 h386 => ?_)
  refine s_iadd C dL_law_852 (by omega) (fun z387 h388 => ?_)
  refine s_sld C X (by omega) (by omega) dL_law_853 (fun m389 h390 => ?_)
  have hS : SIMx n (f_X11_limit (xs m389)) (f_X12_limit (xs m389)) := simx_limit (by omega)
  obtain ⟨r9, r8, s9, s8, ec, em, hN⟩ := hS σ hI
  refine a_callVi C (i := 0) kd_0 (hid 0 (by decide)) ⟨_, _, rfl⟩ (by decide) (Z_X11_limit hid ec) mi_X11_limit ml_RL_117 rfl rfl (Nat.le_of_ble_eq_true rfl) (Nat.le_of_ble_eq_true rfl) (Nat.le_of_ble_eq_true rfl) dL_law_854 (fun r σ1 q1 => ?_)
  obtain ⟨er, es⟩ := q1
  subst es
  subst er
  refine a_pop C dL_law_857 rfl ?_
  refine a_aload_n C dL_law_858 (i := 2) rfl rfl ?_
  refine a_aload_n C dL_law_859 (i := 0) rfl rfl ?_
  refine a_iload_n C dL_law_860 (i := 3) rfl rfl ?_
  refine s_iconst C dL_law_861 (1) (by decide) (fun z391 h392 => ?_)
  refine s_iadd C dL_law_862 (by omega) (fun z393 h394 => ?_)
  refine s_sld C X (by omega) (by omega) dL_law_863 (fun m395 h396 => ?_)
  obtain rfl : m395 = m389 := by omega
  refine a_callVi C (i := 236) kd_236 (hid 236 (by decide)) ⟨_, _, rfl⟩ (by decide) (Z_X12_limit hid em) mi_X12_limit ml_RL_120 rfl rfl (Nat.le_of_ble_eq_true rfl) (Nat.le_of_ble_eq_true rfl) (Nat.le_of_ble_eq_true rfl) dL_law_864 (fun r2 σ2 q2 => ?_)
  obtain ⟨er2, es2⟩ := q2
  subst es2
  subst er2
  refine a_pop C dL_law_867 rfl ?_
  exact a_goto C dL_law_868 (tgt := 1338) rfl (K _ hN)
set_option maxHeartbeats 4000000 in
set_option maxRecDepth 100000 in
theorem la_25 {Γ : GT} {ids : List Nat} {ad : Nat → Nat} {ca : Nat → ClassId} {l0 : Launch} {D0 : va_G} {b L n : Nat} {i : Int32} {xs : Nat → Int32} {σ : HS} {K9 : (Nat → Nat) × (Nat → Nat)} (C : CT ids ad ca Γ code RL l0 D0 2048 84000 4) (X : SX Γ b L xs) (E9 : SG K9 Γ) (hid : ∀ i, i < 277 → i ∈ ids) (hi : i.toInt = 6 * (n : Int)) (hL : 6 * n + 6 ≤ L) (hLL : L ≤ 3072) (hI : REL n σ) (K : ∀ σ : HS, REL (n + 1) σ → AW ids ad ca Γ 1338 [some (.ref b), some (.ref (ad 0)), some (.ref (ad 236)), some (.int i)] [] σ) : AW ids ad ca Γ 871 [some (.ref b), some (.ref (ad 0)), some (.ref (ad 236)), some (.int i)] [] σ := by
  refine a_aload_n C dL_law_871 (i := 1) rfl rfl ?_
  refine a_aload_n C dL_law_872 (i := 0) rfl rfl ?_
  refine a_iload_n C dL_law_873 (i := 3) rfl rfl ?_
  refine s_iconst C dL_law_874 (1) (by decide) (fun z397 h398 => ?_)
  refine s_iadd C dL_law_875 (by omega) (fun z399 h400 => ?_)
  refine s_sld C X (by omega) (by omega) dL_law_876 (fun m401 h402 => ?_)
  refine a_aload_n C dL_law_877 (i := 0) rfl rfl ?_
  refine a_iload_n C dL_law_878 (i := 3) rfl rfl ?_
  refine s_iconst C dL_law_879 (2) (by decide) (fun z403 h404 => ?_)
  refine s_iadd C dL_law_880 (by omega) (fun z405 h406 => ?_)
  refine s_sld C X (by omega) (by omega) dL_law_881 (fun m407 h408 => ?_)
  have hS : SIM n (f_X11_busiest (xs m401) (xs m407)) (f_X12_busiest (xs m401) (xs m407)) := sim_busiest (by omega)
  obtain ⟨r9, s9, s8, ec, em, hN⟩ := hS σ hI
  refine a_callVi C (i := 0) kd_0 (hid 0 (by decide)) ⟨_, _, rfl⟩ (by decide) (Z_X11_busiest hid ec) mi_X11_busiest ml_RL_121 rfl rfl (Nat.le_of_ble_eq_true rfl) (Nat.le_of_ble_eq_true rfl) (Nat.le_of_ble_eq_true rfl) dL_law_882 (fun r σ1 q1 => ?_)
  obtain ⟨er, es⟩ := q1
  subst es
  subst er
  refine a_pop C dL_law_885 rfl ?_
  refine a_aload_n C dL_law_886 (i := 2) rfl rfl ?_
  refine a_aload_n C dL_law_887 (i := 0) rfl rfl ?_
  refine a_iload_n C dL_law_888 (i := 3) rfl rfl ?_
  refine s_iconst C dL_law_889 (1) (by decide) (fun z409 h410 => ?_)
  refine s_iadd C dL_law_890 (by omega) (fun z411 h412 => ?_)
  refine s_sld C X (by omega) (by omega) dL_law_891 (fun m413 h414 => ?_)
  refine a_aload_n C dL_law_892 (i := 0) rfl rfl ?_
  refine a_iload_n C dL_law_893 (i := 3) rfl rfl ?_
  refine s_iconst C dL_law_894 (2) (by decide) (fun z415 h416 => ?_)
  refine s_iadd C dL_law_895 (by omega) (fun z417 h418 => ?_)
  refine s_sld C X (by omega) (by omega) dL_law_896 (fun m419 h420 => ?_)
  obtain rfl : m413 = m401 := by omega
  obtain rfl : m419 = m407 := by omega
  refine a_callVi C (i := 236) kd_236 (hid 236 (by decide)) ⟨_, _, rfl⟩ (by decide) (Z_X12_busiest hid em) mi_X12_busiest ml_RL_124 rfl rfl (Nat.le_of_ble_eq_true rfl) (Nat.le_of_ble_eq_true rfl) (Nat.le_of_ble_eq_true rfl) dL_law_897 (fun r2 σ2 q2 => ?_)
  obtain ⟨er2, es2⟩ := q2
  subst es2
  subst er2
  refine a_pop C dL_law_900 rfl ?_
  exact a_goto C dL_law_901 (tgt := 1338) rfl (K _ hN)
set_option maxHeartbeats 4000000 in
set_option maxRecDepth 100000 in
theorem la_26 {Γ : GT} {ids : List Nat} {ad : Nat → Nat} {ca : Nat → ClassId} {l0 : Launch} {D0 : va_G} {b L n : Nat} {i : Int32} {xs : Nat → Int32} {σ : HS} {K9 : (Nat → Nat) × (Nat → Nat)} (C : CT ids ad ca Γ code RL l0 D0 2048 84000 4) (X : SX Γ b L xs) (E9 : SG K9 Γ) (hid : ∀ i, i < 277 → i ∈ ids) (hi : i.toInt = 6 * (n : Int)) (hL : 6 * n + 6 ≤ L) (hLL : L ≤ 3072) (hI : REL n σ) (K : ∀ σ : HS, REL (n + 1) σ → AW ids ad ca Γ 1338 [some (.ref b), some (.ref (ad 0)), some (.ref (ad 236)), some (.int i)] [] σ) : AW ids ad ca Γ 904 [some (.ref b), some (.ref (ad 0)), some (.ref (ad 236)), some (.int i)] [] σ := by
  refine a_aload_n C dL_law_904 (i := 1) rfl rfl ?_
  refine a_aload_n C dL_law_905 (i := 0) rfl rfl ?_
  refine a_iload_n C dL_law_906 (i := 3) rfl rfl ?_
  refine s_iconst C dL_law_907 (1) (by decide) (fun z421 h422 => ?_)
  refine s_iadd C dL_law_908 (by omega) (fun z423 h424 => ?_)
  refine s_sld C X (by omega) (by omega) dL_law_909 (fun m425 h426 => ?_)
  have hS : SIM n (f_X11_load (xs m425)) (f_X12_load (xs m425)) := sim_load (by omega)
  obtain ⟨r9, s9, s8, ec, em, hN⟩ := hS σ hI
  refine a_callVi C (i := 0) kd_0 (hid 0 (by decide)) ⟨_, _, rfl⟩ (by decide) (Z_X11_load hid ec) mi_X11_load ml_RL_125 rfl rfl (Nat.le_of_ble_eq_true rfl) (Nat.le_of_ble_eq_true rfl) (Nat.le_of_ble_eq_true rfl) dL_law_910 (fun r σ1 q1 => ?_)
  obtain ⟨er, es⟩ := q1
  subst es
  subst er
  refine a_pop C dL_law_913 rfl ?_
  refine a_aload_n C dL_law_914 (i := 2) rfl rfl ?_
  refine a_aload_n C dL_law_915 (i := 0) rfl rfl ?_
  refine a_iload_n C dL_law_916 (i := 3) rfl rfl ?_
  refine s_iconst C dL_law_917 (1) (by decide) (fun z427 h428 => ?_)
  refine s_iadd C dL_law_918 (by omega) (fun z429 h430 => ?_)
  refine s_sld C X (by omega) (by omega) dL_law_919 (fun m431 h432 => ?_)
  obtain rfl : m431 = m425 := by omega
  refine a_callVi C (i := 236) kd_236 (hid 236 (by decide)) ⟨_, _, rfl⟩ (by decide) (Z_X12_load hid em) mi_X12_load ml_RL_128 rfl rfl (Nat.le_of_ble_eq_true rfl) (Nat.le_of_ble_eq_true rfl) (Nat.le_of_ble_eq_true rfl) dL_law_920 (fun r2 σ2 q2 => ?_)
  obtain ⟨er2, es2⟩ := q2
  subst es2
  subst er2
  refine a_pop C dL_law_923 rfl ?_
  exact a_goto C dL_law_924 (tgt := 1338) rfl (K _ hN)
set_option maxHeartbeats 4000000 in
set_option maxRecDepth 100000 in
theorem la_27 {Γ : GT} {ids : List Nat} {ad : Nat → Nat} {ca : Nat → ClassId} {l0 : Launch} {D0 : va_G} {b L n : Nat} {i : Int32} {xs : Nat → Int32} {σ : HS} {K9 : (Nat → Nat) × (Nat → Nat)} (C : CT ids ad ca Γ code RL l0 D0 2048 84000 4) (X : SX Γ b L xs) (E9 : SG K9 Γ) (hid : ∀ i, i < 277 → i ∈ ids) (hi : i.toInt = 6 * (n : Int)) (hL : 6 * n + 6 ≤ L) (hLL : L ≤ 3072) (hI : REL n σ) (K : ∀ σ : HS, REL (n + 1) σ → AW ids ad ca Γ 1338 [some (.ref b), some (.ref (ad 0)), some (.ref (ad 236)), some (.int i)] [] σ) : AW ids ad ca Γ 927 [some (.ref b), some (.ref (ad 0)), some (.ref (ad 236)), some (.int i)] [] σ := by
  refine a_aload_n C dL_law_927 (i := 1) rfl rfl ?_
  have hS : SIM n (f_X11_gap) (f_X12_gap) := sim_gap (by omega)
  obtain ⟨r9, s9, s8, ec, em, hN⟩ := hS σ hI
  refine a_callVi C (i := 0) kd_0 (hid 0 (by decide)) ⟨_, _, rfl⟩ (by decide) (Z_X11_gap hid ec) mi_X11_gap ml_RL_129 rfl rfl (Nat.le_of_ble_eq_true rfl) (Nat.le_of_ble_eq_true rfl) (Nat.le_of_ble_eq_true rfl) dL_law_928 (fun r σ1 q1 => ?_)
  obtain ⟨er, es⟩ := q1
  subst es
  subst er
  refine a_pop C dL_law_931 rfl ?_
  refine a_aload_n C dL_law_932 (i := 2) rfl rfl ?_
  refine a_callVi C (i := 236) kd_236 (hid 236 (by decide)) ⟨_, _, rfl⟩ (by decide) (Z_X12_gap hid em) mi_X12_gap ml_RL_132 rfl rfl (Nat.le_of_ble_eq_true rfl) (Nat.le_of_ble_eq_true rfl) (Nat.le_of_ble_eq_true rfl) dL_law_933 (fun r2 σ2 q2 => ?_)
  obtain ⟨er2, es2⟩ := q2
  subst es2
  subst er2
  refine a_pop C dL_law_936 rfl ?_
  exact a_goto C dL_law_937 (tgt := 1338) rfl (K _ hN)

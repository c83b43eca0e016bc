/-! read -/
theorem dX6_readInto_71 : decode cX6_readInto 71 = .ok (.iload_n 3, 1) := by decide +kernel
theorem dX6_readInto_72 : decode cX6_readInto 72 = .ok (.sipush 400, 3) := by decide +kernel
theorem dX6_readInto_75 : decode cX6_readInto 75 = .ok (.if_icmp .gt 15, 3) := by decide +kernel
theorem dX6_readInto_78 : decode cX6_readInto 78 = .ok (.aload_n 0, 1) := by decide +kernel
theorem dX6_readInto_79 : decode cX6_readInto 79 = .ok (.aload_n 1, 1) := by decide +kernel
theorem dX6_readInto_80 : decode cX6_readInto 80 = .ok (.invokevirtual 56, 3) := by decide +kernel
theorem dX6_readInto_83 : decode cX6_readInto 83 = .ok (.istore_n 2, 1) := by decide +kernel
theorem dX6_readInto_84 : decode cX6_readInto 84 = .ok (.iinc 3 1, 3) := by decide +kernel
theorem dX6_readInto_87 : decode cX6_readInto 87 = .ok (.goto (-29), 3) := by decide +kernel
theorem dX6_readInto_104 : decode cX6_readInto 104 = .ok (.aload_n 0, 1) := by decide +kernel
theorem dX6_readInto_105 : decode cX6_readInto 105 = .ok (.aload_n 0, 1) := by decide +kernel
theorem dX6_readInto_106 : decode cX6_readInto 106 = .ok (.getfield 37, 3) := by decide +kernel
theorem dX6_readInto_109 : decode cX6_readInto 109 = .ok (.putfield 34, 3) := by decide +kernel
theorem dX6_readInto_112 : decode cX6_readInto 112 = .ok (.aload_n 0, 1) := by decide +kernel
theorem dX6_readInto_113 : decode cX6_readInto 113 = .ok (.aload_n 0, 1) := by decide +kernel
theorem dX6_readInto_114 : decode cX6_readInto 114 = .ok (.getfield 40, 3) := by decide +kernel
theorem dX6_readInto_117 : decode cX6_readInto 117 = .ok (.putfield 18, 3) := by decide +kernel
set_option maxHeartbeats 1000000 in
set_option maxRecDepth 10000 in
theorem S_X6_readInto_1_30 {l : Launch} {D : va_G} {ids : List Nat} {ad : Nat → Nat} {ca : Nat → ClassId} {K : (Nat → Nat) × (Nat → Nat)} {σ : HS} (hid : ∀ i, i < 277 → i ∈ ids) (hG : GIc σ) : KiS l D ids ad ca K yX6_readInto cX6_readInto 4 .int 26 620 [.ref (ad 1), .ref (ad 30)] σ (fun r σ1 => GIc σ1 ∧ ony [1, 2, 4, 5, 6, 7, 30, 31, 32, 33, 35, 36, 37, 38, 39, 40, 41, 42] σ σ1) := by
  refine KiS.of (by decide) (Nat.le_of_ble_eq_true rfl) 2 (fun Γ C E Rt => ?_)
  show AW ids ad ca Γ 0 [some (.ref (ad 1)), some (.ref (ad 30)), none, none] [] σ
  have j120 : ∀ (σq : HS) vs, GIc σq → ony [1, 2, 4, 5, 6, 7, 30, 31, 32, 33, 35, 36, 37, 38, 39, 40, 41, 42] σ σq → vs[0]? = some (some (.ref (ad 1))) → AW ids ad ca Γ 120 vs [] σq := by
    intro σq vs hGq hoq hv
    refine a_aload_n C dX6_readInto_120 (i := 0) rfl hv ?_
    refine a_get C fl_RX6_34 (i := 1) kd_1 (hid 1 (by decide)) (v := .int (σq.1 1 2)) rfl dX6_readInto_121 ?_
    exact a_iret Rt dX6_readInto_124 rfl ⟨hGq, hoq⟩
  have j90 : ∀ (σq : HS) (g t : Int32), GIc σq → ony [1, 2, 4, 5, 6, 7, 30, 31, 32, 33, 35, 36, 37, 38, 39, 40, 41, 42] σ σq → AW ids ad ca Γ 90 [some (.ref (ad 1)), some (.ref (ad 30)), some (.int g), some (.int t)] [] σq := by
    intro σq g t hGq hoq
    refine a_aload_n C dX6_readInto_90 (i := 0) rfl rfl ?_
    refine a_get C fl_RX6_34 (i := 1) kd_1 (hid 1 (by decide)) (v := .int (σq.1 1 2)) rfl dX6_readInto_91 ?_
    refine a_if_ne C dX6_readInto_94 (tgt := 120) rfl (fun _ => j120 _ _ hGq hoq rfl) (fun _ => ?_)
    refine a_aload_n C dX6_readInto_97 (i := 0) rfl rfl ?_
    refine a_get C fl_RX6_37 (i := 1) kd_1 (hid 1 (by decide)) (v := .int (σq.1 1 3)) rfl dX6_readInto_98 ?_
    refine a_if_eq C dX6_readInto_101 (tgt := 120) rfl (fun _ => j120 _ _ hGq hoq rfl) (fun _ => ?_)
    refine a_aload_n C dX6_readInto_104 (i := 0) rfl rfl ?_
    refine a_aload_n C dX6_readInto_105 (i := 0) rfl rfl ?_
    refine a_get C fl_RX6_37 (i := 1) kd_1 (hid 1 (by decide)) (v := .int (σq.1 1 3)) rfl dX6_readInto_106 ?_
    refine a_put C fp_RX6_34 (i := 1) kd_1 (hid 1 (by decide)) rfl rfl dX6_readInto_109 ?_
    refine a_aload_n C dX6_readInto_112 (i := 0) rfl rfl ?_
    refine a_aload_n C dX6_readInto_113 (i := 0) rfl rfl ?_
    refine a_get C fl_RX6_40 (i := 1) kd_1 (hid 1 (by decide)) (v := .int ((hI σq 1 2 (σq.1 1 3)).1 1 4)) rfl dX6_readInto_114 ?_
    refine a_put C fp_RX6_18 (i := 1) kd_1 (hid 1 (by decide)) rfl rfl dX6_readInto_117 ?_
    exact j120 _ _ (wF_1_1 (wF_1_2 hGq)) ((hoq.I (by decide)).I (by decide)) rfl
  have J : ∀ (d : Nat) (σq : HS) (g t : Int32), 401 - t.toInt < d → 0 ≤ t.toInt ∧ t.toInt ≤ 401 → GIc σq → RK σq → ony [1, 2, 4, 5, 6, 7, 30, 31, 32, 33, 35, 36, 37, 38, 39, 40, 41, 42] σ σq → AW ids ad ca Γ 58 [some (.ref (ad 1)), some (.ref (ad 30)), some (.int g), some (.int t)] [] σq := by
    intro d
    induction d with
    | zero => intro σq g t hd ht; exfalso; omega
    | succ d ih =>
      intro σq g t hd ht hGq hRq hoq
      have hend := j90 σq g t hGq hoq
      refine a_iload_n C dX6_readInto_58 (i := 2) rfl rfl ?_
      refine a_if_eq C dX6_readInto_59 (tgt := 90) rfl (fun _ => hend) (fun _ => ?_)
      refine a_aload_n C dX6_readInto_62 (i := 0) rfl rfl ?_
      refine a_get C fl_RX6_53 (i := 1) kd_1 (hid 1 (by decide)) (v := .int (σq.1 1 6)) rfl dX6_readInto_63 ?_
      refine s_bipush C dX6_readInto_66 22 (by decide) (fun z hz => ?_)
      refine a_ic_eq C dX6_readInto_68 (tgt := 90) rfl (fun _ => hend) (fun _ => ?_)
      refine a_iload_n C dX6_readInto_71 (i := 3) rfl rfl ?_
      refine s_sipush C dX6_readInto_72 400 (by decide) (fun z1 hz1 => ?_)
      refine s_ic_gt C dX6_readInto_75 (tgt := 90) rfl (fun _ => hend) (fun c1 => ?_)
      refine a_aload_n C dX6_readInto_78 (i := 0) rfl rfl ?_
      refine a_aload_n C dX6_readInto_79 (i := 1) rfl rfl ?_
      refine a_callVi C (As := [.ref (ad 30)]) (i := 1) kd_1 (hid 1 (by decide)) ⟨_, _, rfl⟩ (by decide) (S_X6_telling_1_30 hid hGq hRq) mi_X6_telling ml_RX6_56 rfl rfl (Nat.le_of_ble_eq_true rfl) (Nat.le_of_ble_eq_true rfl) (Nat.le_of_ble_eq_true rfl) dX6_readInto_80 (fun r σ1 q => ?_)
      obtain ⟨hG1, ho1, hR1, _⟩ := q
      refine a_istore_n C dX6_readInto_83 (i := 2) rfl (by decide) rfl (vs1 := [some (.ref (ad 1)), some (.ref (ad 30)), some (.int r), some (.int t)]) rfl ?_
      refine s_iinc C dX6_readInto_84 rfl 1 (by decide) (by omega) (by decide) rfl (fun t1 ht1 => ?_)
      show AW ids ad ca Γ 87 [some (.ref (ad 1)), some (.ref (ad 30)), some (.int r), some (.int t1)] _ _
      refine a_goto C dX6_readInto_87 (tgt := 58) rfl ?_
      exact ih _ r t1 (by omega) (by omega) hG1 hR1 (hoq.tr (ho1.mono (by decide)))
  refine a_aload_n C dX6_readInto_0 (i := 1) rfl rfl ?_
  refine a_callVv C (As := []) (i := 30) kd_30 (hid 30 (by decide)) ⟨_, _, rfl⟩ (by decide) (S_X10_clear_30 hid hG) mi_X10_clear ml_RX6_26 rfl rfl (Nat.le_of_ble_eq_true rfl) (Nat.le_of_ble_eq_true rfl) (Nat.le_of_ble_eq_true rfl) dX6_readInto_1 (fun σ1 q => ?_)
  obtain ⟨hG1, ho1⟩ := q
  refine a_aload_n C dX6_readInto_4 (i := 0) rfl rfl ?_
  refine s_iconst C dX6_readInto_5 (0) (by decide) (fun z9 hz9 => ?_)
  refine a_put C fp_RX6_31 (i := 1) kd_1 (hid 1 (by decide)) rfl rfl dX6_readInto_6 ?_
  refine a_aload_n C dX6_readInto_9 (i := 0) rfl rfl ?_
  refine s_iconst C dX6_readInto_10 (0) (by decide) (fun z2 hz2 => ?_)
  refine a_put C fp_RX6_34 (i := 1) kd_1 (hid 1 (by decide)) rfl rfl dX6_readInto_11 ?_
  refine a_aload_n C dX6_readInto_14 (i := 0) rfl rfl ?_
  refine s_iconst C dX6_readInto_15 (-1) (by decide) (fun z1 hz1 => ?_)
  refine a_put C fp_RX6_18 (i := 1) kd_1 (hid 1 (by decide)) rfl rfl dX6_readInto_16 ?_
  refine a_aload_n C dX6_readInto_19 (i := 0) rfl rfl ?_
  refine s_iconst C dX6_readInto_20 (0) (by decide) (fun z3 hz3 => ?_)
  refine a_put C fp_RX6_37 (i := 1) kd_1 (hid 1 (by decide)) rfl rfl dX6_readInto_21 ?_
  refine a_aload_n C dX6_readInto_24 (i := 0) rfl rfl ?_
  refine s_iconst C dX6_readInto_25 (-1) (by decide) (fun z4 hz4 => ?_)
  refine a_put C fp_RX6_40 (i := 1) kd_1 (hid 1 (by decide)) rfl rfl dX6_readInto_26 ?_
  have hG2 := wF_1_4 (v := z4) (wF_1_3 (v := z3) (wF_1_1 (v := z1) (wF_1_2 (v := z2) (wF_1_9 (v := z9) hG1 (by omega) (by omega)))))
  have ho2 : ony [1, 2, 4, 5, 6, 7, 30, 31, 32, 33, 35, 36, 37, 38, 39, 40, 41, 42] σ (hI (hI (hI (hI (hI σ1 1 9 z9) 1 2 z2) 1 1 z1) 1 3 z3) 1 4 z4) := (((((ho1.mono (by decide)).I (by decide)).I (by decide)).I (by decide)).I (by decide)).I (by decide)
  refine a_aload_n C dX6_readInto_29 (i := 0) rfl rfl ?_
  refine a_get C fl_RX6_12 (i := 1) kd_1 (hid 1 (by decide)) (v := .ref (ad 2)) rfl dX6_readInto_30 ?_
  refine a_cVvS C E (As := []) (i := 2) kd_2 (hid 2 (by decide)) ⟨_, _, rfl⟩ (by decide) (S_X9_cut hid hG2) mi_X9_cut ml_RX6_43 rfl rfl (Nat.le_of_ble_eq_true rfl) (Nat.le_of_ble_eq_true rfl) (Nat.le_of_ble_eq_true rfl) dX6_readInto_33 (fun σ3 q => ?_)
  obtain ⟨hG3, ho3, _⟩ := q
  have ho4 : ony [1, 2, 4, 5, 6, 7, 30, 31, 32, 33, 35, 36, 37, 38, 39, 40, 41, 42] σ σ3 := ho2.tr (ho3.mono (by decide))
  refine a_aload_n C dX6_readInto_36 (i := 0) rfl rfl ?_
  refine s_iconst C dX6_readInto_37 0 (by decide) (fun z5 hz5 => ?_)
  refine a_put C fp_RX6_46 (i := 1) kd_1 (hid 1 (by decide)) rfl rfl dX6_readInto_38 ?_
  have hG5 := wF_1_5 (v := z5) hG3 (by omega) (by omega)
  refine a_aload_n C dX6_readInto_41 (i := 0) rfl rfl ?_
  refine a_aload_n C dX6_readInto_42 (i := 0) rfl rfl ?_
  refine a_get C fl_RX6_12 (i := 1) kd_1 (hid 1 (by decide)) (v := .ref (ad 2)) rfl dX6_readInto_43 ?_
  refine a_get C fl_RX6_49 (i := 2) kd_2 (hid 2 (by decide)) (v := .ref (ad 4)) rfl dX6_readInto_46 ?_
  refine s_iconst C dX6_readInto_49 0 (by decide) (fun z6 hz6 => ?_)
  refine s_iald C (i := 4) kd_4 (hid 4 (by decide)) al_4 (by omega) (by omega) dX6_readInto_50 (fun n hn => ?_)
  refine a_put C fp_RX6_53 (i := 1) kd_1 (hid 1 (by decide)) rfl rfl dX6_readInto_51 ?_
  have hG6 := wF_1_6 (v := (hI σ3 1 5 z5).1 4 n) hG5
  have hR6 : RK (hI (hI σ3 1 5 z5) 1 6 ((hI σ3 1 5 z5).1 4 n)) := by
    unfold RK
    rw [hI_s, hI_o (show (4 : Nat) ≠ 1 by decide), hI_n (show (5 : Nat) ≠ 6 by decide), hI_s]
    rw [show z5.toInt.toNat = n by omega, hI_o (show (4 : Nat) ≠ 1 by decide), hI_o (show (4 : Nat) ≠ 1 by decide)]
  refine s_iconst C dX6_readInto_54 1 (by decide) (fun g hg => ?_)
  refine a_istore_n C dX6_readInto_55 (i := 2) rfl (by decide) rfl (vs1 := [some (.ref (ad 1)), some (.ref (ad 30)), some (.int g), none]) rfl ?_
  refine s_iconst C dX6_readInto_56 0 (by decide) (fun t ht => ?_)
  refine a_istore_n C dX6_readInto_57 (i := 3) rfl (by decide) rfl (vs1 := [some (.ref (ad 1)), some (.ref (ad 30)), some (.int g), some (.int t)]) rfl ?_
  exact J 402 _ g t (by omega) (by omega) hG6 hR6 ((ho4.I (by decide)).I (by decide))
set_option maxHeartbeats 1000000 in
set_option maxRecDepth 10000 in
theorem S_X6_readInto_1_43 {l : Launch} {D : va_G} {ids : List Nat} {ad : Nat → Nat} {ca : Nat → ClassId} {K : (Nat → Nat) × (Nat → Nat)} {σ : HS} (hid : ∀ i, i < 277 → i ∈ ids) (hG : GIc σ) : KiS l D ids ad ca K yX6_readInto cX6_readInto 4 .int 26 620 [.ref (ad 1), .ref (ad 43)] σ (fun r σ1 => GIc σ1 ∧ ony [1, 2, 4, 5, 6, 7, 43, 44, 45, 46, 48, 49, 50, 51, 52, 53, 54, 55] σ σ1) := by
  refine KiS.of (by decide) (Nat.le_of_ble_eq_true rfl) 2 (fun Γ C E Rt => ?_)
  show AW ids ad ca Γ 0 [some (.ref (ad 1)), some (.ref (ad 43)), none, none] [] σ
  have j120 : ∀ (σq : HS) vs, GIc σq → ony [1, 2, 4, 5, 6, 7, 43, 44, 45, 46, 48, 49, 50, 51, 52, 53, 54, 55] σ σq → vs[0]? = some (some (.ref (ad 1))) → AW ids ad ca Γ 120 vs [] σq := by
    intro σq vs hGq hoq hv
    refine a_aload_n C dX6_readInto_120 (i := 0) rfl hv ?_
    refine a_get C fl_RX6_34 (i := 1) kd_1 (hid 1 (by decide)) (v := .int (σq.1 1 2)) rfl dX6_readInto_121 ?_
    exact a_iret Rt dX6_readInto_124 rfl ⟨hGq, hoq⟩
  have j90 : ∀ (σq : HS) (g t : Int32), GIc σq → ony [1, 2, 4, 5, 6, 7, 43, 44, 45, 46, 48, 49, 50, 51, 52, 53, 54, 55] σ σq → AW ids ad ca Γ 90 [some (.ref (ad 1)), some (.ref (ad 43)), some (.int g), some (.int t)] [] σq := by
    intro σq g t hGq hoq
    refine a_aload_n C dX6_readInto_90 (i := 0) rfl rfl ?_
    refine a_get C fl_RX6_34 (i := 1) kd_1 (hid 1 (by decide)) (v := .int (σq.1 1 2)) rfl dX6_readInto_91 ?_
    refine a_if_ne C dX6_readInto_94 (tgt := 120) rfl (fun _ => j120 _ _ hGq hoq rfl) (fun _ => ?_)
    refine a_aload_n C dX6_readInto_97 (i := 0) rfl rfl ?_
    refine a_get C fl_RX6_37 (i := 1) kd_1 (hid 1 (by decide)) (v := .int (σq.1 1 3)) rfl dX6_readInto_98 ?_
    refine a_if_eq C dX6_readInto_101 (tgt := 120) rfl (fun _ => j120 _ _ hGq hoq rfl) (fun _ => ?_)
    refine a_aload_n C dX6_readInto_104 (i := 0) rfl rfl ?_
    refine a_aload_n C dX6_readInto_105 (i := 0) rfl rfl ?_
    refine a_get C fl_RX6_37 (i := 1) kd_1 (hid 1 (by decide)) (v := .int (σq.1 1 3)) rfl dX6_readInto_106 ?_
    refine a_put C fp_RX6_34 (i := 1) kd_1 (hid 1 (by decide)) rfl rfl dX6_readInto_109 ?_
    refine a_aload_n C dX6_readInto_112 (i := 0) rfl rfl ?_
    refine a_aload_n C dX6_readInto_113 (i := 0) rfl rfl ?_
    refine a_get C fl_RX6_40 (i := 1) kd_1 (hid 1 (by decide)) (v := .int ((hI σq 1 2 (σq.1 1 3)).1 1 4)) rfl dX6_readInto_114 ?_
    refine a_put C fp_RX6_18 (i := 1) kd_1 (hid 1 (by decide)) rfl rfl dX6_readInto_117 ?_
    exact j120 _ _ (wF_1_1 (wF_1_2 hGq)) ((hoq.I (by decide)).I (by decide)) rfl
  have J : ∀ (d : Nat) (σq : HS) (g t : Int32), 401 - t.toInt < d → 0 ≤ t.toInt ∧ t.toInt ≤ 401 → GIc σq → RK σq → ony [1, 2, 4, 5, 6, 7, 43, 44, 45, 46, 48, 49, 50, 51, 52, 53, 54, 55] σ σq → AW ids ad ca Γ 58 [some (.ref (ad 1)), some (.ref (ad 43)), some (.int g), some (.int t)] [] σq := by
    intro d
    induction d with
    | zero => intro σq g t hd ht; exfalso; omega
    | succ d ih =>
      intro σq g t hd ht hGq hRq hoq
      have hend := j90 σq g t hGq hoq
      refine a_iload_n C dX6_readInto_58 (i := 2) rfl rfl ?_
      refine a_if_eq C dX6_readInto_59 (tgt := 90) rfl (fun _ => hend) (fun _ => ?_)
      refine a_aload_n C dX6_readInto_62 (i := 0) rfl rfl ?_
      refine a_get C fl_RX6_53 (i := 1) kd_1 (hid 1 (by decide)) (v := .int (σq.1 1 6)) rfl dX6_readInto_63 ?_
      refine s_bipush C dX6_readInto_66 22 (by decide) (fun z hz => ?_)
      refine a_ic_eq C dX6_readInto_68 (tgt := 90) rfl (fun _ => hend) (fun _ => ?_)
      refine a_iload_n C dX6_readInto_71 (i := 3) rfl rfl ?_
      refine s_sipush C dX6_readInto_72 400 (by decide) (fun z1 hz1 => ?_)
      refine s_ic_gt C dX6_readInto_75 (tgt := 90) rfl (fun _ => hend) (fun c1 => ?_)
      refine a_aload_n C dX6_readInto_78 (i := 0) rfl rfl ?_
      refine a_aload_n C dX6_readInto_79 (i := 1) rfl rfl ?_
      refine a_callVi C (As := [.ref (ad 43)]) (i := 1) kd_1 (hid 1 (by decide)) ⟨_, _, rfl⟩ (by decide) (S_X6_telling_1_43 hid hGq hRq) mi_X6_telling ml_RX6_56 rfl rfl (Nat.le_of_ble_eq_true rfl) (Nat.le_of_ble_eq_true rfl) (Nat.le_of_ble_eq_true rfl) dX6_readInto_80 (fun r σ1 q => ?_)
      obtain ⟨hG1, ho1, hR1, _⟩ := q
      refine a_istore_n C dX6_readInto_83 (i := 2) rfl (by decide) rfl (vs1 := [some (.ref (ad 1)), some (.ref (ad 43)), some (.int r), some (.int t)]) rfl ?_
      refine s_iinc C dX6_readInto_84 rfl 1 (by decide) (by omega) (by decide) rfl (fun t1 ht1 => ?_)
      show AW ids ad ca Γ 87 [some (.ref (ad 1)), some (.ref (ad 43)), some (.int r), some (.int t1)] _ _
      refine a_goto C dX6_readInto_87 (tgt := 58) rfl ?_
      exact ih _ r t1 (by omega) (by omega) hG1 hR1 (hoq.tr (ho1.mono (by decide)))
  refine a_aload_n C dX6_readInto_0 (i := 1) rfl rfl ?_
  refine a_callVv C (As := []) (i := 43) kd_43 (hid 43 (by decide)) ⟨_, _, rfl⟩ (by decide) (S_X10_clear_43 hid hG) mi_X10_clear ml_RX6_26 rfl rfl (Nat.le_of_ble_eq_true rfl) (Nat.le_of_ble_eq_true rfl) (Nat.le_of_ble_eq_true rfl) dX6_readInto_1 (fun σ1 q => ?_)
  obtain ⟨hG1, ho1⟩ := q
  refine a_aload_n C dX6_readInto_4 (i := 0) rfl rfl ?_
  refine s_iconst C dX6_readInto_5 (0) (by decide) (fun z9 hz9 => ?_)
  refine a_put C fp_RX6_31 (i := 1) kd_1 (hid 1 (by decide)) rfl rfl dX6_readInto_6 ?_
  refine a_aload_n C dX6_readInto_9 (i := 0) rfl rfl ?_
  refine s_iconst C dX6_readInto_10 (0) (by decide) (fun z2 hz2 => ?_)
  refine a_put C fp_RX6_34 (i := 1) kd_1 (hid 1 (by decide)) rfl rfl dX6_readInto_11 ?_
  refine a_aload_n C dX6_readInto_14 (i := 0) rfl rfl ?_
  refine s_iconst C dX6_readInto_15 (-1) (by decide) (fun z1 hz1 => ?_)
  refine a_put C fp_RX6_18 (i := 1) kd_1 (hid 1 (by decide)) rfl rfl dX6_readInto_16 ?_
  refine a_aload_n C dX6_readInto_19 (i := 0) rfl rfl ?_
  refine s_iconst C dX6_readInto_20 (0) (by decide) (fun z3 hz3 => ?_)
  refine a_put C fp_RX6_37 (i := 1) kd_1 (hid 1 (by decide)) rfl rfl dX6_readInto_21 ?_
  refine a_aload_n C dX6_readInto_24 (i := 0) rfl rfl ?_
  refine s_iconst C dX6_readInto_25 (-1) (by decide) (fun z4 hz4 => ?_)
  refine a_put C fp_RX6_40 (i := 1) kd_1 (hid 1 (by decide)) rfl rfl dX6_readInto_26 ?_
  have hG2 := wF_1_4 (v := z4) (wF_1_3 (v := z3) (wF_1_1 (v := z1) (wF_1_2 (v := z2) (wF_1_9 (v := z9) hG1 (by omega) (by omega)))))
  have ho2 : ony [1, 2, 4, 5, 6, 7, 43, 44, 45, 46, 48, 49, 50, 51, 52, 53, 54, 55] σ (hI (hI (hI (hI (hI σ1 1 9 z9) 1 2 z2) 1 1 z1) 1 3 z3) 1 4 z4) := (((((ho1.mono (by decide)).I (by decide)).I (by decide)).I (by decide)).I (by decide)).I (by decide)
  refine a_aload_n C dX6_readInto_29 (i := 0) rfl rfl ?_
  refine a_get C fl_RX6_12 (i := 1) kd_1 (hid 1 (by decide)) (v := .ref (ad 2)) rfl dX6_readInto_30 ?_
  refine a_cVvS C E (As := []) (i := 2) kd_2 (hid 2 (by decide)) ⟨_, _, rfl⟩ (by decide) (S_X9_cut hid hG2) mi_X9_cut ml_RX6_43 rfl rfl (Nat.le_of_ble_eq_true rfl) (Nat.le_of_ble_eq_true rfl) (Nat.le_of_ble_eq_true rfl) dX6_readInto_33 (fun σ3 q => ?_)
  obtain ⟨hG3, ho3, _⟩ := q
  have ho4 : ony [1, 2, 4, 5, 6, 7, 43, 44, 45, 46, 48, 49, 50, 51, 52, 53, 54, 55] σ σ3 := ho2.tr (ho3.mono (by decide))
  refine a_aload_n C dX6_readInto_36 (i := 0) rfl rfl ?_
  refine s_iconst C dX6_readInto_37 0 (by decide) (fun z5 hz5 => ?_)
  refine a_put C fp_RX6_46 (i := 1) kd_1 (hid 1 (by decide)) rfl rfl dX6_readInto_38 ?_
  have hG5 := wF_1_5 (v := z5) hG3 (by omega) (by omega)
  refine a_aload_n C dX6_readInto_41 (i := 0) rfl rfl ?_
  refine a_aload_n C dX6_readInto_42 (i := 0) rfl rfl ?_
  refine a_get C fl_RX6_12 (i := 1) kd_1 (hid 1 (by decide)) (v := .ref (ad 2)) rfl dX6_readInto_43 ?_
  refine a_get C fl_RX6_49 (i := 2) kd_2 (hid 2 (by decide)) (v := .ref (ad 4)) rfl dX6_readInto_46 ?_
  refine s_iconst C dX6_readInto_49 0 (by decide) (fun z6 hz6 => ?_)
  refine s_iald C (i := 4) kd_4 (hid 4 (by decide)) al_4 (by omega) (by omega) dX6_readInto_50 (fun n hn => ?_)
  refine a_put C fp_RX6_53 (i := 1) kd_1 (hid 1 (by decide)) rfl rfl dX6_readInto_51 ?_
  have hG6 := wF_1_6 (v := (hI σ3 1 5 z5).1 4 n) hG5
  have hR6 : RK (hI (hI σ3 1 5 z5) 1 6 ((hI σ3 1 5 z5).1 4 n)) := by
    unfold RK
    rw [hI_s, hI_o (show (4 : Nat) ≠ 1 by decide), hI_n (show (5 : Nat) ≠ 6 by decide), hI_s]
    rw [show z5.toInt.toNat = n by omega, hI_o (show (4 : Nat) ≠ 1 by decide), hI_o (show (4 : Nat) ≠ 1 by decide)]
  refine s_iconst C dX6_readInto_54 1 (by decide) (fun g hg => ?_)
  refine a_istore_n C dX6_readInto_55 (i := 2) rfl (by decide) rfl (vs1 := [some (.ref (ad 1)), some (.ref (ad 43)), some (.int g), none]) rfl ?_
  refine s_iconst C dX6_readInto_56 0 (by decide) (fun t ht => ?_)
  refine a_istore_n C dX6_readInto_57 (i := 3) rfl (by decide) rfl (vs1 := [some (.ref (ad 1)), some (.ref (ad 43)), some (.int g), some (.int t)]) rfl ?_
  exact J 402 _ g t (by omega) (by omega) hG6 hR6 ((ho4.I (by decide)).I (by decide))
set_option maxRecDepth 10000 in
theorem S_X11_beginAnew_0_t30 {l : Launch} {D : va_G} {ids : List Nat} {ad : Nat → Nat} {ca : Nat → ClassId} {σ : HS} (hid : ∀ i, i < 277 → i ∈ ids) (hG : GIc σ) (htx0 : σ.2.2 0 = 30) (htx1 : σ.2.2 1 = 43) : Kv l D ids ad ca yX11_beginAnew cX11_beginAnew 3 2 82 [.ref (ad 0)] σ (fun σ1 => GIc σ1 ∧ keepM σ σ1 ∧ (σ1.2.2 0 = 43 ∧ σ1.2.2 1 = 30) ∧ σ1.1 2 = σ.1 2) := by
  refine Kv.of (by decide) (Nat.le_of_ble_eq_true rfl) 2 (fun Γ C Rt => ?_)
  show AW ids ad ca Γ 0 [some (.ref (ad 0)), none, none] [] σ
  have J : ∀ (d : Nat) (σq : HS) (i : Int32), 3 - i.toInt < d → 0 ≤ i.toInt ∧ i.toInt ≤ 3 → GIc σq → ony [12, 14, 26, 56, 57, 58, 59] (hR (hR σ 1 30) 0 43) σq → AW ids ad ca Γ 46 [some (.ref (ad 0)), some (.ref (ad 43)), some (.int i)] [] σq := by
    intro d
    induction d with
    | zero => intro σq i hd hi; exfalso; omega
    | succ d ih =>
      intro σq i hd hi hGq hoq
      refine a_iload_n C dX11_beginAnew_46 (i := 2) rfl rfl ?_
      refine s_iconst C dX11_beginAnew_47 3 (by decide) (fun z hz => ?_)
      refine s_ic_ge C dX11_beginAnew_48 (tgt := 64) rfl (fun _ => ?_) (fun c => ?_)
      · refine a_vret Rt dX11_beginAnew_64 ⟨hGq, fun k hk => ?_, ?_, ?_⟩
        · exact hoq.1 k (fun e => by simp only [List.mem_cons, List.not_mem_nil, or_false] at e; omega)
        · rw [hoq.2]
          exact ⟨rfl, rfl⟩
        · exact (hoq.1 2 (by decide)).1
      · refine a_aload_n C dX11_beginAnew_51 (i := 0) rfl rfl ?_
        refine a_get C fl_RX11_65 (i := 0) kd_0 (hid 0 (by decide)) (v := .ref (ad 26)) rfl dX11_beginAnew_52 ?_
        refine a_iload_n C dX11_beginAnew_55 (i := 2) rfl rfl ?_
        refine s_iconst C dX11_beginAnew_56 0 (by decide) (fun z1 hz1 => ?_)
        refine s_zast C (i := 26) (nar_v (by omega)) kd_26 (hid 26 (by decide)) al_26 (by omega) (by omega) dX11_beginAnew_57 (fun n hn => ?_)
        refine s_iinc C dX11_beginAnew_58 rfl 1 (by decide) (by omega) (by decide) rfl (fun i1 hi1 => ?_)
        show AW ids ad ca Γ 61 [some (.ref (ad 0)), some (.ref (ad 43)), some (.int i1)] _ _
        refine a_goto C dX11_beginAnew_61 (tgt := 46) rfl ?_
        exact ih _ i1 (by omega) (by omega) (wA_26 hGq) (hoq.I (by decide))
  refine a_aload_n C dX11_beginAnew_0 (i := 0) rfl rfl ?_
  refine a_get C fl_RX11_86 (i := 0) kd_0 (hid 0 (by decide)) (v := .ref (ad 43)) (congrArg (fun z => some (Value.ref (ad z))) htx1) dX11_beginAnew_1 ?_
  refine a_astore_n C dX11_beginAnew_4 (i := 1) rfl (by decide) rfl (vs1 := [some (.ref (ad 0)), some (.ref (ad 43)), none]) rfl ?_
  refine a_aload_n C dX11_beginAnew_5 (i := 0) rfl rfl ?_
  refine a_aload_n C dX11_beginAnew_6 (i := 0) rfl rfl ?_
  refine a_get C fl_RX11_82 (i := 0) kd_0 (hid 0 (by decide)) (v := .ref (ad 30)) (congrArg (fun z => some (Value.ref (ad z))) htx0) dX11_beginAnew_7 ?_
  refine a_putR C (hid 0 (by decide)) (v := 30) fpr_86 dX11_beginAnew_10 ?_
  refine a_aload_n C dX11_beginAnew_13 (i := 0) rfl rfl ?_
  refine a_aload_n C dX11_beginAnew_14 (i := 1) rfl rfl ?_
  refine a_putR C (hid 0 (by decide)) (v := 43) fpr_82 dX11_beginAnew_15 ?_
  have hG2 : GIc (hR (hR σ 1 30) 0 43) := hG
  refine a_aload_n C dX11_beginAnew_18 (i := 0) rfl rfl ?_
  refine a_get C fl_RX11_54 (i := 0) kd_0 (hid 0 (by decide)) (v := .ref (ad 56)) rfl dX11_beginAnew_19 ?_
  refine a_aload_n C dX11_beginAnew_22 (i := 0) rfl rfl ?_
  refine a_get C fl_RX11_82 (i := 0) kd_0 (hid 0 (by decide)) (v := .ref (ad 43)) rfl dX11_beginAnew_23 ?_
  refine a_callVv C (As := [.ref (ad 43)]) (i := 56) kd_56 (hid 56 (by decide)) ⟨_, _, rfl⟩ (by decide) (S_X0_begin_56_43 hid hG2) mi_X0_begin ml_RX11_110 rfl rfl (Nat.le_of_ble_eq_true rfl) (Nat.le_of_ble_eq_true rfl) (Nat.le_of_ble_eq_true rfl) dX11_beginAnew_26 (fun σ3 q => ?_)
  obtain ⟨hG3, ho3⟩ := q
  refine a_aload_n C dX11_beginAnew_29 (i := 0) rfl rfl ?_
  refine a_get C fl_RX11_26 (i := 0) kd_0 (hid 0 (by decide)) (v := .ref (ad 12)) rfl dX11_beginAnew_30 ?_
  refine a_callVv C (As := []) (i := 12) kd_12 (hid 12 (by decide)) ⟨_, _, rfl⟩ (by decide) (S_X5_clear_12 hid hG3) mi_X5_clear ml_RX11_114 rfl rfl (Nat.le_of_ble_eq_true rfl) (Nat.le_of_ble_eq_true rfl) (Nat.le_of_ble_eq_true rfl) dX11_beginAnew_33 (fun σ4 q => ?_)
  obtain ⟨hG4, ho4⟩ := q
  refine a_aload_n C dX11_beginAnew_36 (i := 0) rfl rfl ?_
  refine a_get C fl_RX11_33 (i := 0) kd_0 (hid 0 (by decide)) (v := .ref (ad 14)) rfl dX11_beginAnew_37 ?_
  refine s_iconst C dX11_beginAnew_40 0 (by decide) (fun z hz => ?_)
  refine a_put C fp_RX11_117 (i := 14) kd_14 (hid 14 (by decide)) rfl rfl dX11_beginAnew_41 ?_
  refine s_iconst C dX11_beginAnew_44 0 (by decide) (fun i hi => ?_)
  refine a_istore_n C dX11_beginAnew_45 (i := 2) rfl (by decide) rfl (vs1 := [some (.ref (ad 0)), some (.ref (ad 43)), some (.int i)]) rfl ?_
  exact J 4 _ i (by omega) (by omega) (wF_14_2 hG4 (by omega) (by omega)) (((ho3.mono (by decide)).tr (ho4.mono (by decide))).I (by decide))
set_option maxRecDepth 10000 in
theorem S_X11_beginAnew_0_t43 {l : Launch} {D : va_G} {ids : List Nat} {ad : Nat → Nat} {ca : Nat → ClassId} {σ : HS} (hid : ∀ i, i < 277 → i ∈ ids) (hG : GIc σ) (htx0 : σ.2.2 0 = 43) (htx1 : σ.2.2 1 = 30) : Kv l D ids ad ca yX11_beginAnew cX11_beginAnew 3 2 82 [.ref (ad 0)] σ (fun σ1 => GIc σ1 ∧ keepM σ σ1 ∧ (σ1.2.2 0 = 30 ∧ σ1.2.2 1 = 43) ∧ σ1.1 2 = σ.1 2) := by
  refine Kv.of (by decide) (Nat.le_of_ble_eq_true rfl) 2 (fun Γ C Rt => ?_)
  show AW ids ad ca Γ 0 [some (.ref (ad 0)), none, none] [] σ
  have J : ∀ (d : Nat) (σq : HS) (i : Int32), 3 - i.toInt < d → 0 ≤ i.toInt ∧ i.toInt ≤ 3 → GIc σq → ony [12, 14, 26, 56, 57, 58, 59] (hR (hR σ 1 43) 0 30) σq → AW ids ad ca Γ 46 [some (.ref (ad 0)), some (.ref (ad 30)), some (.int i)] [] σq := by
    intro d
    induction d with
    | zero => intro σq i hd hi; exfalso; omega
    | succ d ih =>
      intro σq i hd hi hGq hoq
      refine a_iload_n C dX11_beginAnew_46 (i := 2) rfl rfl ?_
      refine s_iconst C dX11_beginAnew_47 3 (by decide) (fun z hz => ?_)
      refine s_ic_ge C dX11_beginAnew_48 (tgt := 64) rfl (fun _ => ?_) (fun c => ?_)
      · refine a_vret Rt dX11_beginAnew_64 ⟨hGq, fun k hk => ?_, ?_, ?_⟩
        · exact hoq.1 k (fun e => by simp only [List.mem_cons, List.not_mem_nil, or_false] at e; omega)
        · rw [hoq.2]
          exact ⟨rfl, rfl⟩
        · exact (hoq.1 2 (by decide)).1
      · refine a_aload_n C dX11_beginAnew_51 (i := 0) rfl rfl ?_
        refine a_get C fl_RX11_65 (i := 0) kd_0 (hid 0 (by decide)) (v := .ref (ad 26)) rfl dX11_beginAnew_52 ?_
        refine a_iload_n C dX11_beginAnew_55 (i := 2) rfl rfl ?_
        refine s_iconst C dX11_beginAnew_56 0 (by decide) (fun z1 hz1 => ?_)
        refine s_zast C (i := 26) (nar_v (by omega)) kd_26 (hid 26 (by decide)) al_26 (by omega) (by omega) dX11_beginAnew_57 (fun n hn => ?_)
        refine s_iinc C dX11_beginAnew_58 rfl 1 (by decide) (by omega) (by decide) rfl (fun i1 hi1 => ?_)
        show AW ids ad ca Γ 61 [some (.ref (ad 0)), some (.ref (ad 30)), some (.int i1)] _ _
        refine a_goto C dX11_beginAnew_61 (tgt := 46) rfl ?_
        exact ih _ i1 (by omega) (by omega) (wA_26 hGq) (hoq.I (by decide))
  refine a_aload_n C dX11_beginAnew_0 (i := 0) rfl rfl ?_
  refine a_get C fl_RX11_86 (i := 0) kd_0 (hid 0 (by decide)) (v := .ref (ad 30)) (congrArg (fun z => some (Value.ref (ad z))) htx1) dX11_beginAnew_1 ?_
  refine a_astore_n C dX11_beginAnew_4 (i := 1) rfl (by decide) rfl (vs1 := [some (.ref (ad 0)), some (.ref (ad 30)), none]) rfl ?_
  refine a_aload_n C dX11_beginAnew_5 (i := 0) rfl rfl ?_
  refine a_aload_n C dX11_beginAnew_6 (i := 0) rfl rfl ?_
  refine a_get C fl_RX11_82 (i := 0) kd_0 (hid 0 (by decide)) (v := .ref (ad 43)) (congrArg (fun z => some (Value.ref (ad z))) htx0) dX11_beginAnew_7 ?_
  refine a_putR C (hid 0 (by decide)) (v := 43) fpr_86 dX11_beginAnew_10 ?_
  refine a_aload_n C dX11_beginAnew_13 (i := 0) rfl rfl ?_
  refine a_aload_n C dX11_beginAnew_14 (i := 1) rfl rfl ?_
  refine a_putR C (hid 0 (by decide)) (v := 30) fpr_82 dX11_beginAnew_15 ?_
  have hG2 : GIc (hR (hR σ 1 43) 0 30) := hG
  refine a_aload_n C dX11_beginAnew_18 (i := 0) rfl rfl ?_
  refine a_get C fl_RX11_54 (i := 0) kd_0 (hid 0 (by decide)) (v := .ref (ad 56)) rfl dX11_beginAnew_19 ?_
  refine a_aload_n C dX11_beginAnew_22 (i := 0) rfl rfl ?_
  refine a_get C fl_RX11_82 (i := 0) kd_0 (hid 0 (by decide)) (v := .ref (ad 30)) rfl dX11_beginAnew_23 ?_
  refine a_callVv C (As := [.ref (ad 30)]) (i := 56) kd_56 (hid 56 (by decide)) ⟨_, _, rfl⟩ (by decide) (S_X0_begin_56_30 hid hG2) mi_X0_begin ml_RX11_110 rfl rfl (Nat.le_of_ble_eq_true rfl) (Nat.le_of_ble_eq_true rfl) (Nat.le_of_ble_eq_true rfl) dX11_beginAnew_26 (fun σ3 q => ?_)
  obtain ⟨hG3, ho3⟩ := q
  refine a_aload_n C dX11_beginAnew_29 (i := 0) rfl rfl ?_
  refine a_get C fl_RX11_26 (i := 0) kd_0 (hid 0 (by decide)) (v := .ref (ad 12)) rfl dX11_beginAnew_30 ?_
  refine a_callVv C (As := []) (i := 12) kd_12 (hid 12 (by decide)) ⟨_, _, rfl⟩ (by decide) (S_X5_clear_12 hid hG3) mi_X5_clear ml_RX11_114 rfl rfl (Nat.le_of_ble_eq_true rfl) (Nat.le_of_ble_eq_true rfl) (Nat.le_of_ble_eq_true rfl) dX11_beginAnew_33 (fun σ4 q => ?_)
  obtain ⟨hG4, ho4⟩ := q
  refine a_aload_n C dX11_beginAnew_36 (i := 0) rfl rfl ?_
  refine a_get C fl_RX11_33 (i := 0) kd_0 (hid 0 (by decide)) (v := .ref (ad 14)) rfl dX11_beginAnew_37 ?_
  refine s_iconst C dX11_beginAnew_40 0 (by decide) (fun z hz => ?_)
  refine a_put C fp_RX11_117 (i := 14) kd_14 (hid 14 (by decide)) rfl rfl dX11_beginAnew_41 ?_
  refine s_iconst C dX11_beginAnew_44 0 (by decide) (fun i hi => ?_)
  refine a_istore_n C dX11_beginAnew_45 (i := 2) rfl (by decide) rfl (vs1 := [some (.ref (ad 0)), some (.ref (ad 30)), some (.int i)]) rfl ?_
  exact J 4 _ i (by omega) (by omega) (wF_14_2 hG4 (by omega) (by omega)) (((ho3.mono (by decide)).tr (ho4.mono (by decide))).I (by decide))
/-- which of the two Texts is text, which is spare -/
def TX (σ : HS) : Prop := (σ.2.2 0 = 30 ∧ σ.2.2 1 = 43) ∨ (σ.2.2 0 = 43 ∧ σ.2.2 1 = 30)
set_option maxRecDepth 10000 in
theorem S_X11_read_0_t30 {l : Launch} {D : va_G} {ids : List Nat} {ad : Nat → Nat} {ca : Nat → ClassId} {K : (Nat → Nat) × (Nat → Nat)} {σ : HS} (hid : ∀ i, i < 277 → i ∈ ids) (hG : GIc σ) (htx0 : σ.2.2 0 = 30) (htx1 : σ.2.2 1 = 43) : KiS l D ids ad ca K yX11_read cX11_read 2 .int 27 650 [.ref (ad 0)] σ (fun r σ1 => GIc σ1 ∧ keepM σ σ1 ∧ TX σ1 ∧ (σ1.1 2 1).toInt = 0) := by
  refine KiS.of (by decide) (Nat.le_of_ble_eq_true rfl) 1 (fun Γ C E Rt => ?_)
  show AW ids ad ca Γ 0 [some (.ref (ad 0)), none] [] σ
  refine a_aload_n C dX11_read_0 (i := 0) rfl rfl ?_
  refine a_get C fl_RX11_10 (i := 0) kd_0 (hid 0 (by decide)) (v := .ref (ad 1)) rfl dX11_read_1 ?_
  refine a_aload_n C dX11_read_4 (i := 0) rfl rfl ?_
  refine a_get C fl_RX11_86 (i := 0) kd_0 (hid 0 (by decide)) (v := .ref (ad 43)) (congrArg (fun z => some (Value.ref (ad z))) htx1) dX11_read_5 ?_
  refine a_cViS C E (As := [.ref (ad 43)]) (i := 1) kd_1 (hid 1 (by decide)) ⟨_, _, rfl⟩ (by decide) (S_X6_readInto_1_43 hid hG) mi_X6_readInto ml_RX11_103 rfl rfl (Nat.le_of_ble_eq_true rfl) (Nat.le_of_ble_eq_true rfl) (Nat.le_of_ble_eq_true rfl) dX11_read_8 (fun r σ1 q => ?_)
  obtain ⟨hG1, ho1⟩ := q
  refine a_istore_n C dX11_read_11 (i := 1) rfl (by decide) rfl (vs1 := [some (.ref (ad 0)), some (.int r)]) rfl ?_
  refine a_aload_n C dX11_read_12 (i := 0) rfl rfl ?_
  refine a_get C fl_RX11_10 (i := 0) kd_0 (hid 0 (by decide)) (v := .ref (ad 1)) rfl dX11_read_13 ?_
  refine a_get C fl_RX11_89 (i := 1) kd_1 (hid 1 (by decide)) (v := .ref (ad 2)) rfl dX11_read_16 ?_
  refine s_iconst C dX11_read_19 0 (by decide) (fun z hz => ?_)
  refine a_put C fp_RX11_93 (i := 2) kd_2 (hid 2 (by decide)) rfl rfl dX11_read_20 ?_
  have hG2 := wF_2_1 (v := z) hG1 (by omega) (by omega)
  have ho2 : ony [1, 2, 4, 5, 6, 7, 43, 44, 45, 46, 48, 49, 50, 51, 52, 53, 54, 55] σ (hI σ1 2 1 z) := ho1.I (by decide)
  have hk2 : keepM σ (hI σ1 2 1 z) := ho2.keepM (by decide)
  have e0 : (hI σ1 2 1 z).2.2 = σ.2.2 := ho2.2
  have t0 : (hI σ1 2 1 z).2.2 0 = 30 := by rw [e0]; exact htx0
  have t1 : (hI σ1 2 1 z).2.2 1 = 43 := by rw [e0]; exact htx1
  have ez : ((hI σ1 2 1 z).1 2 1).toInt = 0 := by rw [hI_s]; exact hz
  refine a_iload_n C dX11_read_23 (i := 1) rfl rfl ?_
  refine a_if_ne C dX11_read_24 (tgt := 31) rfl (fun _ => ?_) (fun _ => ?_)
  · refine a_iload_n C dX11_read_31 (i := 1) rfl rfl ?_
    exact a_iret Rt dX11_read_32 rfl ⟨hG2, hk2, Or.inl ⟨t0, t1⟩, ez⟩
  · refine a_aload_n C dX11_read_27 (i := 0) rfl rfl ?_
    refine a_callVv C (As := []) (i := 0) kd_0 (hid 0 (by decide)) ⟨_, _, rfl⟩ (by decide) (S_X11_beginAnew_0_t30 hid hG2 t0 t1) mi_X11_beginAnew ml_RX11_107 rfl rfl (Nat.le_of_ble_eq_true rfl) (Nat.le_of_ble_eq_true rfl) (Nat.le_of_ble_eq_true rfl) dX11_read_28 (fun σ4 q => ?_)
    obtain ⟨hG4, hk4, ht4, e4⟩ := q
    refine a_iload_n C dX11_read_31 (i := 1) rfl rfl ?_
    exact a_iret Rt dX11_read_32 rfl ⟨hG4, hk2.tr hk4, Or.inr ht4, by rw [e4]; exact ez⟩
set_option maxRecDepth 10000 in
theorem S_X11_read_0_t43 {l : Launch} {D : va_G} {ids : List Nat} {ad : Nat → Nat} {ca : Nat → ClassId} {K : (Nat → Nat) × (Nat → Nat)} {σ : HS} (hid : ∀ i, i < 277 → i ∈ ids) (hG : GIc σ) (htx0 : σ.2.2 0 = 43) (htx1 : σ.2.2 1 = 30) : KiS l D ids ad ca K yX11_read cX11_read 2 .int 27 650 [.ref (ad 0)] σ (fun r σ1 => GIc σ1 ∧ keepM σ σ1 ∧ TX σ1 ∧ (σ1.1 2 1).toInt = 0) := by
  refine KiS.of (by decide) (Nat.le_of_ble_eq_true rfl) 1 (fun Γ C E Rt => ?_)
  show AW ids ad ca Γ 0 [some (.ref (ad 0)), none] [] σ
  refine a_aload_n C dX11_read_0 (i := 0) rfl rfl ?_
  refine a_get C fl_RX11_10 (i := 0) kd_0 (hid 0 (by decide)) (v := .ref (ad 1)) rfl dX11_read_1 ?_
  refine a_aload_n C dX11_read_4 (i := 0) rfl rfl ?_
  refine a_get C fl_RX11_86 (i := 0) kd_0 (hid 0 (by decide)) (v := .ref (ad 30)) (congrArg (fun z => some (Value.ref (ad z))) htx1) dX11_read_5 ?_
  refine a_cViS C E (As := [.ref (ad 30)]) (i := 1) kd_1 (hid 1 (by decide)) ⟨_, _, rfl⟩ (by decide) (S_X6_readInto_1_30 hid hG) mi_X6_readInto ml_RX11_103 rfl rfl (Nat.le_of_ble_eq_true rfl) (Nat.le_of_ble_eq_true rfl) (Nat.le_of_ble_eq_true rfl) dX11_read_8 (fun r σ1 q => ?_)
  obtain ⟨hG1, ho1⟩ := q
  refine a_istore_n C dX11_read_11 (i := 1) rfl (by decide) rfl (vs1 := [some (.ref (ad 0)), some (.int r)]) rfl ?_
  refine a_aload_n C dX11_read_12 (i := 0) rfl rfl ?_
  refine a_get C fl_RX11_10 (i := 0) kd_0 (hid 0 (by decide)) (v := .ref (ad 1)) rfl dX11_read_13 ?_
  refine a_get C fl_RX11_89 (i := 1) kd_1 (hid 1 (by decide)) (v := .ref (ad 2)) rfl dX11_read_16 ?_
  refine s_iconst C dX11_read_19 0 (by decide) (fun z hz => ?_)
  refine a_put C fp_RX11_93 (i := 2) kd_2 (hid 2 (by decide)) rfl rfl dX11_read_20 ?_
  have hG2 := wF_2_1 (v := z) hG1 (by omega) (by omega)
  have ho2 : ony [1, 2, 4, 5, 6, 7, 30, 31, 32, 33, 35, 36, 37, 38, 39, 40, 41, 42] σ (hI σ1 2 1 z) := ho1.I (by decide)
  have hk2 : keepM σ (hI σ1 2 1 z) := ho2.keepM (by decide)
  have e0 : (hI σ1 2 1 z).2.2 = σ.2.2 := ho2.2
  have t0 : (hI σ1 2 1 z).2.2 0 = 43 := by rw [e0]; exact htx0
  have t1 : (hI σ1 2 1 z).2.2 1 = 30 := by rw [e0]; exact htx1
  have ez : ((hI σ1 2 1 z).1 2 1).toInt = 0 := by rw [hI_s]; exact hz
  refine a_iload_n C dX11_read_23 (i := 1) rfl rfl ?_
  refine a_if_ne C dX11_read_24 (tgt := 31) rfl (fun _ => ?_) (fun _ => ?_)
  · refine a_iload_n C dX11_read_31 (i := 1) rfl rfl ?_
    exact a_iret Rt dX11_read_32 rfl ⟨hG2, hk2, Or.inr ⟨t0, t1⟩, ez⟩
  · refine a_aload_n C dX11_read_27 (i := 0) rfl rfl ?_
    refine a_callVv C (As := []) (i := 0) kd_0 (hid 0 (by decide)) ⟨_, _, rfl⟩ (by decide) (S_X11_beginAnew_0_t43 hid hG2 t0 t1) mi_X11_beginAnew ml_RX11_107 rfl rfl (Nat.le_of_ble_eq_true rfl) (Nat.le_of_ble_eq_true rfl) (Nat.le_of_ble_eq_true rfl) dX11_read_28 (fun σ4 q => ?_)
    obtain ⟨hG4, hk4, ht4, e4⟩ := q
    refine a_iload_n C dX11_read_31 (i := 1) rfl rfl ?_
    exact a_iret Rt dX11_read_32 rfl ⟨hG4, hk2.tr hk4, Or.inl ht4, by rw [e4]; exact ez⟩

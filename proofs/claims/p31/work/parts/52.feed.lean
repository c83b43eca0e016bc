/-! feed and back, exactly -/
theorem dX12_feed_13 : decode cX12_feed 13 = .ok (.iconst (-1), 1) := by decide +kernel
theorem dX12_feed_14 : decode cX12_feed 14 = .ok (.ireturn, 1) := by decide +kernel
def FD (a b r : Int32) : Prop := (a.toInt + 20 ≤ 2000 → b.toInt = a.toInt + 20 ∧ r = b) ∧ (2000 < a.toInt + 20 → b = a ∧ r = -1)
def BD (n a b r : Int32) : Prop := (0 ≤ n.toInt ∧ n.toInt ≤ a.toInt → b.toInt = a.toInt - n.toInt ∧ r = b) ∧ (¬ (0 ≤ n.toInt ∧ n.toInt ≤ a.toInt) → b = a ∧ r = -1)
theorem FD.same {a b r b1 r1 : Int32} (h : FD a b r) (h1 : FD a b1 r1) : b = b1 ∧ r = r1 := by
  by_cases c : a.toInt + 20 ≤ 2000
  · obtain ⟨e1, e2⟩ := h.1 c
    obtain ⟨e3, e4⟩ := h1.1 c
    have e : b = b1 := Int32.toInt_inj.mp (by omega)
    exact ⟨e, by rw [e2, e4, e]⟩
  · obtain ⟨e1, e2⟩ := h.2 (by omega)
    obtain ⟨e3, e4⟩ := h1.2 (by omega)
    exact ⟨by rw [e1, e3], by rw [e2, e4]⟩
theorem BD.same {n a b r b1 r1 : Int32} (h : BD n a b r) (h1 : BD n a b1 r1) : b = b1 ∧ r = r1 := by
  by_cases c : 0 ≤ n.toInt ∧ n.toInt ≤ a.toInt
  · obtain ⟨e1, e2⟩ := h.1 c
    obtain ⟨e3, e4⟩ := h1.1 c
    have e : b = b1 := Int32.toInt_inj.mp (by omega)
    exact ⟨e, by rw [e2, e4, e]⟩
  · obtain ⟨e1, e2⟩ := h.2 c
    obtain ⟨e3, e4⟩ := h1.2 c
    exact ⟨by rw [e1, e3], by rw [e2, e4]⟩
/-- of the reference only the tape changes, and how much is on it -/
def MT (σ σ1 : HS) : Prop := ony [236, 237] σ σ1 ∧ ∀ k, k ≠ 2 → σ1.1 236 k = σ.1 236 k
theorem MT.rf {σ : HS} : MT σ σ := ⟨ony.rf, fun _ _ => rfl⟩
theorem MT.tr {σ σ1 σ2 : HS} (h : MT σ σ1) (h2 : MT σ1 σ2) : MT σ σ2 := ⟨h.1.tr h2.1, fun k hk => (h2.2 k hk).trans (h.2 k hk)⟩
theorem MT.n {σ σ1 : HS} {v : Int32} (h : MT σ σ1) : MT σ (hI σ1 236 2 v) := ⟨h.1.I (by decide), fun k hk => (hI_n hk).trans (h.2 k hk)⟩
theorem MT.b {σ σ1 : HS} {j : Nat} {v : Int32} (h : MT σ σ1) : MT σ (hI σ1 237 j v) := ⟨h.1.I (by decide), fun k hk => by rw [hI_o (show (236 : Nat) ≠ 237 by decide)]; exact h.2 k hk⟩
theorem nar_b8 {v : Int32} : vp_nar .byte v.toInt8.toInt32 = v.toInt8.toInt32 := by
  rw [vp_nar_byte]
  simp
theorem E_X12_put {l : Launch} {D : va_G} {ids : List Nat} {ad : Nat → Nat} {ca : Nat → ClassId} {σ : HS} {x1 : Int32} (hid : ∀ i, i < 277 → i ∈ ids) (h0 : 0 ≤ (σ.1 236 2).toInt) (h1 : (σ.1 236 2).toInt + 4 ≤ 2000) : Kv l D ids ad ca yX12_put cX12_put 3 0 0 [.ref (ad 236), .int x1] σ (fun σ1 => MT σ σ1 ∧ (σ1.1 236 2).toInt = (σ.1 236 2).toInt + 4) := by
  refine Kv.of (by decide) (Nat.le_of_ble_eq_true rfl) 1 (fun Γ C Rt => ?_)
  show AW ids ad ca Γ 0 [some (.ref (ad 236)), some (.int x1), none] [] σ
  have J : ∀ (d : Nat) (σq : HS) (k : Int32), k.toInt + 8 < 8 * (d : Int) → -8 ≤ k.toInt ∧ k.toInt ≤ 24 → MT σ σq → (σq.1 236 2).toInt * 8 + k.toInt = (σ.1 236 2).toInt * 8 + 24 → AW ids ad ca Γ 3 [some (.ref (ad 236)), some (.int x1), some (.int k)] [] σq := by
    intro d
    induction d with
    | zero => intro σq k hd hk; exfalso; omega
    | succ d ih =>
      intro σq k hd hk ht he
      refine a_iload_n C dX12_put_3 (i := 2) rfl rfl ?_
      refine s_if_lt C dX12_put_4 (tgt := 36) rfl (fun c => ?_) (fun c => ?_)
      · exact a_vret Rt dX12_put_36 ⟨ht, by omega⟩
      · refine a_aload_n C dX12_put_7 (i := 0) rfl rfl ?_
        refine a_get C fl_RX12_13 (i := 236) kd_236 (hid 236 (by decide)) (v := .ref (ad 237)) rfl dX12_put_8 ?_
        refine a_aload_n C dX12_put_11 (i := 0) rfl rfl ?_
        refine a_get C fl_RX12_154 (i := 236) kd_236 (hid 236 (by decide)) (v := .int (σq.1 236 2)) rfl dX12_put_12 ?_
        refine a_iload_n C dX12_put_15 (i := 1) rfl rfl ?_
        refine a_iload_n C dX12_put_16 (i := 2) rfl rfl ?_
        refine a_ishr C dX12_put_17 ?_
        refine a_i2b C dX12_put_18 ?_
        refine s_bast C (i := 237) nar_b8 kd_237 (hid 237 (by decide)) al_237 (by omega) (by omega) dX12_put_19 (fun n hn => ?_)
        refine a_aload_n C dX12_put_20 (i := 0) rfl rfl ?_
        refine a_dup C dX12_put_21 rfl ?_
        refine a_get C fl_RX12_154 (i := 236) kd_236 (hid 236 (by decide)) (v := .int (σq.1 236 2)) rfl dX12_put_22 ?_
        refine s_iconst C dX12_put_25 1 (by decide) (fun u hu => ?_)
        refine s_iadd C dX12_put_26 (by omega) (fun u1 hu1 => ?_)
        refine a_put C fp_RX12_154 (i := 236) kd_236 (hid 236 (by decide)) rfl rfl dX12_put_27 ?_
        refine s_iinc C dX12_put_30 rfl (-8) (by decide) (by omega) (by decide) rfl (fun k1 hk1 => ?_)
        show AW ids ad ca Γ 33 [some (.ref (ad 236)), some (.int x1), some (.int k1)] _ _
        refine a_goto C dX12_put_33 (tgt := 3) rfl ?_
        exact ih _ k1 (by omega) (by omega) ht.b.n (by rw [hI_s]; omega)
  refine s_bipush C dX12_put_0 24 (by decide) (fun k hk => ?_)
  refine a_istore_n C dX12_put_2 (i := 2) rfl (by decide) rfl (vs1 := [some (.ref (ad 236)), some (.int x1), some (.int k)]) rfl ?_
  exact J 5 σ k (by omega) (by omega) MT.rf (by omega)
set_option maxRecDepth 10000 in
theorem E_X12_feed {l : Launch} {D : va_G} {ids : List Nat} {ad : Nat → Nat} {ca : Nat → ClassId} {σ : HS} {x1 x2 x3 x4 x5 : Int32} (hid : ∀ i, i < 277 → i ∈ ids) (h0 : 0 ≤ (σ.1 236 2).toInt ∧ (σ.1 236 2).toInt ≤ 2000) : Ki l D ids ad ca yX12_feed cX12_feed 6 .int 1 30 [.ref (ad 236), .int x1, .int x2, .int x3, .int x4, .int x5] σ (fun r σ1 => MT σ σ1 ∧ FD (σ.1 236 2) (σ1.1 236 2) r) := by
  refine Ki.of (by decide) (Nat.le_of_ble_eq_true rfl) 0 (fun Γ C Rt => ?_)
  show AW ids ad ca Γ 0 [some (.ref (ad 236)), some (.int x1), some (.int x2), some (.int x3), some (.int x4), some (.int x5)] [] σ
  refine a_aload_n C dX12_feed_0 (i := 0) rfl rfl ?_
  refine a_get C fl_RX12_154 (i := 236) kd_236 (hid 236 (by decide)) (v := .int (σ.1 236 2)) rfl dX12_feed_1 ?_
  refine s_bipush C dX12_feed_4 20 (by decide) (fun z hz => ?_)
  refine s_iadd C dX12_feed_6 (by omega) (fun z1 hz1 => ?_)
  refine s_sipush C dX12_feed_7 2000 (by decide) (fun z2 hz2 => ?_)
  refine s_ic_le C dX12_feed_10 (tgt := 15) rfl (fun c => ?_) (fun c => ?_)
  rotate_left
  · refine a_iconst C dX12_feed_13 rfl ?_
    exact a_iret Rt dX12_feed_14 rfl ⟨MT.rf, fun h => absurd h (by omega), fun _ => ⟨rfl, rfl⟩⟩
  refine a_aload_n C dX12_feed_15 (i := 0) rfl rfl ?_
  refine a_iload_n C dX12_feed_16 (i := 1) rfl rfl ?_
  refine a_callVv C (As := [.int x1]) (i := 236) kd_236 (hid 236 (by decide)) ⟨_, _, rfl⟩ (by decide) (E_X12_put hid (by omega) (by omega)) mi_X12_put ml_RX12_157 rfl rfl (Nat.le_of_ble_eq_true rfl) (Nat.le_of_ble_eq_true rfl) (Nat.le_of_ble_eq_true rfl) dX12_feed_17 (fun σ1 q1 => ?_)
  obtain ⟨t1, e1⟩ := q1
  refine a_aload_n C dX12_feed_20 (i := 0) rfl rfl ?_
  refine a_iload_n C dX12_feed_21 (i := 2) rfl rfl ?_
  refine a_callVv C (As := [.int x2]) (i := 236) kd_236 (hid 236 (by decide)) ⟨_, _, rfl⟩ (by decide) (E_X12_put hid (by omega) (by omega)) mi_X12_put ml_RX12_157 rfl rfl (Nat.le_of_ble_eq_true rfl) (Nat.le_of_ble_eq_true rfl) (Nat.le_of_ble_eq_true rfl) dX12_feed_22 (fun σ2 q2 => ?_)
  obtain ⟨t2, e2⟩ := q2
  refine a_aload_n C dX12_feed_25 (i := 0) rfl rfl ?_
  refine a_iload_n C dX12_feed_26 (i := 3) rfl rfl ?_
  refine a_callVv C (As := [.int x3]) (i := 236) kd_236 (hid 236 (by decide)) ⟨_, _, rfl⟩ (by decide) (E_X12_put hid (by omega) (by omega)) mi_X12_put ml_RX12_157 rfl rfl (Nat.le_of_ble_eq_true rfl) (Nat.le_of_ble_eq_true rfl) (Nat.le_of_ble_eq_true rfl) dX12_feed_27 (fun σ3 q3 => ?_)
  obtain ⟨t3, e3⟩ := q3
  refine a_aload_n C dX12_feed_30 (i := 0) rfl rfl ?_
  refine a_iload C dX12_feed_31 rfl ?_
  refine a_callVv C (As := [.int x4]) (i := 236) kd_236 (hid 236 (by decide)) ⟨_, _, rfl⟩ (by decide) (E_X12_put hid (by omega) (by omega)) mi_X12_put ml_RX12_157 rfl rfl (Nat.le_of_ble_eq_true rfl) (Nat.le_of_ble_eq_true rfl) (Nat.le_of_ble_eq_true rfl) dX12_feed_33 (fun σ4 q4 => ?_)
  obtain ⟨t4, e4⟩ := q4
  refine a_aload_n C dX12_feed_36 (i := 0) rfl rfl ?_
  refine a_iload C dX12_feed_37 rfl ?_
  refine a_callVv C (As := [.int x5]) (i := 236) kd_236 (hid 236 (by decide)) ⟨_, _, rfl⟩ (by decide) (E_X12_put hid (by omega) (by omega)) mi_X12_put ml_RX12_157 rfl rfl (Nat.le_of_ble_eq_true rfl) (Nat.le_of_ble_eq_true rfl) (Nat.le_of_ble_eq_true rfl) dX12_feed_39 (fun σ5 q5 => ?_)
  obtain ⟨t5, e5⟩ := q5
  refine a_aload_n C dX12_feed_42 (i := 0) rfl rfl ?_
  refine a_get C fl_RX12_154 (i := 236) kd_236 (hid 236 (by decide)) (v := .int (σ5.1 236 2)) rfl dX12_feed_43 ?_
  exact a_iret Rt dX12_feed_46 rfl ⟨(((t1.tr t2).tr t3).tr t4).tr t5, fun _ => ⟨by omega, rfl⟩, fun h => absurd h (by omega)⟩
theorem E_X12_back {l : Launch} {D : va_G} {ids : List Nat} {ad : Nat → Nat} {ca : Nat → ClassId} {σ : HS} {x1 : Int32} (hid : ∀ i, i < 277 → i ∈ ids) (h0 : 0 ≤ (σ.1 236 2).toInt ∧ (σ.1 236 2).toInt ≤ 2000) : Ki l D ids ad ca yX12_back cX12_back 2 .int 0 0 [.ref (ad 236), .int x1] σ (fun r σ1 => MT σ σ1 ∧ BD x1 (σ.1 236 2) (σ1.1 236 2) r) := by
  refine Ki.of (by decide) (Nat.le_of_ble_eq_true rfl) 0 (fun Γ C Rt => ?_)
  show AW ids ad ca Γ 0 [some (.ref (ad 236)), some (.int x1)] [] σ
  have j12 : ¬ (0 ≤ x1.toInt ∧ x1.toInt ≤ (σ.1 236 2).toInt) → AW ids ad ca Γ 12 [some (.ref (ad 236)), some (.int x1)] [] σ := fun h => a_iconst C dX12_back_12 rfl (a_iret Rt dX12_back_13 rfl ⟨MT.rf, fun h1 => absurd h1 h, fun _ => ⟨rfl, rfl⟩⟩)
  refine a_iload_n C dX12_back_0 (i := 1) rfl rfl ?_
  refine s_if_lt C dX12_back_1 (tgt := 12) rfl (fun c => j12 (by omega)) (fun c => ?_)
  refine a_iload_n C dX12_back_4 (i := 1) rfl rfl ?_
  refine a_aload_n C dX12_back_5 (i := 0) rfl rfl ?_
  refine a_get C fl_RX12_154 (i := 236) kd_236 (hid 236 (by decide)) (v := .int (σ.1 236 2)) rfl dX12_back_6 ?_
  refine s_ic_le C dX12_back_9 (tgt := 14) rfl (fun c1 => ?_) (fun c1 => j12 (by omega))
  refine a_aload_n C dX12_back_14 (i := 0) rfl rfl ?_
  refine a_dup C dX12_back_15 rfl ?_
  refine a_get C fl_RX12_154 (i := 236) kd_236 (hid 236 (by decide)) (v := .int (σ.1 236 2)) rfl dX12_back_16 ?_
  refine a_iload_n C dX12_back_19 (i := 1) rfl rfl ?_
  refine s_isub C dX12_back_20 (by omega) (fun z hz => ?_)
  refine a_put C fp_RX12_154 (i := 236) kd_236 (hid 236 (by decide)) rfl rfl dX12_back_21 ?_
  refine a_aload_n C dX12_back_24 (i := 0) rfl rfl ?_
  refine a_get C fl_RX12_154 (i := 236) kd_236 (hid 236 (by decide)) (v := .int ((hI σ 236 2 z).1 236 2)) rfl dX12_back_25 ?_
  exact a_iret Rt dX12_back_28 rfl ⟨MT.rf.n, fun _ => ⟨by rw [hI_s]; exact hz, rfl⟩, fun h => absurd ⟨c, c1⟩ h⟩
theorem E_X9_append {l : Launch} {D : va_G} {ids : List Nat} {ad : Nat → Nat} {ca : Nat → ClassId} {σ : HS} {x1 : Int32} (hid : ∀ i, i < 277 → i ∈ ids) (hG : GIc σ) (h1 : (σ.1 2 1).toInt + 4 ≤ 2000) : Kv l D ids ad ca yX9_append cX9_append 3 0 0 [.ref (ad 2), .int x1] σ (fun σ1 => GIc σ1 ∧ ony [2, 3] σ σ1 ∧ (σ1.1 2 1).toInt = (σ.1 2 1).toInt + 4) := by
  refine Kv.of (by decide) (Nat.le_of_ble_eq_true rfl) 1 (fun Γ C Rt => ?_)
  show AW ids ad ca Γ 0 [some (.ref (ad 2)), some (.int x1), none] [] σ
  have J : ∀ (d : Nat) (σq : HS) (k : Int32), k.toInt + 8 < 8 * (d : Int) → -8 ≤ k.toInt ∧ k.toInt ≤ 24 → GIc σq → ony [2, 3] σ σq → (σq.1 2 1).toInt * 8 + k.toInt = (σ.1 2 1).toInt * 8 + 24 → AW ids ad ca Γ 3 [some (.ref (ad 2)), some (.int x1), some (.int k)] [] σq := by
    intro d
    induction d with
    | zero => intro σq k hd hk; exfalso; omega
    | succ d ih =>
      intro σq k hd hk hGq ho he
      have b0 := bF_2_1 hGq
      refine a_iload_n C dX9_append_3 (i := 2) rfl rfl ?_
      refine s_if_lt C dX9_append_4 (tgt := 49) rfl (fun c => ?_) (fun c => ?_)
      · exact a_vret Rt dX9_append_49 ⟨hGq, ho, by omega⟩
      · refine a_aload_n C dX9_append_7 (i := 0) rfl rfl ?_
        refine a_get C fl_RX9_25 (i := 2) kd_2 (hid 2 (by decide)) (v := .int (σq.1 2 1)) rfl dX9_append_8 ?_
        refine s_sipush C dX9_append_11 2000 (by decide) (fun z hz => ?_)
        refine s_ic_ge C dX9_append_14 (tgt := 43) rfl (fun c1 => absurd c1 (by omega)) (fun c1 => ?_)
        refine a_aload_n C dX9_append_17 (i := 0) rfl rfl ?_
        refine a_get C fl_RX9_9 (i := 2) kd_2 (hid 2 (by decide)) (v := .ref (ad 3)) rfl dX9_append_18 ?_
        refine a_aload_n C dX9_append_21 (i := 0) rfl rfl ?_
        refine a_get C fl_RX9_25 (i := 2) kd_2 (hid 2 (by decide)) (v := .int (σq.1 2 1)) rfl dX9_append_22 ?_
        refine a_iload_n C dX9_append_25 (i := 1) rfl rfl ?_
        refine a_iload_n C dX9_append_26 (i := 2) rfl rfl ?_
        refine s_iushrU C dX9_append_27 (fun z9 => ?_)
        refine s_sipush C dX9_append_28 255 (by decide) (fun z11 h12 => ?_)
        refine s_iand C dX9_append_31 (by omega) (fun z13 h14 => ?_)
        refine s_iast C (i := 3) kd_3 (hid 3 (by decide)) al_3 (by omega) (by omega) dX9_append_32 (fun n hn => ?_)
        have hG1 := wA_3 (v := z13) (j := n) hGq
        refine a_aload_n C dX9_append_33 (i := 0) rfl rfl ?_
        refine a_dup C dX9_append_34 rfl ?_
        refine a_get C fl_RX9_25 (i := 2) kd_2 (hid 2 (by decide)) (v := .int (σq.1 2 1)) rfl dX9_append_35 ?_
        refine s_iconst C dX9_append_38 1 (by decide) (fun u hu => ?_)
        refine s_iadd C dX9_append_39 (by omega) (fun u1 hu1 => ?_)
        refine a_put C fp_RX9_25 (i := 2) kd_2 (hid 2 (by decide)) rfl rfl dX9_append_40 ?_
        have hG2 := wF_2_1 (v := u1) hG1 (by omega) (by omega)
        refine s_iinc C dX9_append_43 rfl (-8) (by decide) (by omega) (by decide) rfl (fun k1 hk1 => ?_)
        show AW ids ad ca Γ 46 [some (.ref (ad 2)), some (.int x1), some (.int k1)] _ _
        refine a_goto C dX9_append_46 (tgt := 3) rfl ?_
        exact ih _ k1 (by omega) (by omega) hG2 ((ho.I (by decide)).I (by decide)) (by rw [hI_s]; omega)
  refine s_bipush C dX9_append_0 24 (by decide) (fun k hk => ?_)
  refine a_istore_n C dX9_append_2 (i := 2) rfl (by decide) rfl (vs1 := [some (.ref (ad 2)), some (.int x1), some (.int k)]) rfl ?_
  exact J 5 σ k (by omega) (by omega) hG ony.rf (by omega)
set_option maxRecDepth 10000 in
theorem E_X11_feed {l : Launch} {D : va_G} {ids : List Nat} {ad : Nat → Nat} {ca : Nat → ClassId} {σ : HS} {x1 x2 x3 x4 x5 : Int32} (hid : ∀ i, i < 277 → i ∈ ids) (hG : GIc σ) : Ki l D ids ad ca yX11_feed cX11_feed 6 .int 1 30 [.ref (ad 0), .int x1, .int x2, .int x3, .int x4, .int x5] σ (fun r σ1 => GIc σ1 ∧ ony [2, 3] σ σ1 ∧ FD (σ.1 2 1) (σ1.1 2 1) r) := by
  refine Ki.of (by decide) (Nat.le_of_ble_eq_true rfl) 0 (fun Γ C Rt => ?_)
  show AW ids ad ca Γ 0 [some (.ref (ad 0)), some (.int x1), some (.int x2), some (.int x3), some (.int x4), some (.int x5)] [] σ
  have b0 := bF_2_1 hG
  refine a_aload_n C dX11_feed_0 (i := 0) rfl rfl ?_
  refine a_get C fl_RX11_10 (i := 0) kd_0 (hid 0 (by decide)) (v := .ref (ad 1)) rfl dX11_feed_1 ?_
  refine a_get C fl_RX11_89 (i := 1) kd_1 (hid 1 (by decide)) (v := .ref (ad 2)) rfl dX11_feed_4 ?_
  refine a_get C fl_RX11_93 (i := 2) kd_2 (hid 2 (by decide)) (v := .int (σ.1 2 1)) rfl dX11_feed_7 ?_
  refine s_bipush C dX11_feed_10 20 (by decide) (fun z hz => ?_)
  refine s_iadd C dX11_feed_12 (by omega) (fun z1 hz1 => ?_)
  refine s_sipush C dX11_feed_13 2000 (by decide) (fun z2 hz2 => ?_)
  refine s_ic_le C dX11_feed_16 (tgt := 21) rfl (fun c => ?_) (fun c => ?_)
  rotate_left
  · refine a_iconst C dX11_feed_19 rfl ?_
    exact a_iret Rt dX11_feed_20 rfl ⟨hG, ony.rf, fun h => absurd h (by omega), fun _ => ⟨rfl, rfl⟩⟩
  refine a_aload_n C dX11_feed_21 (i := 0) rfl rfl ?_
  refine a_get C fl_RX11_10 (i := 0) kd_0 (hid 0 (by decide)) (v := .ref (ad 1)) rfl dX11_feed_22 ?_
  refine a_get C fl_RX11_89 (i := 1) kd_1 (hid 1 (by decide)) (v := .ref (ad 2)) rfl dX11_feed_25 ?_
  refine a_iload_n C dX11_feed_28 (i := 1) rfl rfl ?_
  refine a_callVv C (As := [.int x1]) (i := 2) kd_2 (hid 2 (by decide)) ⟨_, _, rfl⟩ (by decide) (E_X9_append hid hG (by omega)) mi_X9_append ml_RX11_99 rfl rfl (Nat.le_of_ble_eq_true rfl) (Nat.le_of_ble_eq_true rfl) (Nat.le_of_ble_eq_true rfl) dX11_feed_29 (fun σ1 q1 => ?_)
  obtain ⟨g1, t1, e1⟩ := q1
  refine a_aload_n C dX11_feed_32 (i := 0) rfl rfl ?_
  refine a_get C fl_RX11_10 (i := 0) kd_0 (hid 0 (by decide)) (v := .ref (ad 1)) rfl dX11_feed_33 ?_
  refine a_get C fl_RX11_89 (i := 1) kd_1 (hid 1 (by decide)) (v := .ref (ad 2)) rfl dX11_feed_36 ?_
  refine a_iload_n C dX11_feed_39 (i := 2) rfl rfl ?_
  refine a_callVv C (As := [.int x2]) (i := 2) kd_2 (hid 2 (by decide)) ⟨_, _, rfl⟩ (by decide) (E_X9_append hid g1 (by omega)) mi_X9_append ml_RX11_99 rfl rfl (Nat.le_of_ble_eq_true rfl) (Nat.le_of_ble_eq_true rfl) (Nat.le_of_ble_eq_true rfl) dX11_feed_40 (fun σ2 q2 => ?_)
  obtain ⟨g2, t2, e2⟩ := q2
  refine a_aload_n C dX11_feed_43 (i := 0) rfl rfl ?_
  refine a_get C fl_RX11_10 (i := 0) kd_0 (hid 0 (by decide)) (v := .ref (ad 1)) rfl dX11_feed_44 ?_
  refine a_get C fl_RX11_89 (i := 1) kd_1 (hid 1 (by decide)) (v := .ref (ad 2)) rfl dX11_feed_47 ?_
  refine a_iload_n C dX11_feed_50 (i := 3) rfl rfl ?_
  refine a_callVv C (As := [.int x3]) (i := 2) kd_2 (hid 2 (by decide)) ⟨_, _, rfl⟩ (by decide) (E_X9_append hid g2 (by omega)) mi_X9_append ml_RX11_99 rfl rfl (Nat.le_of_ble_eq_true rfl) (Nat.le_of_ble_eq_true rfl) (Nat.le_of_ble_eq_true rfl) dX11_feed_51 (fun σ3 q3 => ?_)
  obtain ⟨g3, t3, e3⟩ := q3
  refine a_aload_n C dX11_feed_54 (i := 0) rfl rfl ?_
  refine a_get C fl_RX11_10 (i := 0) kd_0 (hid 0 (by decide)) (v := .ref (ad 1)) rfl dX11_feed_55 ?_
  refine a_get C fl_RX11_89 (i := 1) kd_1 (hid 1 (by decide)) (v := .ref (ad 2)) rfl dX11_feed_58 ?_
  refine a_iload C dX11_feed_61 rfl ?_
  refine a_callVv C (As := [.int x4]) (i := 2) kd_2 (hid 2 (by decide)) ⟨_, _, rfl⟩ (by decide) (E_X9_append hid g3 (by omega)) mi_X9_append ml_RX11_99 rfl rfl (Nat.le_of_ble_eq_true rfl) (Nat.le_of_ble_eq_true rfl) (Nat.le_of_ble_eq_true rfl) dX11_feed_63 (fun σ4 q4 => ?_)
  obtain ⟨g4, t4, e4⟩ := q4
  refine a_aload_n C dX11_feed_66 (i := 0) rfl rfl ?_
  refine a_get C fl_RX11_10 (i := 0) kd_0 (hid 0 (by decide)) (v := .ref (ad 1)) rfl dX11_feed_67 ?_
  refine a_get C fl_RX11_89 (i := 1) kd_1 (hid 1 (by decide)) (v := .ref (ad 2)) rfl dX11_feed_70 ?_
  refine a_iload C dX11_feed_73 rfl ?_
  refine a_callVv C (As := [.int x5]) (i := 2) kd_2 (hid 2 (by decide)) ⟨_, _, rfl⟩ (by decide) (E_X9_append hid g4 (by omega)) mi_X9_append ml_RX11_99 rfl rfl (Nat.le_of_ble_eq_true rfl) (Nat.le_of_ble_eq_true rfl) (Nat.le_of_ble_eq_true rfl) dX11_feed_75 (fun σ5 q5 => ?_)
  obtain ⟨g5, t5, e5⟩ := q5
  refine a_aload_n C dX11_feed_78 (i := 0) rfl rfl ?_
  refine a_get C fl_RX11_10 (i := 0) kd_0 (hid 0 (by decide)) (v := .ref (ad 1)) rfl dX11_feed_79 ?_
  refine a_get C fl_RX11_89 (i := 1) kd_1 (hid 1 (by decide)) (v := .ref (ad 2)) rfl dX11_feed_82 ?_
  refine a_get C fl_RX11_93 (i := 2) kd_2 (hid 2 (by decide)) (v := .int (σ5.1 2 1)) rfl dX11_feed_85 ?_
  exact a_iret Rt dX11_feed_88 rfl ⟨g5, (((t1.tr t2).tr t3).tr t4).tr t5, fun _ => ⟨by omega, rfl⟩, fun h => absurd h (by omega)⟩
theorem E_X11_back {l : Launch} {D : va_G} {ids : List Nat} {ad : Nat → Nat} {ca : Nat → ClassId} {σ : HS} {x1 : Int32} (hid : ∀ i, i < 277 → i ∈ ids) (hG : GIc σ) : Ki l D ids ad ca yX11_back cX11_back 2 .int 0 0 [.ref (ad 0), .int x1] σ (fun r σ1 => GIc σ1 ∧ ony [2, 3] σ σ1 ∧ BD x1 (σ.1 2 1) (σ1.1 2 1) r) := by
  refine Ki.of (by decide) (Nat.le_of_ble_eq_true rfl) 0 (fun Γ C Rt => ?_)
  show AW ids ad ca Γ 0 [some (.ref (ad 0)), some (.int x1)] [] σ
  have b0 := bF_2_1 hG
  have j18 : ¬ (0 ≤ x1.toInt ∧ x1.toInt ≤ (σ.1 2 1).toInt) → AW ids ad ca Γ 18 [some (.ref (ad 0)), some (.int x1)] [] σ := fun h => a_iconst C dX11_back_18 rfl (a_iret Rt dX11_back_19 rfl ⟨hG, ony.rf, fun h1 => absurd h1 h, fun _ => ⟨rfl, rfl⟩⟩)
  refine a_iload_n C dX11_back_0 (i := 1) rfl rfl ?_
  refine s_if_lt C dX11_back_1 (tgt := 18) rfl (fun c => j18 (by omega)) (fun c => ?_)
  refine a_iload_n C dX11_back_4 (i := 1) rfl rfl ?_
  refine a_aload_n C dX11_back_5 (i := 0) rfl rfl ?_
  refine a_get C fl_RX11_10 (i := 0) kd_0 (hid 0 (by decide)) (v := .ref (ad 1)) rfl dX11_back_6 ?_
  refine a_get C fl_RX11_89 (i := 1) kd_1 (hid 1 (by decide)) (v := .ref (ad 2)) rfl dX11_back_9 ?_
  refine a_get C fl_RX11_93 (i := 2) kd_2 (hid 2 (by decide)) (v := .int (σ.1 2 1)) rfl dX11_back_12 ?_
  refine s_ic_le C dX11_back_15 (tgt := 20) rfl (fun c1 => ?_) (fun c1 => j18 (by omega))
  refine a_aload_n C dX11_back_20 (i := 0) rfl rfl ?_
  refine a_get C fl_RX11_10 (i := 0) kd_0 (hid 0 (by decide)) (v := .ref (ad 1)) rfl dX11_back_21 ?_
  refine a_get C fl_RX11_89 (i := 1) kd_1 (hid 1 (by decide)) (v := .ref (ad 2)) rfl dX11_back_24 ?_
  refine a_dup C dX11_back_27 rfl ?_
  refine a_get C fl_RX11_93 (i := 2) kd_2 (hid 2 (by decide)) (v := .int (σ.1 2 1)) rfl dX11_back_28 ?_
  refine a_iload_n C dX11_back_31 (i := 1) rfl rfl ?_
  refine s_isub C dX11_back_32 (by omega) (fun z hz => ?_)
  refine a_put C fp_RX11_93 (i := 2) kd_2 (hid 2 (by decide)) rfl rfl dX11_back_33 ?_
  refine a_aload_n C dX11_back_36 (i := 0) rfl rfl ?_
  refine a_get C fl_RX11_10 (i := 0) kd_0 (hid 0 (by decide)) (v := .ref (ad 1)) rfl dX11_back_37 ?_
  refine a_get C fl_RX11_89 (i := 1) kd_1 (hid 1 (by decide)) (v := .ref (ad 2)) rfl dX11_back_40 ?_
  refine a_get C fl_RX11_93 (i := 2) kd_2 (hid 2 (by decide)) (v := .int ((hI σ 2 1 z).1 2 1)) rfl dX11_back_43 ?_
  exact a_iret Rt dX11_back_46 rfl ⟨wF_2_1 hG (by omega) (by omega), ony.rf.I (by decide), fun _ => ⟨by rw [hI_s]; exact hz, rfl⟩, fun h => absurd ⟨c, c1⟩ h⟩

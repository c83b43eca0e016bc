/-! ways: the class's Rows -/
theorem bt_and : ∀ t, t < 32 → ∀ s, s < 5 → (nI t >>> (nI s &&& 31)) &&& 1 = nI (t / 2 ^ s % 2) := by decide +kernel
theorem bt_or : ∀ t, t < 32 → ∀ s, s < 5 → nI t ||| ((1 : Int32) <<< (nI s &&& 31)) = nI (t ||| 2 ^ s) ∧ t ||| 2 ^ s < 32 := by decide +kernel
theorem bt_fr : ∀ t, t < 32 → ∀ s, s < 5 → (nI t &&& ((1 : Int32) <<< (nI s &&& 31)) = 0 ↔ ffree t s = true) := by decide +kernel
section TOP
variable {ids : List Nat} {ad : Nat → Nat} {ca : Nat → ClassId} {Γ : GT} {pc : Nat} {vs : List (Option Value)} {st : List Value} {σ : HS}
theorem a_topi {x y : Int32} (h : x = y) (k : AW ids ad ca Γ pc vs (.int y :: st) σ) : AW ids ad ca Γ pc vs (.int x :: st) σ := by rw [h]; exact k
end TOP
theorem hA_s {σ : HS} {i : Nat} {f : Nat → Int32} : (hA σ i f).1 i = f := va_up_self σ.1 i f
theorem hA_o {σ : HS} {i j : Nat} {f : Nat → Int32} (h : j ≠ i) : (hA σ i f).1 j = σ.1 j := va_up_ne σ.1 f h
def RS (p : Nat) (σ : HS) (G : List (List Nat)) : Prop := σ.1 22 2 = nI G.length ∧ ∀ r, G.head? = some r → ∀ j, j < p → σ.1 24 j = nI (r.getD j 0)
def RP (σ : HS) (pre : List Nat) : Prop := ∀ j, j < pre.length → σ.1 23 j = nI (pre.getD j 0)
def RQ (p m : Nat) (σ : HS) : Prop := σ.1 22 3 = nI p ∧ σ.1 22 4 = nI m
theorem lp_nil {g : Nat → List (List Nat)} : ∀ h e, (∀ j, h ≤ j → g j = []) → lp g h e = []
  | _, 0, _ => rfl
  | h, e + 1, hg => by
    show g h ++ lp g (h + 1) e = []
    rw [hg h (Nat.le_refl _), lp_nil (h + 1) e (fun j hj => hg j (by omega))]
    rfl
theorem map_pre (pre : List Nat) (h : Nat) (R : List (List Nat)) : (R.map (h :: ·)).map (pre ++ ·) = R.map ((pre ++ [h]) ++ ·) := by
  rw [List.map_map]
  apply List.map_congr_left
  intro r _
  show pre ++ h :: r = (pre ++ [h]) ++ r
  rw [List.append_assoc]
  rfl
theorem RP.snoc {σ : HS} {pre : List Nat} {i h : Nat} (hr : RP σ pre) (hl : pre.length = i) : RP (hI σ 23 i (nI h)) (pre ++ [h]) := by
  intro j hj
  rw [List.length_append] at hj
  have hj : j < i + 1 := by simpa [hl] using hj
  by_cases e : j = i
  · subst e
    rw [hI_s, ← hl]
    simp [List.getD]
  · rw [hI_n e, hr j (by omega)]
    simp [List.getD, List.getElem?_append_left (show j < pre.length by omega)]
theorem dX8_fill_0 : decode cX8_fill 0 = .ok (.iload_n 1, 1) := by decide +kernel
theorem dX8_fill_1 : decode cX8_fill 1 = .ok (.aload_n 0, 1) := by decide +kernel
theorem dX8_fill_2 : decode cX8_fill 2 = .ok (.getfield 25, 3) := by decide +kernel
theorem dX8_fill_5 : decode cX8_fill 5 = .ok (.if_icmp .lt 12, 3) := by decide +kernel
theorem dX8_fill_8 : decode cX8_fill 8 = .ok (.iload_n 3, 1) := by decide +kernel
theorem dX8_fill_9 : decode cX8_fill 9 = .ok (.ifCond .ne 7, 3) := by decide +kernel
theorem dX8_fill_12 : decode cX8_fill 12 = .ok (.aload_n 0, 1) := by decide +kernel
theorem dX8_fill_13 : decode cX8_fill 13 = .ok (.invokevirtual 39, 3) := by decide +kernel
theorem dX8_fill_16 : decode cX8_fill 16 = .ok (.return_, 1) := by decide +kernel
theorem dX8_fill_17 : decode cX8_fill 17 = .ok (.iconst 0, 1) := by decide +kernel
theorem dX8_fill_18 : decode cX8_fill 18 = .ok (.istore 4, 2) := by decide +kernel
theorem dX8_fill_20 : decode cX8_fill 20 = .ok (.iload 4, 2) := by decide +kernel
theorem dX8_fill_22 : decode cX8_fill 22 = .ok (.aload_n 0, 1) := by decide +kernel
theorem dX8_fill_23 : decode cX8_fill 23 = .ok (.getfield 29, 3) := by decide +kernel
theorem dX8_fill_26 : decode cX8_fill 26 = .ok (.if_icmp .gt 58, 3) := by decide +kernel
theorem dX8_fill_29 : decode cX8_fill 29 = .ok (.iload 4, 2) := by decide +kernel
theorem dX8_fill_31 : decode cX8_fill 31 = .ok (.iload_n 3, 1) := by decide +kernel
theorem dX8_fill_32 : decode cX8_fill 32 = .ok (.if_icmp .gt 52, 3) := by decide +kernel
theorem dX8_fill_35 : decode cX8_fill 35 = .ok (.iconst 1, 1) := by decide +kernel
theorem dX8_fill_36 : decode cX8_fill 36 = .ok (.iload_n 1, 1) := by decide +kernel
theorem dX8_fill_37 : decode cX8_fill 37 = .ok (.iload 4, 2) := by decide +kernel
theorem dX8_fill_39 : decode cX8_fill 39 = .ok (.iadd, 1) := by decide +kernel
theorem dX8_fill_40 : decode cX8_fill 40 = .ok (.aload_n 0, 1) := by decide +kernel
theorem dX8_fill_41 : decode cX8_fill 41 = .ok (.getfield 25, 3) := by decide +kernel
theorem dX8_fill_44 : decode cX8_fill 44 = .ok (.irem, 1) := by decide +kernel
theorem dX8_fill_45 : decode cX8_fill 45 = .ok (.ishl, 1) := by decide +kernel
theorem dX8_fill_46 : decode cX8_fill 46 = .ok (.istore 5, 2) := by decide +kernel
theorem dX8_fill_48 : decode cX8_fill 48 = .ok (.iload_n 2, 1) := by decide +kernel
theorem dX8_fill_49 : decode cX8_fill 49 = .ok (.iload 5, 2) := by decide +kernel
theorem dX8_fill_51 : decode cX8_fill 51 = .ok (.iand, 1) := by decide +kernel
theorem dX8_fill_52 : decode cX8_fill 52 = .ok (.ifCond .ne 26, 3) := by decide +kernel
theorem dX8_fill_55 : decode cX8_fill 55 = .ok (.aload_n 0, 1) := by decide +kernel
theorem dX8_fill_56 : decode cX8_fill 56 = .ok (.getfield 9, 3) := by decide +kernel
theorem dX8_fill_59 : decode cX8_fill 59 = .ok (.iload_n 1, 1) := by decide +kernel
theorem dX8_fill_60 : decode cX8_fill 60 = .ok (.iload 4, 2) := by decide +kernel
theorem dX8_fill_62 : decode cX8_fill 62 = .ok (.iastore, 1) := by decide +kernel
theorem dX8_fill_63 : decode cX8_fill 63 = .ok (.aload_n 0, 1) := by decide +kernel
theorem dX8_fill_64 : decode cX8_fill 64 = .ok (.iload_n 1, 1) := by decide +kernel
theorem dX8_fill_65 : decode cX8_fill 65 = .ok (.iconst 1, 1) := by decide +kernel
theorem dX8_fill_66 : decode cX8_fill 66 = .ok (.iadd, 1) := by decide +kernel
theorem dX8_fill_67 : decode cX8_fill 67 = .ok (.iload_n 2, 1) := by decide +kernel
theorem dX8_fill_68 : decode cX8_fill 68 = .ok (.iload 5, 2) := by decide +kernel
theorem dX8_fill_70 : decode cX8_fill 70 = .ok (.ior, 1) := by decide +kernel
theorem dX8_fill_71 : decode cX8_fill 71 = .ok (.iload_n 3, 1) := by decide +kernel
theorem dX8_fill_72 : decode cX8_fill 72 = .ok (.iload 4, 2) := by decide +kernel
theorem dX8_fill_74 : decode cX8_fill 74 = .ok (.isub, 1) := by decide +kernel
theorem dX8_fill_75 : decode cX8_fill 75 = .ok (.invokevirtual 35, 3) := by decide +kernel
theorem dX8_fill_78 : decode cX8_fill 78 = .ok (.iinc 4 1, 3) := by decide +kernel
theorem dX8_fill_81 : decode cX8_fill 81 = .ok (.goto (-61), 3) := by decide +kernel
theorem dX8_fill_84 : decode cX8_fill 84 = .ok (.return_, 1) := by decide +kernel
theorem dX8_find_0 : decode cX8_find 0 = .ok (.aload_n 0, 1) := by decide +kernel
theorem dX8_find_1 : decode cX8_find 1 = .ok (.iconst 1, 1) := by decide +kernel
theorem dX8_find_2 : decode cX8_find 2 = .ok (.iload_n 1, 1) := by decide +kernel
theorem dX8_find_3 : decode cX8_find 3 = .ok (.iconst 5, 1) := by decide +kernel
theorem dX8_find_4 : decode cX8_find 4 = .ok (.invokestatic 16, 3) := by decide +kernel
theorem dX8_find_7 : decode cX8_find 7 = .ok (.invokestatic 22, 3) := by decide +kernel
theorem dX8_find_10 : decode cX8_find 10 = .ok (.putfield 25, 3) := by decide +kernel
theorem dX8_find_13 : decode cX8_find 13 = .ok (.aload_n 0, 1) := by decide +kernel
theorem dX8_find_14 : decode cX8_find 14 = .ok (.iload_n 2, 1) := by decide +kernel
theorem dX8_find_15 : decode cX8_find 15 = .ok (.putfield 29, 3) := by decide +kernel
theorem dX8_find_18 : decode cX8_find 18 = .ok (.aload_n 0, 1) := by decide +kernel
theorem dX8_find_19 : decode cX8_find 19 = .ok (.iconst 0, 1) := by decide +kernel
theorem dX8_find_20 : decode cX8_find 20 = .ok (.putfield 32, 3) := by decide +kernel
theorem dX8_find_23 : decode cX8_find 23 = .ok (.aload_n 0, 1) := by decide +kernel
theorem dX8_find_24 : decode cX8_find 24 = .ok (.iconst 0, 1) := by decide +kernel
theorem dX8_find_25 : decode cX8_find 25 = .ok (.iconst 0, 1) := by decide +kernel
theorem dX8_find_26 : decode cX8_find 26 = .ok (.aload_n 0, 1) := by decide +kernel
theorem dX8_find_27 : decode cX8_find 27 = .ok (.getfield 25, 3) := by decide +kernel
theorem dX8_find_30 : decode cX8_find 30 = .ok (.iload_n 3, 1) := by decide +kernel
theorem dX8_find_31 : decode cX8_find 31 = .ok (.imul, 1) := by decide +kernel
theorem dX8_find_32 : decode cX8_find 32 = .ok (.invokevirtual 35, 3) := by decide +kernel
theorem dX8_find_35 : decode cX8_find 35 = .ok (.return_, 1) := by decide +kernel
theorem dX8_finish_0 : decode cX8_finish 0 = .ok (.aload_n 0, 1) := by decide +kernel
theorem dX8_finish_1 : decode cX8_finish 1 = .ok (.getfield 32, 3) := by decide +kernel
theorem dX8_finish_4 : decode cX8_finish 4 = .ok (.ifCond .ne 20, 3) := by decide +kernel
theorem dX8_finish_7 : decode cX8_finish 7 = .ok (.aload_n 0, 1) := by decide +kernel
theorem dX8_finish_8 : decode cX8_finish 8 = .ok (.getfield 9, 3) := by decide +kernel
theorem dX8_finish_11 : decode cX8_finish 11 = .ok (.iconst 0, 1) := by decide +kernel
theorem dX8_finish_12 : decode cX8_finish 12 = .ok (.aload_n 0, 1) := by decide +kernel
theorem dX8_finish_13 : decode cX8_finish 13 = .ok (.getfield 13, 3) := by decide +kernel
theorem dX8_finish_16 : decode cX8_finish 16 = .ok (.iconst 0, 1) := by decide +kernel
theorem dX8_finish_17 : decode cX8_finish 17 = .ok (.aload_n 0, 1) := by decide +kernel
theorem dX8_finish_18 : decode cX8_finish 18 = .ok (.getfield 25, 3) := by decide +kernel
theorem dX8_finish_21 : decode cX8_finish 21 = .ok (.invokestatic 42, 3) := by decide +kernel
theorem dX8_finish_24 : decode cX8_finish 24 = .ok (.aload_n 0, 1) := by decide +kernel
theorem dX8_finish_25 : decode cX8_finish 25 = .ok (.dup, 1) := by decide +kernel
theorem dX8_finish_26 : decode cX8_finish 26 = .ok (.getfield 32, 3) := by decide +kernel
theorem dX8_finish_29 : decode cX8_finish 29 = .ok (.iconst 1, 1) := by decide +kernel
theorem dX8_finish_30 : decode cX8_finish 30 = .ok (.iadd, 1) := by decide +kernel
theorem dX8_finish_31 : decode cX8_finish 31 = .ok (.putfield 32, 3) := by decide +kernel
theorem dX8_finish_34 : decode cX8_finish 34 = .ok (.return_, 1) := by decide +kernel
set_option maxHeartbeats 4000000 in
set_option maxRecDepth 100000 in
theorem k_finish {l : Launch} {D : va_G} {ids : List Nat} {ad : Nat → Nat} {ca : Nat → ClassId} {σ : HS} {p m : Nat} {G : List (List Nat)} {pre : List Nat} (hid : ∀ i, i < 277 → i ∈ ids) (h1 : 1 ≤ p) (h5 : p ≤ 5) (hq : RQ p m σ) (hs : RS p σ G) (hr : RP σ pre) (hl : pre.length = p) (hG : G.length < 40000) : Kv l D ids ad ca yX8_finish cX8_finish 1 1 60 [.ref (ad 22)] σ (fun σ1 => only [22, 23, 24] σ σ1 ∧ σ1.1 23 = σ.1 23 ∧ RQ p m σ1 ∧ RS p σ1 (G ++ [pre])) := by
  refine Kv.of (by decide) (Nat.le_of_ble_eq_true rfl) 0 (fun Γ C Rt => ?_)
  show AW ids ad ca Γ 0 [some (.ref (ad 22))] [] σ
  refine a_aload_n C dX8_finish_0 (i := 0) rfl rfl ?_
  refine a_get C fl_RX8_32 (i := 22) kd_22 (hid 22 (by decide)) (v := .int (σ.1 22 2)) rfl dX8_finish_1 ?_
  refine a_if_ne C dX8_finish_4 (tgt := 24) rfl (fun c => ?_) (fun c => ?_)
  · have hne : G ≠ [] := fun e => c (by rw [hs.1, e]; rfl)
    refine a_aload_n C dX8_finish_24 (i := 0) rfl rfl ?_
    refine a_dup C dX8_finish_25 rfl ?_
    refine a_get C fl_RX8_32 (i := 22) kd_22 (hid 22 (by decide)) (v := .int (σ.1 22 2)) rfl dX8_finish_26 ?_
    refine a_iconst C dX8_finish_29 (v := 1) rfl ?_
    refine a_iadd C dX8_finish_30 ?_
    refine a_put C fp_RX8_32 (i := 22) kd_22 (hid 22 (by decide)) rfl rfl dX8_finish_31 ?_
    refine a_vret Rt dX8_finish_34 ⟨only.I only.rf (by decide), hI_o (by decide), ⟨(hI_n (by decide)).trans hq.1, (hI_n (by decide)).trans hq.2⟩, ?_, ?_⟩
    · rw [hI_s, hs.1, nI_1, List.length_append]
      rfl
    · intro r hr' j hj
      have e24 : (hI σ 22 2 (σ.1 22 2 + 1)).1 24 = σ.1 24 := hI_o (by decide)
      rw [e24]
      refine hs.2 r ?_ j hj
      cases G with
      | nil => exact absurd rfl hne
      | cons g G1 => exact hr'
  · have h0 : G = [] := by
      have h2 : nI G.length = nI 0 := by rw [← hs.1, c]; rfl
      exact List.eq_nil_of_length_eq_zero ((nI_eq (by omega) (by omega)).mp h2)
    subst h0
    refine a_aload_n C dX8_finish_7 (i := 0) rfl rfl ?_
    refine a_get C fl_RX8_9 (i := 22) kd_22 (hid 22 (by decide)) (v := .ref (ad 23)) rfl dX8_finish_8 ?_
    refine a_iconst C dX8_finish_11 (v := 0) rfl ?_
    refine a_aload_n C dX8_finish_12 (i := 0) rfl rfl ?_
    refine a_get C fl_RX8_13 (i := 22) kd_22 (hid 22 (by decide)) (v := .ref (ad 24)) rfl dX8_finish_13 ?_
    refine a_iconst C dX8_finish_16 (v := 0) rfl ?_
    refine a_aload_n C dX8_finish_17 (i := 0) rfl rfl ?_
    refine a_get C fl_RX8_25 (i := 22) kd_22 (hid 22 (by decide)) (v := .int (nI p)) (congrArg (fun z => some (Value.int z)) hq.1) dX8_finish_18 ?_
    refine a_copyi C (i0 := 23) (i1 := 24) 0 0 p ml_RX8_42 ac_w.1 ac_w.2.1 ac_w.2.2 kd_23 (hid 23 (by decide)) kd_24 (hid 24 (by decide)) (by decide) (by decide) (nI_pos (by omega)) rfl rfl (nI_clamp (by omega)) (by rw [al_23]; omega) (by rw [al_24]; omega) (Nat.le_of_ble_eq_true rfl) (Nat.le_of_ble_eq_true rfl) dX8_finish_21 ?_
    refine a_aload_n C dX8_finish_24 (i := 0) rfl rfl ?_
    refine a_dup C dX8_finish_25 rfl ?_
    refine a_get C fl_RX8_32 (i := 22) kd_22 (hid 22 (by decide)) (v := .int (σ.1 22 2)) rfl dX8_finish_26 ?_
    refine a_iconst C dX8_finish_29 (v := 1) rfl ?_
    refine a_iadd C dX8_finish_30 ?_
    refine a_put C fp_RX8_32 (i := 22) kd_22 (hid 22 (by decide)) rfl rfl dX8_finish_31 ?_
    have e24 : ∀ v : Int32, (hI (hA σ 24 (va_cpy (σ.1 23) (σ.1 24) 0 0 p)) 22 2 v).1 24 = va_cpy (σ.1 23) (σ.1 24) 0 0 p := fun v => (hI_o (by decide)).trans hA_s
    have e22 : (hA σ 24 (va_cpy (σ.1 23) (σ.1 24) 0 0 p)).1 22 = σ.1 22 := hA_o (by decide)
    refine a_vret Rt dX8_finish_34 ⟨only.I (only.C (i := 23) (j := 24) (n := p) only.rf (by decide)) (by decide), (hI_o (by decide)).trans (hA_o (by decide)), ⟨(hI_n (by decide)).trans ((congrFun e22 3).trans hq.1), (hI_n (by decide)).trans ((congrFun e22 4).trans hq.2)⟩, ?_, ?_⟩
    · rw [hI_s, c]
      rfl
    · intro r hr' j hj
      have hr' : some pre = some r := hr'
      cases hr'
      rw [e24]
      show (if 0 ≤ j ∧ j < 0 + p then σ.1 23 (0 + (j - 0)) else σ.1 24 j) = _
      rw [if_pos ⟨Nat.zero_le _, by omega⟩, Nat.zero_add, Nat.sub_zero]
      exact hr j (by omega)
set_option maxHeartbeats 4000000 in
set_option maxRecDepth 100000 in
theorem k_fillR {l : Launch} {D : va_G} {ids : List Nat} {ad : Nat → Nat} {ca : Nat → ClassId} {p m : Nat} (hid : ∀ i, i < 277 → i ∈ ids) (h1 : 1 ≤ p) (h5 : p ≤ 5) (hm : m ≤ 7) : ∀ (d i t lf : Nat) (σ : HS) (G : List (List Nat)) (pre : List Nat), i + d = p → t < 32 → lf ≤ 35 → pre.length = i → RQ p m σ → RS p σ G → RP σ pre → G.length + (rwC p m d i t lf).length ≤ 32768 →
    Kv l D ids ad ca yX8_fill cX8_fill 6 (2 + d) (80 + 25 * d) [.ref (ad 22), .int (nI i), .int (nI t), .int (nI lf)] σ (fun σ1 => only [22, 23, 24] σ σ1 ∧ (∀ j, j < i → σ1.1 23 j = σ.1 23 j) ∧ RQ p m σ1 ∧ RS p σ1 (G ++ (rwC p m d i t lf).map (pre ++ ·))) := by
  intro d
  induction d with
  | zero =>
    intro i t lf σ G pre hi ht hlf hpl hq hs hr hb
    refine Kv.of (by decide) (Nat.le_of_ble_eq_true rfl) 2 (fun Γ C Rt => ?_)
    show AW ids ad ca Γ 0 [some (.ref (ad 22)), some (.int (nI i)), some (.int (nI t)), some (.int (nI lf)), none, none] [] σ
    refine a_iload_n C dX8_fill_0 (i := 1) rfl rfl ?_
    refine a_aload_n C dX8_fill_1 (i := 0) rfl rfl ?_
    refine a_get C fl_RX8_25 (i := 22) kd_22 (hid 22 (by decide)) (v := .int (nI p)) (congrArg (fun z => some (Value.int z)) hq.1) dX8_fill_2 ?_
    refine a_ic_lt C dX8_fill_5 (tgt := 17) rfl (fun c => absurd c (nI_nlt (by omega) (by omega))) (fun _ => ?_)
    refine a_iload_n C dX8_fill_8 (i := 3) rfl rfl ?_
    refine a_if_ne C dX8_fill_9 (tgt := 16) rfl (fun c => ?_) (fun c => ?_)
    · have hl0 : ¬ lf = 0 := fun e => c (by rw [e]; rfl)
      have e0 : rwC p m 0 i t lf = [] := if_neg hl0
      refine a_vret Rt dX8_fill_16 ⟨only.rf, fun _ _ => rfl, hq, ?_⟩
      rw [e0, List.map_nil, List.append_nil]
      exact hs
    · have hl0 : lf = 0 := by
        have h2 : nI lf = nI 0 := c.trans nI_0.symm
        exact (nI_eq (by omega) (by omega)).mp h2
      have e0 : rwC p m 0 i t lf = [[]] := if_pos hl0
      rw [e0] at hb
      have hb : G.length + 1 ≤ 32768 := hb
      refine a_aload_n C dX8_fill_12 (i := 0) rfl rfl ?_
      refine a_callVv C (i := 22) kd_22 (hid 22 (by decide)) ⟨_, _, rfl⟩ (by decide) (k_finish hid h1 h5 hq hs hr (by omega) (by omega)) mi_X8_finish ml_RX8_39 rfl rfl (Nat.le_of_ble_eq_true rfl) (Nat.le_of_ble_eq_true rfl) (Nat.le_of_ble_eq_true rfl) dX8_fill_13 (fun σ1 q1 => ?_)
      refine a_vret Rt dX8_fill_16 ⟨q1.1, fun j _ => congrFun q1.2.1 j, q1.2.2.1, ?_⟩
      rw [e0]
      have e1 : List.map (pre ++ ·) [[]] = [pre] := by
        show [pre ++ []] = [pre]
        rw [List.append_nil]
      rw [e1]
      exact q1.2.2.2
  | succ d ih =>
    intro i t lf σ G pre hi ht hlf hpl hq hs hr hb
    refine Kv.of (by decide) (Nat.le_of_ble_eq_true rfl) 2 (fun Γ C Rt => ?_)
    show AW ids ad ca Γ 0 [some (.ref (ad 22)), some (.int (nI i)), some (.int (nI t)), some (.int (nI lf)), none, none] [] σ
    refine a_iload_n C dX8_fill_0 (i := 1) rfl rfl ?_
    refine a_aload_n C dX8_fill_1 (i := 0) rfl rfl ?_
    refine a_get C fl_RX8_25 (i := 22) kd_22 (hid 22 (by decide)) (v := .int (nI p)) (congrArg (fun z => some (Value.int z)) hq.1) dX8_fill_2 ?_
    refine a_ic_lt C dX8_fill_5 (tgt := 17) rfl (fun _ => ?_) (fun c => absurd (nI_lt (by omega) (by omega)) c)
    refine a_iconst C dX8_fill_17 (v := 0) rfl ?_
    refine a_istore C dX8_fill_18 (by decide) rfl (vs1 := [some (.ref (ad 22)), some (.int (nI i)), some (.int (nI t)), some (.int (nI lf)), some (.int 0), none]) rfl ?_
    obtain ⟨g, hg⟩ : ∃ g : Nat → List (List Nat), g = fun h => if h ≤ lf ∧ ffree t ((i + h) % p) = true then (rwC p m d (i + 1) (t ||| 2 ^ ((i + h) % p)) (lf - h)).map (h :: ·) else [] := ⟨_, rfl⟩
    have hrw : rwC p m (d + 1) i t lf = lp g 0 (m + 1) := by rw [hg]; rfl
    have loop : ∀ (e h : Nat) (σ2 : HS) (G2 : List (List Nat)), h + e = m + 1 → only [22, 23, 24] σ σ2 → (∀ j, j < i → σ2.1 23 j = σ.1 23 j) → RQ p m σ2 → RS p σ2 G2 → G2 ++ (lp g h e).map (pre ++ ·) = G ++ (rwC p m (d + 1) i t lf).map (pre ++ ·) → AW ids ad ca Γ 20 [some (.ref (ad 22)), some (.int (nI i)), some (.int (nI t)), some (.int (nI lf)), some (.int (nI h)), none] [] σ2 := by
      intro e
      induction e with
      | zero =>
        intro h σ2 G2 hh ho hp2 hq2 hs2 hL
        refine a_iload C dX8_fill_20 rfl ?_
        refine a_aload_n C dX8_fill_22 (i := 0) rfl rfl ?_
        refine a_get C fl_RX8_29 (i := 22) kd_22 (hid 22 (by decide)) (v := .int (nI m)) (congrArg (fun z => some (Value.int z)) hq2.2) dX8_fill_23 ?_
        refine a_ic_gt C dX8_fill_26 (tgt := 84) rfl (fun _ => ?_) (fun c => absurd (nI_lt (by omega) (by omega)) c)
        refine a_vret Rt dX8_fill_84 ⟨ho, hp2, hq2, ?_⟩
        have hL : G2 ++ [] = _ := hL
        rw [← hL, List.append_nil]
        exact hs2
      | succ e ihe =>
        intro h σ2 G2 hh ho hp2 hq2 hs2 hL
        refine a_iload C dX8_fill_20 rfl ?_
        refine a_aload_n C dX8_fill_22 (i := 0) rfl rfl ?_
        refine a_get C fl_RX8_29 (i := 22) kd_22 (hid 22 (by decide)) (v := .int (nI m)) (congrArg (fun z => some (Value.int z)) hq2.2) dX8_fill_23 ?_
        refine a_ic_gt C dX8_fill_26 (tgt := 84) rfl (fun c => absurd c (nI_nlt (by omega) (by omega))) (fun _ => ?_)
        refine a_iload C dX8_fill_29 rfl ?_
        refine a_iload_n C dX8_fill_31 (i := 3) rfl rfl ?_
        refine a_ic_gt C dX8_fill_32 (tgt := 84) rfl (fun c => ?_) (fun c => ?_)
        · have hc : lf < h := (nI_ltI (by omega) (by omega)).mp c
          have e0 : lp g h (e + 1) = [] := lp_nil h (e + 1) (fun j hj => by
            rw [hg]
            exact if_neg (fun q => by omega))
          rw [e0, List.map_nil, List.append_nil] at hL
          refine a_vret Rt dX8_fill_84 ⟨ho, hp2, hq2, ?_⟩
          rw [← hL]
          exact hs2
        have hle : h ≤ lf := Nat.not_lt.mp (fun q => c (nI_lt q (by omega)))
        have hcons : lp g h (e + 1) = g h ++ lp g (h + 1) e := rfl
        obtain ⟨s, hs9⟩ : ∃ s, s = (i + h) % p := ⟨_, rfl⟩
        have hs5 : s < 5 := by
          have := Nat.mod_lt (i + h) h1
          omega
        refine a_iconst C dX8_fill_35 (v := 1) rfl ?_
        refine a_iload_n C dX8_fill_36 (i := 1) rfl rfl ?_
        refine a_iload C dX8_fill_37 rfl ?_
        refine a_iadd C dX8_fill_39 ?_
        refine a_topi (nI_add i h) ?_
        refine a_aload_n C dX8_fill_40 (i := 0) rfl rfl ?_
        refine a_get C fl_RX8_25 (i := 22) kd_22 (hid 22 (by decide)) (v := .int (nI p)) (congrArg (fun z => some (Value.int z)) hq2.1) dX8_fill_41 ?_
        refine a_irem C dX8_fill_44 (nI_ne0 (by omega) (by omega)) ?_
        refine a_topi ((pk_rem (by omega) (by omega) (by omega)).trans (congrArg nI hs9.symm)) ?_
        refine a_ishl C dX8_fill_45 ?_
        refine a_istore C dX8_fill_46 (by decide) rfl (vs1 := [some (.ref (ad 22)), some (.int (nI i)), some (.int (nI t)), some (.int (nI lf)), some (.int (nI h)), some (.int ((1 : Int32) <<< (nI s &&& 31)))]) rfl ?_
        refine a_iload_n C dX8_fill_48 (i := 2) rfl rfl ?_
        refine a_iload C dX8_fill_49 rfl ?_
        refine a_iand C dX8_fill_51 ?_
        have back : ∀ (σ3 : HS) (G3 : List (List Nat)), only [22, 23, 24] σ σ3 → (∀ j, j < i → σ3.1 23 j = σ.1 23 j) → RQ p m σ3 → RS p σ3 G3 → G3 ++ (lp g (h + 1) e).map (pre ++ ·) = G ++ (rwC p m (d + 1) i t lf).map (pre ++ ·) → AW ids ad ca Γ 78 [some (.ref (ad 22)), some (.int (nI i)), some (.int (nI t)), some (.int (nI lf)), some (.int (nI h)), some (.int ((1 : Int32) <<< (nI s &&& 31)))] [] σ3 := by
          intro σ3 G3 a1 a2 a3 a4 a5
          refine a_iinc C dX8_fill_78 rfl (v := nI (h + 1)) (nI_1 h) (by decide) rfl (vs1 := [some (.ref (ad 22)), some (.int (nI i)), some (.int (nI t)), some (.int (nI lf)), some (.int (nI (h + 1))), some (.int ((1 : Int32) <<< (nI s &&& 31)))]) rfl ?_
          refine a_goto C dX8_fill_81 (tgt := 20) rfl ?_
          refine AW.sub (vs' := [some (.ref (ad 22)), some (.int (nI i)), some (.int (nI t)), some (.int (nI lf)), some (.int (nI (h + 1))), none]) (fun k v hv => ?_) (ihe (h + 1) σ3 G3 (by omega) a1 a2 a3 a4 a5)
          match k, hv with
          | 0, hv => exact hv
          | 1, hv => exact hv
          | 2, hv => exact hv
          | 3, hv => exact hv
          | 4, hv => exact hv
          | 5, hv => simp at hv
          | k + 6, hv => simp at hv
        refine a_if_ne C dX8_fill_52 (tgt := 78) rfl (fun c2 => ?_) (fun c2 => ?_)
        · have hf : ¬ ffree t s = true := fun q => c2 ((bt_fr t ht s hs5).mpr q)
          have eg : g h = [] := by
            rw [hg]
            exact if_neg (fun q => hf (by rw [hs9]; exact q.2))
          rw [hcons, eg, List.nil_append] at hL
          exact back σ2 G2 ho hp2 hq2 hs2 hL
        have hf : ffree t s = true := (bt_fr t ht s hs5).mp c2
        have eg : g h = (rwC p m d (i + 1) (t ||| 2 ^ s) (lf - h)).map (h :: ·) := by
          rw [hg, hs9]
          exact if_pos ⟨hle, by rw [← hs9]; exact hf⟩
        refine a_aload_n C dX8_fill_55 (i := 0) rfl rfl ?_
        refine a_get C fl_RX8_9 (i := 22) kd_22 (hid 22 (by decide)) (v := .ref (ad 23)) rfl dX8_fill_56 ?_
        refine a_iload_n C dX8_fill_59 (i := 1) rfl rfl ?_
        refine a_iload C dX8_fill_60 rfl ?_
        refine a_iast C (i := 23) i kd_23 (hid 23 (by decide)) (nI_pos (by omega)) (nI_clamp (by omega)) (by rw [al_23]; omega) dX8_fill_62 ?_
        refine a_aload_n C dX8_fill_63 (i := 0) rfl rfl ?_
        refine a_iload_n C dX8_fill_64 (i := 1) rfl rfl ?_
        refine a_iconst C dX8_fill_65 (v := 1) rfl ?_
        refine a_iadd C dX8_fill_66 ?_
        refine a_topi (nI_1 i) ?_
        refine a_iload_n C dX8_fill_67 (i := 2) rfl rfl ?_
        refine a_iload C dX8_fill_68 rfl ?_
        refine a_ior C dX8_fill_70 ?_
        refine a_topi (bt_or t ht s hs5).1 ?_
        refine a_iload_n C dX8_fill_71 (i := 3) rfl rfl ?_
        refine a_iload C dX8_fill_72 rfl ?_
        refine a_isub C dX8_fill_74 ?_
        refine a_topi (pk_sub hle) ?_
        have e22 : (hI σ2 23 i (nI h)).1 22 = σ2.1 22 := hI_o (by decide)
        have e24 : (hI σ2 23 i (nI h)).1 24 = σ2.1 24 := hI_o (by decide)
        have hr2 : RP σ2 pre := fun j hj => (hp2 j (by omega)).trans (hr j hj)
        have hlen : G2.length + (lp g h (e + 1)).length ≤ 32768 := by
          have q := congrArg List.length hL
          rw [List.length_append, List.length_append, List.length_map, List.length_map] at q
          omega
        rw [hcons, List.length_append, eg, List.length_map] at hlen
        refine a_callVv C (i := 22) kd_22 (hid 22 (by decide)) ⟨_, _, rfl⟩ (by decide) (ih (i + 1) (t ||| 2 ^ s) (lf - h) (hI σ2 23 i (nI h)) G2 (pre ++ [h]) (by omega) (bt_or t ht s hs5).2 (by omega) (by rw [List.length_append, hpl]; rfl) ⟨(congrFun e22 3).trans hq2.1, (congrFun e22 4).trans hq2.2⟩ ⟨(congrFun e22 2).trans hs2.1, fun r hr' j hj => (congrFun e24 j).trans (hs2.2 r hr' j hj)⟩ (RP.snoc hr2 hpl) (by omega)) mi_X8_fill ml_RX8_35 rfl rfl (by omega) (by omega) (Nat.le_of_ble_eq_true rfl) dX8_fill_75 (fun σ3 q3 => ?_)
        refine back σ3 (G2 ++ (rwC p m d (i + 1) (t ||| 2 ^ s) (lf - h)).map ((pre ++ [h]) ++ ·)) ((only.tr ho (only.I only.rf (by decide))).tr q3.1) (fun j hj => (q3.2.1 j (by omega)).trans ((hI_n (by omega)).trans (hp2 j hj))) q3.2.2.1 q3.2.2.2 ?_
        rw [← hL, hcons, eg, List.map_append, map_pre, List.append_assoc]
    exact loop (m + 1) 0 σ G (by omega) only.rf (fun _ _ => rfl) hq hs (by rw [hrw])
set_option maxHeartbeats 4000000 in
set_option maxRecDepth 100000 in
theorem k_find {l : Launch} {D : va_G} {ids : List Nat} {ad : Nat → Nat} {ca : Nat → ClassId} {σ : HS} {p m k : Nat} (hid : ∀ i, i < 277 → i ∈ ids) (h1 : 1 ≤ p) (h5 : p ≤ 5) (hm : m ≤ 7) (hk : k ≤ 7) : Kv l D ids ad ca yX8_find cX8_find 4 8 230 [.ref (ad 22), .int (nI p), .int (nI m), .int (nI k)] σ (fun σ1 => only [22, 23, 24] σ σ1 ∧ RS p σ1 (rwC p m p 0 0 (p * k))) := by
  refine Kv.of (by decide) (Nat.le_of_ble_eq_true rfl) 0 (fun Γ C Rt => ?_)
  show AW ids ad ca Γ 0 [some (.ref (ad 22)), some (.int (nI p)), some (.int (nI m)), some (.int (nI k))] [] σ
  have e1 : (if (5 : Int32) < nI p then (5 : Int32) else nI p) = nI p := if_neg (show ¬ nI 5 < nI p from nI_nlt (by omega) (by omega))
  have e2 : (if (1 : Int32) < nI p then nI p else (1 : Int32)) = nI p := by
    by_cases h : p = 1
    · subst h; rfl
    · exact if_pos (show nI 1 < nI p from nI_lt (by omega) (by omega))
  have hpk : p * k ≤ 35 := Nat.mul_le_mul h5 hk
  refine a_aload_n C dX8_find_0 (i := 0) rfl rfl ?_
  refine a_iconst C dX8_find_1 (v := 1) rfl ?_
  refine a_iload_n C dX8_find_2 (i := 1) rfl rfl ?_
  refine a_iconst C dX8_find_3 (v := 5) rfl ?_
  refine a_mmin C dX8_find_4 mm_RX8_16 mm_min.1 mm_min.2.1 mm_min.2.2 (Nat.le_of_ble_eq_true rfl) (Nat.le_of_ble_eq_true rfl) ?_
  refine a_topi e1 ?_
  refine a_mmax C dX8_find_7 mm_RX8_22 mm_max.1 mm_max.2.1 mm_max.2.2 (Nat.le_of_ble_eq_true rfl) (Nat.le_of_ble_eq_true rfl) ?_
  refine a_topi e2 ?_
  refine a_put C fp_RX8_25 (i := 22) kd_22 (hid 22 (by decide)) rfl rfl dX8_find_10 ?_
  refine a_aload_n C dX8_find_13 (i := 0) rfl rfl ?_
  refine a_iload_n C dX8_find_14 (i := 2) rfl rfl ?_
  refine a_put C fp_RX8_29 (i := 22) kd_22 (hid 22 (by decide)) rfl rfl dX8_find_15 ?_
  refine a_aload_n C dX8_find_18 (i := 0) rfl rfl ?_
  refine a_iconst C dX8_find_19 (v := 0) rfl ?_
  refine a_put C fp_RX8_32 (i := 22) kd_22 (hid 22 (by decide)) rfl rfl dX8_find_20 ?_
  refine a_aload_n C dX8_find_23 (i := 0) rfl rfl ?_
  refine a_iconst C dX8_find_24 (v := 0) rfl ?_
  refine a_topi nI_0.symm ?_
  refine a_iconst C dX8_find_25 (v := 0) rfl ?_
  refine a_topi nI_0.symm ?_
  refine a_aload_n C dX8_find_26 (i := 0) rfl rfl ?_
  refine a_get C fl_RX8_25 (i := 22) kd_22 (hid 22 (by decide)) (v := .int (nI p)) rfl dX8_find_27 ?_
  refine a_iload_n C dX8_find_30 (i := 3) rfl rfl ?_
  refine a_imul C dX8_find_31 ?_
  refine a_topi (pk_mul p k) ?_
  refine a_callVv C (i := 22) kd_22 (hid 22 (by decide)) ⟨_, _, rfl⟩ (by decide) (k_fillR hid h1 h5 hm p 0 0 (p * k) (hI (hI (hI σ 22 3 (nI p)) 22 4 (nI m)) 22 2 0) [] [] (by omega) (by omega) hpk rfl ⟨rfl, rfl⟩ ⟨rfl, fun r hr => by simp at hr⟩ (fun j hj => by simp at hj) (by have := rows_len (p := p) (m := m) (k := k) h1 h5 hm; simpa using this)) mi_X8_fill ml_RX8_35 rfl rfl (by omega) (by omega) (Nat.le_of_ble_eq_true rfl) dX8_find_32 (fun σ1 q1 => ?_)
  refine a_vret Rt dX8_find_35 ⟨(only.I (only.I (only.I only.rf (by decide)) (by decide)) (by decide)).tr q1.1, ?_⟩
  have q2 := q1.2.2.2
  rw [List.nil_append] at q2
  have e3 : (rwC p m p 0 0 (p * k)).map (([] : List Nat) ++ ·) = rwC p m p 0 0 (p * k) := by
    show List.map (fun x => x) _ = _
    exact List.map_id' _
  rw [e3] at q2
  exact q2

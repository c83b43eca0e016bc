theorem kdA : ∀ j, j < 45 → (kd (56 + 4 * j) = 0 ∧ 56 + 4 * j < 277) ∧ (kd (56 + 4 * j + 1) = 20 ∧ al (56 + 4 * j + 1) = 7 ∧ 56 + 4 * j + 1 < 277) ∧ (kd (56 + 4 * j + 2) = 20 ∧ al (56 + 4 * j + 2) = 7 ∧ 56 + 4 * j + 2 < 277) ∧ (kd (56 + 4 * j + 3) = 20 ∧ al (56 + 4 * j + 3) = 7 ∧ 56 + 4 * j + 3 < 277) := by decide +kernel
theorem bd56 : (∀ q ∈ bdF, q.1 < 56) ∧ (∀ q ∈ bdA, q.1 < 56) := by decide
theorem GIc.air {σ : HS} {b k : Nat} {v : Int32} (h : GIc σ) (hb : 56 ≤ b) (hv : k = 0 → 0 ≤ v.toInt ∧ v.toInt ≤ 7) : GIc (hI σ b k v) := GIc.I h (fun q hq e _ => absurd (bd56.1 q hq) (by omega)) (fun q hq e => absurd (bd56.2 q hq) (by omega)) (fun _ _ _ hk => hv hk) (by omega)
theorem GIc.airC {σ : HS} {b j : Nat} {f : Nat → Int32} (h : GIc σ) (hb : b = 56 + 4 * j + 1 ∨ b = 56 + 4 * j + 2 ∨ b = 56 + 4 * j + 3) : GIc (hA σ b f) := GIc.A h (fun q hq e => absurd (bd56.1 q hq) (by omega)) (fun q hq e => absurd (bd56.2 q hq) (by omega)) (fun a ha => by omega) (by omega) f
theorem s_gen {ids : List Nat} {ad : Nat → Nat} {ca : Nat → ClassId} {Γ : GT} {pc : Nat} {vs : List (Option Value)} {st : List Value} {σ : HS} (P : HS → Prop) (hP : P σ) (k : ∀ σ1 : HS, P σ1 → AW ids ad ca Γ pc vs st σ1) : AW ids ad ca Γ pc vs st σ := k σ hP
theorem s_gen2 {ids : List Nat} {ad : Nat → Nat} {ca : Nat → ClassId} {Γ : GT} {pc : Nat} {vs : List (Option Value)} {st : List Value} {σ σ0 : HS} {L : List Nat} (hP : GIc σ ∧ ony L σ0 σ) (k : ∀ σ1 : HS, GIc σ1 → ony L σ0 σ1 → AW ids ad ca Γ pc vs st σ1) : AW ids ad ca Γ pc vs st σ := k σ hP.1 hP.2
theorem ring_mem {n : Nat} (h : n < 40) : ∀ q ∈ [76 + 4 * n, 76 + 4 * n + 1, 76 + 4 * n + 2, 76 + 4 * n + 3], q ∈ ringN 160 := by
  intro q hq
  simp only [List.mem_cons, List.not_mem_nil, or_false] at hq
  refine List.mem_map.mpr ⟨q - 76, List.mem_range.mpr ?_, ?_⟩ <;> omega
theorem mono_ring {A B : List Nat} (h : ∀ q ∈ A, q ∈ B) : ∀ q ∈ A ++ ringN 160, q ∈ B ++ ringN 160 := fun q hq => by
  rcases List.mem_append.mp hq with h1 | h1
  · exact List.mem_append.mpr (Or.inl (h q h1))
  · exact List.mem_append.mpr (Or.inr h1)
theorem mono_r {B : List Nat} : ∀ q ∈ ringN 160, q ∈ B ++ ringN 160 := fun q hq => List.mem_append.mpr (Or.inr hq)
theorem mono_l {A B : List Nat} (h : ∀ q ∈ A, q ∈ B) : ∀ q ∈ A, q ∈ B ++ ringN 160 := fun q hq => List.mem_append.mpr (Or.inl (h q hq))
theorem s_aaldR {ids : List Nat} {ad : Nat → Nat} {ca : Nat → ClassId} {Γ : GT} {cc : ByteArray} {own : String} {l0 : Launch} {D0 : va_G} {fr lo nL0 : Nat} {pc : Nat} {vs : List (Option Value)} {st : List Value} {σ : HS} (C : CT ids ad ca Γ cc own l0 D0 fr lo nL0) {j : Int32} (hi : 13 ∈ ids) (h0 : 0 ≤ j.toInt) (h1 : j.toInt < 40) (hd : decode cc pc = .ok (.aaload, 1)) (k : ∀ n : Nat, (n : Int) = j.toInt → n < 40 → AW ids ad ca Γ (pc + 1) vs (.ref (ad (76 + 4 * n)) :: st) σ) : AW ids ad ca Γ pc vs (.int j :: .ref (ad 13) :: st) σ := by
  obtain ⟨n, a, b, c⟩ := s_ix h0
  have hn : n < 40 := by omega
  exact a_aald C n (Or.inl kd_13) hi a b (by rw [al_13]; exact hn) (by rw [kd_13]; exact if_pos hn) hd (k n c hn)
set_option maxHeartbeats 4000000 in
set_option maxRecDepth 100000 in
theorem S_copy {l : Launch} {D : va_G} {ids : List Nat} {ad : Nat → Nat} {ca : Nat → ClassId} {σ : HS} (i j : Nat) {a b : Nat} (ha : a = 56 + 4 * i) (hb : b = 56 + 4 * j) (hi : i < 45) (hj : j < 45) (hid : ∀ i, i < 277 → i ∈ ids) (hG : GIc σ) : Kv l D ids ad ca yX0_copy cX0_copy 2 1 60 [.ref (ad b), .ref (ad a)] σ (fun σ1 => GIc σ1 ∧ ony [b, b + 1, b + 2, b + 3] σ σ1) := by
  obtain ⟨⟨a0, a0'⟩, ⟨a1, a1', a1''⟩, ⟨a2, a2', a2''⟩, ⟨a3, a3', a3''⟩⟩ := kdA i hi
  obtain ⟨⟨b0, b0'⟩, ⟨b1, b1', b1''⟩, ⟨b2, b2', b2''⟩, ⟨b3, b3', b3''⟩⟩ := kdA j hj
  rw [← ha] at a0 a0' a1 a1' a1'' a2 a2' a2'' a3 a3' a3''
  rw [← hb] at b0 b0' b1 b1' b1'' b2 b2' b2'' b3 b3' b3''
  refine Kv.of (by decide) (Nat.le_of_ble_eq_true rfl) 0 (fun Γ C Rt => ?_)
  show AW ids ad ca Γ 0 [some (.ref (ad b)), some (.ref (ad a))] [] σ
  refine s_gen (fun s => GIc s ∧ ony [b, b + 1, b + 2, b + 3] σ s) ⟨hG, ony.rf⟩ (fun σ0 h0 => ?_)
  refine a_aload_n C dX0_copy_0 (i := 0) rfl rfl ?_
  refine a_aload_n C dX0_copy_1 (i := 1) rfl rfl ?_
  refine a_get C fl_RX0_33 (i := a) a0 (hid a a0') (v := .int (σ0.1 a 0)) rfl dX0_copy_2 ?_
  refine a_put C fp_RX0_33 (i := b) b0 (hid b b0') rfl rfl dX0_copy_5 ?_
  have hv : 0 ≤ (σ0.1 a 0).toInt ∧ (σ0.1 a 0).toInt ≤ 7 := by rw [ha]; exact h0.1.2.2.1 i hi
  refine s_gen (fun s => GIc s ∧ ony [b, b + 1, b + 2, b + 3] σ s) ⟨GIc.air h0.1 (by omega) (fun e => hv), ony.I h0.2 (by simp)⟩ (fun σ1 h1 => ?_)
  refine a_aload_n C dX0_copy_8 (i := 1) rfl rfl ?_
  refine a_get C fl_RX0_9 (i := a) a0 (hid a a0') (v := .ref (ad (a + 1))) rfl dX0_copy_9 ?_
  refine s_iconst C dX0_copy_12 0 (by decide) (fun z12 hz12 => ?_)
  refine a_aload_n C dX0_copy_13 (i := 0) rfl rfl ?_
  refine a_get C fl_RX0_9 (i := b) b0 (hid b b0') (v := .ref (ad (b + 1))) rfl dX0_copy_14 ?_
  refine s_iconst C dX0_copy_17 0 (by decide) (fun z17 hz17 => ?_)
  refine s_bipush C dX0_copy_18 7 (by decide) (fun z18 hz18 => ?_)
  refine s_copyi C (i0 := a + 1) (i1 := b + 1) 7 ml_RX0_43 ac_w.1 ac_w.2.1 ac_w.2.2 a1 (hid _ a1'') b1 (hid _ b1'') hz12 hz17 hz18 (by rw [a1']; decide) (by rw [b1']; decide) (Nat.le_of_ble_eq_true rfl) (Nat.le_of_ble_eq_true rfl) dX0_copy_20 ?_
  refine s_gen (fun s => GIc s ∧ ony [b, b + 1, b + 2, b + 3] σ s) ⟨GIc.airC (j := j) h1.1 (by omega), ony.A h1.2 (by simp)⟩ (fun σ2 h2 => ?_)
  refine a_aload_n C dX0_copy_23 (i := 1) rfl rfl ?_
  refine a_get C fl_RX0_15 (i := a) a0 (hid a a0') (v := .ref (ad (a + 2))) rfl dX0_copy_24 ?_
  refine s_iconst C dX0_copy_27 0 (by decide) (fun z27 hz27 => ?_)
  refine a_aload_n C dX0_copy_28 (i := 0) rfl rfl ?_
  refine a_get C fl_RX0_15 (i := b) b0 (hid b b0') (v := .ref (ad (b + 2))) rfl dX0_copy_29 ?_
  refine s_iconst C dX0_copy_32 0 (by decide) (fun z32 hz32 => ?_)
  refine s_bipush C dX0_copy_33 7 (by decide) (fun z33 hz33 => ?_)
  refine s_copyi C (i0 := a + 2) (i1 := b + 2) 7 ml_RX0_43 ac_w.1 ac_w.2.1 ac_w.2.2 a2 (hid _ a2'') b2 (hid _ b2'') hz27 hz32 hz33 (by rw [a2']; decide) (by rw [b2']; decide) (Nat.le_of_ble_eq_true rfl) (Nat.le_of_ble_eq_true rfl) dX0_copy_35 ?_
  refine s_gen (fun s => GIc s ∧ ony [b, b + 1, b + 2, b + 3] σ s) ⟨GIc.airC (j := j) h2.1 (by omega), ony.A h2.2 (by simp)⟩ (fun σ3 h3 => ?_)
  refine a_aload_n C dX0_copy_38 (i := 1) rfl rfl ?_
  refine a_get C fl_RX0_18 (i := a) a0 (hid a a0') (v := .ref (ad (a + 3))) rfl dX0_copy_39 ?_
  refine s_iconst C dX0_copy_42 0 (by decide) (fun z42 hz42 => ?_)
  refine a_aload_n C dX0_copy_43 (i := 0) rfl rfl ?_
  refine a_get C fl_RX0_18 (i := b) b0 (hid b b0') (v := .ref (ad (b + 3))) rfl dX0_copy_44 ?_
  refine s_iconst C dX0_copy_47 0 (by decide) (fun z47 hz47 => ?_)
  refine s_bipush C dX0_copy_48 7 (by decide) (fun z48 hz48 => ?_)
  refine s_copyi C (i0 := a + 3) (i1 := b + 3) 7 ml_RX0_43 ac_w.1 ac_w.2.1 ac_w.2.2 a3 (hid _ a3'') b3 (hid _ b3'') hz42 hz47 hz48 (by rw [a3']; decide) (by rw [b3']; decide) (Nat.le_of_ble_eq_true rfl) (Nat.le_of_ble_eq_true rfl) dX0_copy_50 ?_
  refine s_gen (fun s => GIc s ∧ ony [b, b + 1, b + 2, b + 3] σ s) ⟨GIc.airC (j := j) h3.1 (by omega), ony.A h3.2 (by simp)⟩ (fun σ4 h4 => ?_)
  refine a_aload_n C dX0_copy_53 (i := 0) rfl rfl ?_
  refine a_aload_n C dX0_copy_54 (i := 1) rfl rfl ?_
  refine a_get C fl_RX0_49 (i := a) a0 (hid a a0') (v := .int (σ4.1 a 4)) rfl dX0_copy_55 ?_
  refine a_put C fp_RX0_49 (i := b) b0 (hid b b0') rfl rfl dX0_copy_58 ?_
  refine s_gen (fun s => GIc s ∧ ony [b, b + 1, b + 2, b + 3] σ s) ⟨GIc.air h4.1 (by omega) (fun e => absurd e (by decide)), ony.I h4.2 (by simp)⟩ (fun σ5 h5 => ?_)
  refine a_aload_n C dX0_copy_61 (i := 0) rfl rfl ?_
  refine a_aload_n C dX0_copy_62 (i := 1) rfl rfl ?_
  refine a_get C fl_RX0_52 (i := a) a0 (hid a a0') (v := .int (σ5.1 a 5)) rfl dX0_copy_63 ?_
  refine a_put C fp_RX0_52 (i := b) b0 (hid b b0') rfl rfl dX0_copy_66 ?_
  refine s_gen (fun s => GIc s ∧ ony [b, b + 1, b + 2, b + 3] σ s) ⟨GIc.air h5.1 (by omega) (fun e => absurd e (by decide)), ony.I h5.2 (by simp)⟩ (fun σ6 h6 => ?_)
  refine a_aload_n C dX0_copy_69 (i := 0) rfl rfl ?_
  refine a_aload_n C dX0_copy_70 (i := 1) rfl rfl ?_
  refine a_get C fl_RX0_55 (i := a) a0 (hid a a0') (v := .int (σ6.1 a 6)) rfl dX0_copy_71 ?_
  refine a_put C fp_RX0_55 (i := b) b0 (hid b b0') rfl rfl dX0_copy_74 ?_
  refine s_gen (fun s => GIc s ∧ ony [b, b + 1, b + 2, b + 3] σ s) ⟨GIc.air h6.1 (by omega) (fun e => absurd e (by decide)), ony.I h6.2 (by simp)⟩ (fun σ7 h7 => ?_)
  refine a_aload_n C dX0_copy_77 (i := 0) rfl rfl ?_
  refine a_aload_n C dX0_copy_78 (i := 1) rfl rfl ?_
  refine a_get C fl_RX0_58 (i := a) a0 (hid a a0') (v := .int (σ7.1 a 7)) rfl dX0_copy_79 ?_
  refine a_put C fp_RX0_58 (i := b) b0 (hid b b0') rfl rfl dX0_copy_82 ?_
  refine s_gen (fun s => GIc s ∧ ony [b, b + 1, b + 2, b + 3] σ s) ⟨GIc.air h7.1 (by omega) (fun e => absurd e (by decide)), ony.I h7.2 (by simp)⟩ (fun σ8 h8 => ?_)
  refine a_aload_n C dX0_copy_85 (i := 0) rfl rfl ?_
  refine a_aload_n C dX0_copy_86 (i := 1) rfl rfl ?_
  refine a_get C fl_RX0_61 (i := a) a0 (hid a a0') (v := .int (σ8.1 a 8)) rfl dX0_copy_87 ?_
  refine a_put C fp_RX0_61 (i := b) b0 (hid b b0') rfl rfl dX0_copy_90 ?_
  refine s_gen (fun s => GIc s ∧ ony [b, b + 1, b + 2, b + 3] σ s) ⟨GIc.air h8.1 (by omega) (fun e => absurd e (by decide)), ony.I h8.2 (by simp)⟩ (fun σ9 h9 => ?_)
  refine a_aload_n C dX0_copy_93 (i := 0) rfl rfl ?_
  refine a_aload_n C dX0_copy_94 (i := 1) rfl rfl ?_
  refine a_get C fl_RX0_21 (i := a) a0 (hid a a0') (v := .int (σ9.1 a 9)) rfl dX0_copy_95 ?_
  refine a_put C fp_RX0_21 (i := b) b0 (hid b b0') rfl rfl dX0_copy_98 ?_
  refine s_gen (fun s => GIc s ∧ ony [b, b + 1, b + 2, b + 3] σ s) ⟨GIc.air h9.1 (by omega) (fun e => absurd e (by decide)), ony.I h9.2 (by simp)⟩ (fun σ10 h10 => ?_)
  refine a_aload_n C dX0_copy_101 (i := 0) rfl rfl ?_
  refine a_aload_n C dX0_copy_102 (i := 1) rfl rfl ?_
  refine a_get C fl_RX0_67 (i := a) a0 (hid a a0') (v := .int (σ10.1 a 10)) rfl dX0_copy_103 ?_
  refine a_put C fp_RX0_67 (i := b) b0 (hid b b0') rfl rfl dX0_copy_106 ?_
  refine s_gen (fun s => GIc s ∧ ony [b, b + 1, b + 2, b + 3] σ s) ⟨GIc.air h10.1 (by omega) (fun e => absurd e (by decide)), ony.I h10.2 (by simp)⟩ (fun σ11 h11 => ?_)
  refine a_aload_n C dX0_copy_109 (i := 0) rfl rfl ?_
  refine a_aload_n C dX0_copy_110 (i := 1) rfl rfl ?_
  refine a_get C fl_RX0_25 (i := a) a0 (hid a a0') (v := .int (σ11.1 a 11)) rfl dX0_copy_111 ?_
  refine a_put C fp_RX0_25 (i := b) b0 (hid b b0') rfl rfl dX0_copy_114 ?_
  refine s_gen (fun s => GIc s ∧ ony [b, b + 1, b + 2, b + 3] σ s) ⟨GIc.air h11.1 (by omega) (fun e => absurd e (by decide)), ony.I h11.2 (by simp)⟩ (fun σ12 h12 => ?_)
  exact a_vret Rt dX0_copy_117 h12
theorem only.ony {L : List Nat} {σ σ1 : HS} (h : only L σ σ1) : ony L σ σ1 := ⟨fun k hk => ⟨h.1 k hk, congrFun (congrArg Prod.fst h.2) k⟩, congrArg Prod.snd h.2⟩
theorem GIc.only3 {σ σ1 : HS} (h : GIc σ) (ho : only [22, 23, 24] σ σ1) : GIc σ1 := by
  have nf : ∀ q ∈ bdF, q.1 ∉ [22, 23, 24] := by decide
  have na : ∀ q ∈ bdA, q.1 ∉ [22, 23, 24] := by decide
  refine ⟨fun q hq => ?_, fun q hq j => ?_, fun a ha => ?_, fun j hj h21 => ?_⟩
  · rw [ho.1 _ (nf q hq)]; exact h.1 q hq
  · rw [ho.1 _ (na q hq)]; exact h.2.1 q hq j
  · rw [ho.1 _ (by simp; omega)]; exact h.2.2.1 a ha
  · rw [ho.1 4 (by decide)] at h21
    rw [congrArg Prod.fst ho.2]
    exact h.2.2.2 j hj h21

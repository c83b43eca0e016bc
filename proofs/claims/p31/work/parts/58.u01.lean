theorem nof_251 : ∀ q ∈ bdFm, ¬ q.1 = 251 := by decide
theorem wA_251 {σ : HS} {v : Int32} {j : Nat} (h : GIm σ) (h1 : 0 ≤ v.toInt) (h2 : v.toInt ≤ 9999) : GIm (hI σ 251 j v) := GIm.I h (fun q hq e1 _ => absurd e1 (nof_251 q hq)) (hAm_of (L := [(251, 0, 9999)]) (by decide) (fun q hq => by simp only [List.mem_cons, List.not_mem_nil, or_false] at hq; subst hq; exact ⟨h1, h2⟩))
theorem nof_250 : ∀ q ∈ bdFm, ¬ q.1 = 250 := by decide
theorem wA_250 {σ : HS} {v : Int32} {j : Nat} (h : GIm σ) (h1 : 0 ≤ v.toInt) (h2 : v.toInt ≤ 8) : GIm (hI σ 250 j v) := GIm.I h (fun q hq e1 _ => absurd e1 (nof_250 q hq)) (hAm_of (L := [(250, 0, 8)]) (by decide) (fun q hq => by simp only [List.mem_cons, List.not_mem_nil, or_false] at hq; subst hq; exact ⟨h1, h2⟩))
theorem wF_236_4 {σ : HS} {v : Int32} (h : GIm σ) (h1 : 0 ≤ v.toInt) (h2 : v.toInt ≤ 2000) : GIm (hI σ 236 4 v) := GIm.I h (hFm_of (L := [(236, 4, 0, 2000)]) (by decide) (fun q hq => by simp only [List.mem_cons, List.not_mem_nil, or_false] at hq; subst hq; exact ⟨h1, h2⟩)) (hAm_of (L := []) (by decide) (fun _ h => absurd h List.not_mem_nil))
theorem nof_238 : ∀ q ∈ bdFm, ¬ q.1 = 238 := by decide
theorem wA_238 {σ : HS} {v : Int32} {j : Nat} (h : GIm σ) : GIm (hI σ 238 j v) := GIm.I h (fun q hq e1 _ => absurd e1 (nof_238 q hq)) (hAm_of (L := []) (by decide) (fun _ h => absurd h List.not_mem_nil))
theorem wF_236_2 {σ : HS} {v : Int32} (h : GIm σ) (h1 : 0 ≤ v.toInt) (h2 : v.toInt ≤ 2000) : GIm (hI σ 236 2 v) := GIm.I h (hFm_of (L := [(236, 2, 0, 2000)]) (by decide) (fun q hq => by simp only [List.mem_cons, List.not_mem_nil, or_false] at hq; subst hq; exact ⟨h1, h2⟩)) (hAm_of (L := []) (by decide) (fun _ h => absurd h List.not_mem_nil))
theorem wF_236_19 {σ : HS} {v : Int32} (h : GIm σ) (h1 : 0 ≤ v.toInt) (h2 : v.toInt ≤ 1) : GIm (hI σ 236 19 v) := GIm.I h (hFm_of (L := [(236, 19, 0, 1)]) (by decide) (fun q hq => by simp only [List.mem_cons, List.not_mem_nil, or_false] at hq; subst hq; exact ⟨h1, h2⟩)) (hAm_of (L := []) (by decide) (fun _ h => absurd h List.not_mem_nil))
theorem wF_236_17 {σ : HS} {v : Int32} (h : GIm σ) : GIm (hI σ 236 17 v) := GIm.I h (hFm_of (L := []) (by decide) (fun _ h => absurd h List.not_mem_nil)) (hAm_of (L := []) (by decide) (fun _ h => absurd h List.not_mem_nil))
theorem wF_236_18 {σ : HS} {v : Int32} (h : GIm σ) (h1 : 0 ≤ v.toInt) (h2 : v.toInt ≤ 1) : GIm (hI σ 236 18 v) := GIm.I h (hFm_of (L := [(236, 18, 0, 1)]) (by decide) (fun q hq => by simp only [List.mem_cons, List.not_mem_nil, or_false] at hq; subst hq; exact ⟨h1, h2⟩)) (hAm_of (L := []) (by decide) (fun _ h => absurd h List.not_mem_nil))
theorem dX12_tellPattern_0 : decode cX12_tellPattern 0 = .ok (.iconst 5, 1) := by decide +kernel
theorem dX12_tellPattern_1 : decode cX12_tellPattern 1 = .ok (.aload_n 0, 1) := by decide +kernel
theorem dX12_tellPattern_2 : decode cX12_tellPattern 2 = .ok (.getfield 224, 3) := by decide +kernel
theorem dX12_tellPattern_5 : decode cX12_tellPattern 5 = .ok (.imul, 1) := by decide +kernel
theorem dX12_tellPattern_6 : decode cX12_tellPattern 6 = .ok (.aload_n 0, 1) := by decide +kernel
theorem dX12_tellPattern_7 : decode cX12_tellPattern 7 = .ok (.getfield 55, 3) := by decide +kernel
theorem dX12_tellPattern_10 : decode cX12_tellPattern 10 = .ok (.aload_n 0, 1) := by decide +kernel
theorem dX12_tellPattern_11 : decode cX12_tellPattern 11 = .ok (.getfield 224, 3) := by decide +kernel
theorem dX12_tellPattern_14 : decode cX12_tellPattern 14 = .ok (.iaload, 1) := by decide +kernel
theorem dX12_tellPattern_15 : decode cX12_tellPattern 15 = .ok (.iadd, 1) := by decide +kernel
theorem dX12_tellPattern_16 : decode cX12_tellPattern 16 = .ok (.istore_n 1, 1) := by decide +kernel
theorem dX12_tellPattern_17 : decode cX12_tellPattern 17 = .ok (.aload_n 0, 1) := by decide +kernel
theorem dX12_tellPattern_18 : decode cX12_tellPattern 18 = .ok (.invokevirtual 271, 3) := by decide +kernel
theorem dX12_tellPattern_21 : decode cX12_tellPattern 21 = .ok (.istore_n 2, 1) := by decide +kernel
theorem dX12_tellPattern_22 : decode cX12_tellPattern 22 = .ok (.aload_n 0, 1) := by decide +kernel
theorem dX12_tellPattern_23 : decode cX12_tellPattern 23 = .ok (.getfield 61, 3) := by decide +kernel
theorem dX12_tellPattern_26 : decode cX12_tellPattern 26 = .ok (.bipush 8, 2) := by decide +kernel
theorem dX12_tellPattern_28 : decode cX12_tellPattern 28 = .ok (.iload_n 1, 1) := by decide +kernel
theorem dX12_tellPattern_29 : decode cX12_tellPattern 29 = .ok (.imul, 1) := by decide +kernel
theorem dX12_tellPattern_30 : decode cX12_tellPattern 30 = .ok (.aload_n 0, 1) := by decide +kernel
theorem dX12_tellPattern_31 : decode cX12_tellPattern 31 = .ok (.iconst 0, 1) := by decide +kernel
theorem dX12_tellPattern_32 : decode cX12_tellPattern 32 = .ok (.bipush 9, 2) := by decide +kernel
theorem dX12_tellPattern_34 : decode cX12_tellPattern 34 = .ok (.invokevirtual 245, 3) := by decide +kernel
theorem dX12_tellPattern_37 : decode cX12_tellPattern 37 = .ok (.iastore, 1) := by decide +kernel
theorem dX12_tellPattern_38 : decode cX12_tellPattern 38 = .ok (.aload_n 0, 1) := by decide +kernel
theorem dX12_tellPattern_39 : decode cX12_tellPattern 39 = .ok (.getfield 58, 3) := by decide +kernel
theorem dX12_tellPattern_42 : decode cX12_tellPattern 42 = .ok (.iload_n 1, 1) := by decide +kernel
theorem dX12_tellPattern_43 : decode cX12_tellPattern 43 = .ok (.iconst 1, 1) := by decide +kernel
theorem dX12_tellPattern_44 : decode cX12_tellPattern 44 = .ok (.iastore, 1) := by decide +kernel
theorem dX12_tellPattern_45 : decode cX12_tellPattern 45 = .ok (.aload_n 0, 1) := by decide +kernel
theorem dX12_tellPattern_46 : decode cX12_tellPattern 46 = .ok (.getfield 191, 3) := by decide +kernel
theorem dX12_tellPattern_49 : decode cX12_tellPattern 49 = .ok (.ifCond .ne 71, 3) := by decide +kernel
theorem dX12_tellPattern_52 : decode cX12_tellPattern 52 = .ok (.aload_n 0, 1) := by decide +kernel
theorem dX12_tellPattern_53 : decode cX12_tellPattern 53 = .ok (.iconst 2, 1) := by decide +kernel
theorem dX12_tellPattern_54 : decode cX12_tellPattern 54 = .ok (.invokevirtual 209, 3) := by decide +kernel
theorem dX12_tellPattern_57 : decode cX12_tellPattern 57 = .ok (.ifCond .eq 63, 3) := by decide +kernel
theorem dX12_tellPattern_60 : decode cX12_tellPattern 60 = .ok (.aload_n 0, 1) := by decide +kernel
theorem dX12_tellPattern_61 : decode cX12_tellPattern 61 = .ok (.getfield 58, 3) := by decide +kernel
theorem dX12_tellPattern_64 : decode cX12_tellPattern 64 = .ok (.iload_n 1, 1) := by decide +kernel
theorem dX12_tellPattern_65 : decode cX12_tellPattern 65 = .ok (.iaload, 1) := by decide +kernel
theorem dX12_tellPattern_66 : decode cX12_tellPattern 66 = .ok (.bipush 8, 2) := by decide +kernel
theorem dX12_tellPattern_68 : decode cX12_tellPattern 68 = .ok (.if_icmp .ne 8, 3) := by decide +kernel
theorem dX12_tellPattern_71 : decode cX12_tellPattern 71 = .ok (.aload_n 0, 1) := by decide +kernel
theorem dX12_tellPattern_72 : decode cX12_tellPattern 72 = .ok (.iconst 2, 1) := by decide +kernel
theorem dX12_tellPattern_73 : decode cX12_tellPattern 73 = .ok (.invokevirtual 206, 3) := by decide +kernel
theorem dX12_tellPattern_76 : decode cX12_tellPattern 76 = .ok (.aload_n 0, 1) := by decide +kernel
theorem dX12_tellPattern_77 : decode cX12_tellPattern 77 = .ok (.getfield 191, 3) := by decide +kernel
theorem dX12_tellPattern_80 : decode cX12_tellPattern 80 = .ok (.ifCond .le 4, 3) := by decide +kernel
theorem dX12_tellPattern_83 : decode cX12_tellPattern 83 = .ok (.return_, 1) := by decide +kernel
theorem dX12_tellPattern_84 : decode cX12_tellPattern 84 = .ok (.aload_n 0, 1) := by decide +kernel
theorem dX12_tellPattern_85 : decode cX12_tellPattern 85 = .ok (.getfield 61, 3) := by decide +kernel
theorem dX12_tellPattern_88 : decode cX12_tellPattern 88 = .ok (.bipush 8, 2) := by decide +kernel
theorem dX12_tellPattern_90 : decode cX12_tellPattern 90 = .ok (.iload_n 1, 1) := by decide +kernel
theorem dX12_tellPattern_91 : decode cX12_tellPattern 91 = .ok (.imul, 1) := by decide +kernel
theorem dX12_tellPattern_92 : decode cX12_tellPattern 92 = .ok (.aload_n 0, 1) := by decide +kernel
theorem dX12_tellPattern_93 : decode cX12_tellPattern 93 = .ok (.getfield 58, 3) := by decide +kernel
theorem dX12_tellPattern_96 : decode cX12_tellPattern 96 = .ok (.iload_n 1, 1) := by decide +kernel
theorem dX12_tellPattern_97 : decode cX12_tellPattern 97 = .ok (.iaload, 1) := by decide +kernel
theorem dX12_tellPattern_98 : decode cX12_tellPattern 98 = .ok (.iadd, 1) := by decide +kernel
theorem dX12_tellPattern_99 : decode cX12_tellPattern 99 = .ok (.aload_n 0, 1) := by decide +kernel
theorem dX12_tellPattern_100 : decode cX12_tellPattern 100 = .ok (.iconst 0, 1) := by decide +kernel
theorem dX12_tellPattern_101 : decode cX12_tellPattern 101 = .ok (.bipush 9, 2) := by decide +kernel
theorem dX12_tellPattern_103 : decode cX12_tellPattern 103 = .ok (.invokevirtual 245, 3) := by decide +kernel
theorem dX12_tellPattern_106 : decode cX12_tellPattern 106 = .ok (.iastore, 1) := by decide +kernel
theorem dX12_tellPattern_107 : decode cX12_tellPattern 107 = .ok (.aload_n 0, 1) := by decide +kernel
theorem dX12_tellPattern_108 : decode cX12_tellPattern 108 = .ok (.getfield 58, 3) := by decide +kernel
theorem dX12_tellPattern_111 : decode cX12_tellPattern 111 = .ok (.iload_n 1, 1) := by decide +kernel
theorem dX12_tellPattern_112 : decode cX12_tellPattern 112 = .ok (.dup2, 1) := by decide +kernel
theorem dX12_tellPattern_113 : decode cX12_tellPattern 113 = .ok (.iaload, 1) := by decide +kernel
theorem dX12_tellPattern_114 : decode cX12_tellPattern 114 = .ok (.iconst 1, 1) := by decide +kernel
theorem dX12_tellPattern_115 : decode cX12_tellPattern 115 = .ok (.iadd, 1) := by decide +kernel
theorem dX12_tellPattern_116 : decode cX12_tellPattern 116 = .ok (.iastore, 1) := by decide +kernel
theorem dX12_tellPattern_117 : decode cX12_tellPattern 117 = .ok (.goto (-72), 3) := by decide +kernel
theorem dX12_tellPattern_120 : decode cX12_tellPattern 120 = .ok (.aload_n 0, 1) := by decide +kernel
theorem dX12_tellPattern_121 : decode cX12_tellPattern 121 = .ok (.iload_n 2, 1) := by decide +kernel
theorem dX12_tellPattern_122 : decode cX12_tellPattern 122 = .ok (.invokevirtual 275, 3) := by decide +kernel
theorem dX12_tellPattern_125 : decode cX12_tellPattern 125 = .ok (.aload_n 0, 1) := by decide +kernel
theorem dX12_tellPattern_126 : decode cX12_tellPattern 126 = .ok (.getfield 191, 3) := by decide +kernel
theorem dX12_tellPattern_129 : decode cX12_tellPattern 129 = .ok (.ifCond .ne 16, 3) := by decide +kernel
theorem dX12_tellPattern_132 : decode cX12_tellPattern 132 = .ok (.aload_n 0, 1) := by decide +kernel
theorem dX12_tellPattern_133 : decode cX12_tellPattern 133 = .ok (.getfield 55, 3) := by decide +kernel
theorem dX12_tellPattern_136 : decode cX12_tellPattern 136 = .ok (.aload_n 0, 1) := by decide +kernel
theorem dX12_tellPattern_137 : decode cX12_tellPattern 137 = .ok (.getfield 224, 3) := by decide +kernel
theorem dX12_tellPattern_140 : decode cX12_tellPattern 140 = .ok (.dup2, 1) := by decide +kernel
theorem dX12_tellPattern_141 : decode cX12_tellPattern 141 = .ok (.iaload, 1) := by decide +kernel
theorem dX12_tellPattern_142 : decode cX12_tellPattern 142 = .ok (.iconst 1, 1) := by decide +kernel
theorem dX12_tellPattern_143 : decode cX12_tellPattern 143 = .ok (.iadd, 1) := by decide +kernel
theorem dX12_tellPattern_144 : decode cX12_tellPattern 144 = .ok (.iastore, 1) := by decide +kernel
theorem dX12_tellPattern_145 : decode cX12_tellPattern 145 = .ok (.return_, 1) := by decide +kernel
set_option maxHeartbeats 4000000 in
set_option maxRecDepth 100000 in
theorem S_X12_tellPattern_236 {l : Launch} {D : va_G} {ids : List Nat} {ad : Nat → Nat} {ca : Nat → ClassId} {σ : HS} (hid : ∀ i, i < 277 → i ∈ ids) (hG : GIm σ) {s : HS} (hR : AGm s σ) (hp0 : (σ.1 236 19).toInt + (s.1 236 18).toInt = 1) (hp1 : (σ.1 249 (σ.1 236 19).toInt.toNat).toInt ≤ 4) (hp2 : (σ.1 236 20).toInt ≤ 11) (hp3 : LNG σ) : Kv l D ids ad ca yX12_tellPattern cX12_tellPattern 3 4 84 [.ref (ad 236)] σ (fun σ1 => (GIm σ1) ∧ (onm [244, 249, 250, 251, 1011, 1013, 1014, 1015, 1016, 1020] σ σ1) ∧ (AGm s σ1) ∧ ((σ.1 236 11).toInt ≤ (σ1.1 236 11).toInt) ∧ (1 ≤ (σ.1 236 13).toInt → 1 ≤ (σ1.1 236 13).toInt) ∧ ((σ1.1 236 13).toInt = 0 → (σ1.1 236 20).toInt = (σ.1 236 20).toInt + 1) ∧ ((σ1.1 236 13).toInt = 0 → (σ1.1 249 (σ.1 236 19).toInt.toNat).toInt = (σ.1 249 (σ.1 236 19).toInt.toNat).toInt + 1) ∧ (LNG σ1)) := by
  refine Kv.of (by decide) (Nat.le_of_ble_eq_true rfl) 2 (fun Γ C Rt => ?_)
  show AW ids ad ca Γ 0 [some (.ref (ad 236)), none, none] [] σ
  have j120 : ∀ (σq120 : HS) (y120_2 : Int32), GIm σq120 → onm [244, 249, 250, 251, 1011, 1013, 1014, 1015, 1016, 1020] σ σq120 → AGm s σq120 → 0 ≤ y120_2.toInt ∧ y120_2.toInt ≤ 400 → ((σ.1 236 11).toInt ≤ (σq120.1 236 11).toInt) → (1 ≤ (σ.1 236 13).toInt → 1 ≤ (σq120.1 236 13).toInt) → (0 ≤ (σq120.1 236 13).toInt) → ((σq120.1 236 13).toInt ≤ 2) → ((σq120.1 236 11).toInt ≤ 400) → ((σq120.1 236 20).toInt = (σ.1 236 20).toInt) → (1 ≤ (σq120.1 250 (5 * (σ.1 236 19).toInt + (σ.1 249 (σ.1 236 19).toInt.toNat).toInt).toNat).toInt) → (∀ p : Nat, (p : Int) ≠ (5 * (σ.1 236 19).toInt + (σ.1 249 (σ.1 236 19).toInt.toNat).toInt) → σq120.1 250 p = σ.1 250 p) → (σq120.1 249 = σ.1 249) → AW ids ad ca Γ 120 [some (.ref (ad 236)), none, some (.int y120_2)] [] σq120 := by
    intro σq120 y120_2 hGq120 hoq120 hRq120 hx120_0 hx120_1 hx120_2 hx120_3 hx120_4 hx120_5 hx120_6 hx120_7 hx120_8 hx120_9
    have g1 := bF_236_11 hGq120
    have g2 := bF_236_13 hGq120
    have g3 := bF_236_19 hGq120
    have g4 : (σq120.1 236 19).toInt = (σ.1 236 19).toInt := congrArg Int32.toInt (hoq120.1 236 19 (by decide))
    have g5 := bF_236_20 hGq120
    have gsd := bF_236_19 hG
    refine a_aload_n C dX12_tellPattern_120 (i := 0) rfl rfl ?_
    refine a_iload_n C dX12_tellPattern_121 (i := 2) rfl rfl ?_
    refine a_callVv C (i := 236) kd_236 (hid 236 (by decide)) ⟨_, _, rfl⟩ (by decide) (S_X12_ends_236 (x1 := y120_2) hid hGq120 (by omega) (by omega)) mi_X12_ends ml_RX12_275 rfl rfl (Nat.le_of_ble_eq_true rfl) (Nat.le_of_ble_eq_true rfl) (Nat.le_of_ble_eq_true rfl) dX12_tellPattern_122 (fun σ7 q8 => ?_)
    obtain ⟨hG9, ho10, w12, w13, w14, w15, w16⟩ := q8
    have hR11 := AGm.ony hRq120 ho10 (by decide)
    refine a_aload_n C dX12_tellPattern_125 (i := 0) rfl rfl ?_
    have g17 := bF_236_13 hG9
    refine a_get C fl_RX12_191 (i := 236) kd_236 (hid 236 (by decide)) (v := .int (σ7.1 236 13)) rfl dX12_tellPattern_126 ?_
    refine s_if_ne C dX12_tellPattern_129 (tgt := 145) rfl (fun c18 => ?_) (fun c18 => ?_)
    ·
      have g19 := bF_236_11 hG9
      have g20 := bF_236_20 hG9
      have g21 := bF_236_19 hG9
      have g22 : (σ7.1 236 19).toInt = (σq120.1 236 19).toInt := congrArg Int32.toInt (ho10.1 236 19 (by decide))
      exact a_vret Rt dX12_tellPattern_145 (⟨hG9, (onm.tr hoq120 (onm.mono ho10 (by decide))), hR11, (show (σ.1 236 11).toInt ≤ (σ7.1 236 11).toInt by intros; omega), (show 1 ≤ (σ.1 236 13).toInt → 1 ≤ (σ7.1 236 13).toInt by intros; omega), (show (σ7.1 236 13).toInt = 0 → (σ7.1 236 20).toInt = (σ.1 236 20).toInt + 1 by intros; omega), (fun h9 => absurd h9 (by omega)), (LNG.add hp3 (by omega) (by omega) (by rw [((show σ7.1 249 = σq120.1 249 from (ho10.a (i := 249) (by decide))).trans hx120_9)]; omega) (fun p hp => (show σ7.1 250 p = σq120.1 250 p from (congrFun (ho10.a (i := 250) (by decide)) p)).trans (hx120_8 p hp)) (by rw [(show σ7.1 250 = σq120.1 250 from (ho10.a (i := 250) (by decide)))]; exact hx120_7))⟩)
    ·
      refine a_aload_n C dX12_tellPattern_132 (i := 0) rfl rfl ?_
      refine a_get C fl_RX12_55 (i := 236) kd_236 (hid 236 (by decide)) (v := .ref (ad 249)) rfl dX12_tellPattern_133 ?_
      refine a_aload_n C dX12_tellPattern_136 (i := 0) rfl rfl ?_
      have g23 := bF_236_19 hG9
      have g24 : (σ7.1 236 19).toInt = (σq120.1 236 19).toInt := congrArg Int32.toInt (ho10.1 236 19 (by decide))
      refine a_get C fl_RX12_224 (i := 236) kd_236 (hid 236 (by decide)) (v := .int (σ7.1 236 19)) rfl dX12_tellPattern_137 ?_
      refine a_dup2 C dX12_tellPattern_140 rfl rfl ?_
      refine s_iald C (i := 249) kd_249 (hid 249 (by decide)) al_249 (by omega) (by omega) dX12_tellPattern_141 (fun n25 h26 => ?_)
      refine s_val (fun z27 e28 => ?_)
      have g29 := bA_249 hG9 n25
      rw [e28] at g29
      have gt141 : (σ.1 249 (σ.1 236 19).toInt.toNat).toInt = z27.toInt := congrArg Int32.toInt (by rw [show (σ.1 236 19).toInt.toNat = n25 by omega]; exact (congrFun ((show σ7.1 249 = σq120.1 249 from (ho10.a (i := 249) (by decide))).trans hx120_9) n25).symm.trans e28)
      refine s_iconst C dX12_tellPattern_142 (1) (by decide) (fun z30 h31 => ?_)
      refine s_iadd C dX12_tellPattern_143 (by omega) (fun z32 h33 => ?_)
      refine s_iast C (i := 249) kd_249 (hid 249 (by decide)) al_249 (by omega) (by omega) dX12_tellPattern_144 (fun n34 h35 => ?_)
      have hG36 := wA_249 (v := z32) (j := n34) hG9 (by omega) (by omega)
      have g38 : ((hI σ7 249 n34 z32).1 236 19).toInt = (σ7.1 236 19).toInt := congrArg Int32.toInt rfl
      have hR37 := AGm.W (i := 249) (k := n34) (v := z32) hR11 (by decide) (by omega) (by omega) (by omega) (by omega) (by omega)
      have g39 := bF_236_11 hG9
      have g40 := bF_236_20 hG9
      have g41 : ((hI σ7 249 n34 z32).1 236 13).toInt = (σ7.1 236 13).toInt := congrArg Int32.toInt rfl
      have g42 : ((hI σ7 249 n34 z32).1 236 19).toInt = (σ7.1 236 19).toInt := congrArg Int32.toInt rfl
      have g43 : ((hI σ7 249 n34 z32).1 236 20).toInt = (σ7.1 236 20).toInt := congrArg Int32.toInt rfl
      exact a_vret Rt dX12_tellPattern_145 (⟨hG36, (onm.I (onm.tr hoq120 (onm.mono ho10 (by decide))) (by decide)), hR37, (show (σ.1 236 11).toInt ≤ (σ7.1 236 11).toInt by intros; omega), (show 1 ≤ (σ.1 236 13).toInt → 1 ≤ (σ7.1 236 13).toInt by intros; omega), (show (σ7.1 236 13).toInt = 0 → (σ7.1 236 20).toInt = (σ.1 236 20).toInt + 1 by intros; omega), (fun _ => by have e9 := gt141; rw [show (σ.1 236 19).toInt.toNat = n34 by omega] at e9 ⊢; show ((hI σ7 249 n34 z32).1 249 n34).toInt = _; rw [hI_s]; omega), (LNG.add hp3 (by omega) (by omega) (by have e9 := gt141; rw [show (σ.1 236 19).toInt.toNat = n34 by omega] at e9 ⊢; show ((hI σ7 249 n34 z32).1 249 n34).toInt ≤ _; rw [hI_s]; omega) (fun p hp => (show (hI σ7 249 n34 z32).1 250 p = σq120.1 250 p from ((congrFun (hI_o (by decide)) p).trans (congrFun (ho10.a (i := 250) (by decide)) p))).trans (hx120_8 p hp)) (by rw [(show (hI σ7 249 n34 z32).1 250 = σq120.1 250 from ((hI_o (by decide)).trans (ho10.a (i := 250) (by decide))))]; exact hx120_7))⟩)
  have j45 : ∀ (d45 : Nat) (σq45 : HS) (y45_1 : Int32) (y45_2 : Int32), 2 * (401 - (σq45.1 236 11).toInt) - (σq45.1 236 13).toInt < d45 → GIm σq45 → onm [244, 249, 250, 251, 1011, 1013, 1014, 1015, 1016, 1020] σ σq45 → AGm s σq45 → 0 ≤ y45_1.toInt ∧ y45_1.toInt ≤ 9 → 0 ≤ y45_2.toInt ∧ y45_2.toInt ≤ 400 → ((σ.1 236 11).toInt ≤ (σq45.1 236 11).toInt) → (1 ≤ (σ.1 236 13).toInt → 1 ≤ (σq45.1 236 13).toInt) → (0 ≤ (σq45.1 236 13).toInt) → ((σq45.1 236 13).toInt ≤ 2) → ((σq45.1 236 11).toInt ≤ 400) → ((σq45.1 236 20).toInt = (σ.1 236 20).toInt) → (y45_1.toInt = (5 * (σ.1 236 19).toInt + (σ.1 249 (σ.1 236 19).toInt.toNat).toInt)) → (1 ≤ (σq45.1 250 (5 * (σ.1 236 19).toInt + (σ.1 249 (σ.1 236 19).toInt.toNat).toInt).toNat).toInt ∧ (σq45.1 250 (5 * (σ.1 236 19).toInt + (σ.1 249 (σ.1 236 19).toInt.toNat).toInt).toNat).toInt ≤ 8) → (∀ p : Nat, (p : Int) ≠ (5 * (σ.1 236 19).toInt + (σ.1 249 (σ.1 236 19).toInt.toNat).toInt) → σq45.1 250 p = σ.1 250 p) → (σq45.1 249 = σ.1 249) → AW ids ad ca Γ 45 [some (.ref (ad 236)), some (.int y45_1), some (.int y45_2)] [] σq45 := by
    intro d45
    induction d45 with
    | zero =>
      intro σq45 y45_1 y45_2 hd45 hGq45 hoq45 hRq45 hx45_0 hx45_1 hx45_2 hx45_3 hx45_4 hx45_5 hx45_6 hx45_7 hx45_8 hx45_9 hx45_10 hx45_11
      exfalso
      omega
    | succ d45 ih45 =>
      intro σq45 y45_1 y45_2 hd45 hGq45 hoq45 hRq45 hx45_0 hx45_1 hx45_2 hx45_3 hx45_4 hx45_5 hx45_6 hx45_7 hx45_8 hx45_9 hx45_10 hx45_11
      have j76 : ∀ (σq76 : HS), GIm σq76 → onm [244, 249, 250, 251, 1011, 1013, 1014, 1015, 1016, 1020] σ σq76 → AGm s σq76 → ((σq45.1 236 13).toInt = 0) → (0 ≤ (σq76.1 236 13).toInt) → (onm [1013, 1014] σq45 σq76) → ((σq76.1 236 13).toInt = 0 → (σq76.1 250 (5 * (σ.1 236 19).toInt + (σ.1 249 (σ.1 236 19).toInt.toNat).toInt).toNat).toInt ≤ 7) → AW ids ad ca Γ 76 [some (.ref (ad 236)), some (.int y45_1), some (.int y45_2)] [] σq76 := by
        intro σq76 hGq76 hoq76 hRq76 hx76_0 hx76_1 hx76_2 hx76_3
        have g44 := bF_236_11 hGq76
        have g45 := bF_236_13 hGq76
        have g46 := bF_236_19 hGq76
        have g47 : (σq76.1 236 19).toInt = (σ.1 236 19).toInt := congrArg Int32.toInt (hoq76.1 236 19 (by decide))
        have g48 := bF_236_20 hGq76
        have g76_11 : (σq76.1 236 11).toInt = (σq45.1 236 11).toInt := congrArg Int32.toInt (hx76_2.1 236 11 (by decide))
        have g76_19 : (σq76.1 236 19).toInt = (σq45.1 236 19).toInt := congrArg Int32.toInt (hx76_2.1 236 19 (by decide))
        have g76_20 : (σq76.1 236 20).toInt = (σq45.1 236 20).toInt := congrArg Int32.toInt (hx76_2.1 236 20 (by decide))
        have gsd := bF_236_19 hG
        have gpt := bA_249 hG (σ.1 236 19).toInt.toNat
        refine a_aload_n C dX12_tellPattern_76 (i := 0) rfl rfl ?_
        refine a_get C fl_RX12_191 (i := 236) kd_236 (hid 236 (by decide)) (v := .int (σq76.1 236 13)) rfl dX12_tellPattern_77 ?_
        refine s_if_le C dX12_tellPattern_80 (tgt := 84) rfl (fun c49 => ?_) (fun c49 => ?_)
        ·
          refine a_aload_n C dX12_tellPattern_84 (i := 0) rfl rfl ?_
          refine a_get C fl_RX12_61 (i := 236) kd_236 (hid 236 (by decide)) (v := .ref (ad 251)) rfl dX12_tellPattern_85 ?_
          refine s_bipush C dX12_tellPattern_88 (8) (by decide) (fun z50 h51 => ?_)
          refine a_iload_n C dX12_tellPattern_90 (i := 1) rfl rfl ?_
          refine s_imuld C dX12_tellPattern_91 (8) (by omega) (by omega) (fun z52 h53 => ?_)
          refine a_aload_n C dX12_tellPattern_92 (i := 0) rfl rfl ?_
          refine a_get C fl_RX12_58 (i := 236) kd_236 (hid 236 (by decide)) (v := .ref (ad 250)) rfl dX12_tellPattern_93 ?_
          refine a_iload_n C dX12_tellPattern_96 (i := 1) rfl rfl ?_
          refine s_iald C (i := 250) kd_250 (hid 250 (by decide)) al_250 (by omega) (by omega) dX12_tellPattern_97 (fun n54 h55 => ?_)
          refine s_val (fun z56 e57 => ?_)
          have g58 := bA_250 hGq76 n54
          rw [e57] at g58
          have gl97 : (σq76.1 250 (5 * (σ.1 236 19).toInt + (σ.1 249 (σ.1 236 19).toInt.toNat).toInt).toNat).toInt = z56.toInt := congrArg Int32.toInt (by rw [show (5 * (σ.1 236 19).toInt + (σ.1 249 (σ.1 236 19).toInt.toNat).toInt).toNat = n54 by omega]; exact e57)
          have gl98 := hx76_3 (by omega)
          refine s_iadd C dX12_tellPattern_98 (by omega) (fun z59 h60 => ?_)
          refine a_aload_n C dX12_tellPattern_99 (i := 0) rfl rfl ?_
          refine s_iconst C dX12_tellPattern_100 (0) (by decide) (fun z61 h62 => ?_)
          refine s_bipush C dX12_tellPattern_101 (9) (by decide) (fun z63 h64 => ?_)
          refine a_callVi C (i := 236) kd_236 (hid 236 (by decide)) ⟨_, _, rfl⟩ (by decide) (S_X12_bounded_236 (x1 := z61) (x2 := z63) hid hGq76 (by omega)) mi_X12_bounded ml_RX12_245 rfl rfl (Nat.le_of_ble_eq_true rfl) (Nat.le_of_ble_eq_true rfl) (Nat.le_of_ble_eq_true rfl) dX12_tellPattern_103 (fun z65 σ66 q67 => ?_)
          obtain ⟨hG68, ho69, w71, w72, w73, w74, w75, w76⟩ := q67
          have hR70 := AGm.ony hRq76 ho69 (by decide)
          refine s_iast C (i := 251) kd_251 (hid 251 (by decide)) al_251 (by omega) (by omega) dX12_tellPattern_106 (fun n77 h78 => ?_)
          have hG79 := wA_251 (v := z65) (j := n77) hG68 (by omega) (by omega)
          have hR80 := AGm.ony (σ1 := hI _ 251 n77 z65) hR70 (onm.I (L := [251]) onm.rf (by decide)) (by decide)
          refine a_aload_n C dX12_tellPattern_107 (i := 0) rfl rfl ?_
          refine a_get C fl_RX12_58 (i := 236) kd_236 (hid 236 (by decide)) (v := .ref (ad 250)) rfl dX12_tellPattern_108 ?_
          refine a_iload_n C dX12_tellPattern_111 (i := 1) rfl rfl ?_
          refine a_dup2 C dX12_tellPattern_112 rfl rfl ?_
          refine s_iald C (i := 250) kd_250 (hid 250 (by decide)) al_250 (by omega) (by omega) dX12_tellPattern_113 (fun n81 h82 => ?_)
          refine s_val (fun z83 e84 => ?_)
          have g85 := bA_250 hG79 n81
          rw [e84] at g85
          have gl113 : (σq76.1 250 (5 * (σ.1 236 19).toInt + (σ.1 249 (σ.1 236 19).toInt.toNat).toInt).toNat).toInt = z83.toInt := congrArg Int32.toInt (by rw [show (5 * (σ.1 236 19).toInt + (σ.1 249 (σ.1 236 19).toInt.toNat).toInt).toNat = n81 by omega]; exact (congrFun (show (hI σ66 251 n77 z65).1 250 = σq76.1 250 from ((hI_o (by decide)).trans (ho69.a (i := 250) (by decide)))) n81).symm.trans e84)
          refine s_iconst C dX12_tellPattern_114 (1) (by decide) (fun z86 h87 => ?_)
          refine s_iadd C dX12_tellPattern_115 (by omega) (fun z88 h89 => ?_)
          refine s_iast C (i := 250) kd_250 (hid 250 (by decide)) al_250 (by omega) (by omega) dX12_tellPattern_116 (fun n90 h91 => ?_)
          have hG92 := wA_250 (v := z88) (j := n90) hG79 (by omega) (by omega)
          have g94 := bF_236_19 hG68
          have g95 : (σ66.1 236 19).toInt = (σq76.1 236 19).toInt := congrArg Int32.toInt (ho69.1 236 19 (by decide))
          have g96 : ((hI (hI σ66 251 n77 z65) 250 n90 z88).1 236 19).toInt = (σ66.1 236 19).toInt := congrArg Int32.toInt rfl
          have hR93 := AGm.W (i := 250) (k := n90) (v := z88) hR80 (by decide) (by omega) (by omega) (by omega) (by omega) (by omega)
          refine a_goto C dX12_tellPattern_117 (tgt := 45) rfl ?_
          have g97 := bF_236_11 hG68
          have g98 : ((hI (hI σ66 251 n77 z65) 250 n90 z88).1 236 11).toInt = (σ66.1 236 11).toInt := congrArg Int32.toInt rfl
          have g99 := bF_236_13 hG68
          have g100 : ((hI (hI σ66 251 n77 z65) 250 n90 z88).1 236 13).toInt = (σ66.1 236 13).toInt := congrArg Int32.toInt rfl
          have g101 := bF_236_20 hG68
          have g102 : (σ66.1 236 20).toInt = (σq76.1 236 20).toInt := congrArg Int32.toInt (ho69.1 236 20 (by decide))
          exact ih45 _ y45_1 y45_2 (by omega) hG92 (onm.I (onm.I (onm.tr hoq76 (onm.mono ho69 (by decide))) (by decide)) (by decide)) hR93 (by omega) (by omega) (show (σ.1 236 11).toInt ≤ (σ66.1 236 11).toInt by omega) (show 1 ≤ (σ.1 236 13).toInt → 1 ≤ (σ66.1 236 13).toInt by omega) (show 0 ≤ (σ66.1 236 13).toInt by omega) (show (σ66.1 236 13).toInt ≤ 2 by omega) (show (σ66.1 236 11).toInt ≤ 400 by omega) (show (σ66.1 236 20).toInt = (σ.1 236 20).toInt by omega) (show y45_1.toInt = (5 * (σ.1 236 19).toInt + (σ.1 249 (σ.1 236 19).toInt.toNat).toInt) by omega) (by rw [show (5 * (σ.1 236 19).toInt + (σ.1 249 (σ.1 236 19).toInt.toNat).toInt).toNat = n90 by omega]; show 1 ≤ ((hI (hI σ66 251 n77 z65) 250 n90 z88).1 250 n90).toInt ∧ ((hI (hI σ66 251 n77 z65) 250 n90 z88).1 250 n90).toInt ≤ 8; rw [hI_s]; omega) (fun p hp => ((show (hI (hI σ66 251 n77 z65) 250 n90 z88).1 250 p = σq76.1 250 p from ((hI_n (by omega)).trans ((congrFun (hI_o (by decide)) p).trans (congrFun (ho69.a (i := 250) (by decide)) p)))).trans (congrFun (hx76_2.a (i := 250) (by decide)) p)).trans (hx45_10 p hp)) ((show (hI (hI σ66 251 n77 z65) 250 n90 z88).1 249 = σq76.1 249 from ((hI_o (by decide)).trans ((hI_o (by decide)).trans (ho69.a (i := 249) (by decide))))).trans ((hx76_2.a (i := 249) (by decide)).trans hx45_11))
        ·
          exact a_vret Rt dX12_tellPattern_83 (⟨hGq76, hoq76, hRq76, (show (σ.1 236 11).toInt ≤ (σq76.1 236 11).toInt by intros; omega), (show 1 ≤ (σ.1 236 13).toInt → 1 ≤ (σq76.1 236 13).toInt by intros; omega), (show (σq76.1 236 13).toInt = 0 → (σq76.1 236 20).toInt = (σ.1 236 20).toInt + 1 by intros; omega), (fun h9 => absurd h9 (by omega)), (LNG.add hp3 (by omega) (by omega) (by rw [((hx76_2.a (i := 249) (by decide)).trans hx45_11)]; omega) (fun p hp => (congrFun (hx76_2.a (i := 250) (by decide)) p).trans (hx45_10 p hp)) (by rw [hx76_2.a (i := 250) (by decide)]; exact hx45_9.1))⟩)
      have g103 := bF_236_11 hGq45
      have g104 := bF_236_13 hGq45
      have g105 := bF_236_19 hGq45
      have g106 : (σq45.1 236 19).toInt = (σ.1 236 19).toInt := congrArg Int32.toInt (hoq45.1 236 19 (by decide))
      have g107 := bF_236_20 hGq45
      have gsd := bF_236_19 hG
      have gpt := bA_249 hG (σ.1 236 19).toInt.toNat
      refine a_aload_n C dX12_tellPattern_45 (i := 0) rfl rfl ?_
      refine a_get C fl_RX12_191 (i := 236) kd_236 (hid 236 (by decide)) (v := .int (σq45.1 236 13)) rfl dX12_tellPattern_46 ?_
      refine s_if_ne C dX12_tellPattern_49 (tgt := 120) rfl (fun c108 => ?_) (fun c108 => ?_)
      ·
        refine AW.sub (vs' := [some (.ref (ad 236)), none, some (.int y45_2)]) (lsub_of (by simp [lsubB])) ?_
        exact j120 _ y45_2 hGq45 hoq45 hRq45 (by omega) (show (σ.1 236 11).toInt ≤ (σq45.1 236 11).toInt by omega) (show 1 ≤ (σ.1 236 13).toInt → 1 ≤ (σq45.1 236 13).toInt by omega) (show 0 ≤ (σq45.1 236 13).toInt by omega) (show (σq45.1 236 13).toInt ≤ 2 by omega) (show (σq45.1 236 11).toInt ≤ 400 by omega) (show (σq45.1 236 20).toInt = (σ.1 236 20).toInt by omega) hx45_9.1 hx45_10 hx45_11
      ·
        refine a_aload_n C dX12_tellPattern_52 (i := 0) rfl rfl ?_
        refine s_iconst C dX12_tellPattern_53 (2) (by decide) (fun z109 h110 => ?_)
        refine a_callVi C (i := 236) kd_236 (hid 236 (by decide)) ⟨_, _, rfl⟩ (by decide) (S_X12_is_236 (x1 := z109) hid hGq45) mi_X12_is ml_RX12_209 rfl rfl (Nat.le_of_ble_eq_true rfl) (Nat.le_of_ble_eq_true rfl) (Nat.le_of_ble_eq_true rfl) dX12_tellPattern_54 (fun z111 σ112 q113 => ?_)
        obtain ⟨w114, w115, w116, w117⟩ := q113
        rw [w114]
        refine s_if_eq C dX12_tellPattern_57 (tgt := 120) rfl (fun c118 => ?_) (fun c118 => ?_)
        ·
          refine AW.sub (vs' := [some (.ref (ad 236)), none, some (.int y45_2)]) (lsub_of (by simp [lsubB])) ?_
          exact j120 _ y45_2 hGq45 hoq45 hRq45 (by omega) (show (σ.1 236 11).toInt ≤ (σq45.1 236 11).toInt by omega) (show 1 ≤ (σ.1 236 13).toInt → 1 ≤ (σq45.1 236 13).toInt by omega) (show 0 ≤ (σq45.1 236 13).toInt by omega) (show (σq45.1 236 13).toInt ≤ 2 by omega) (show (σq45.1 236 11).toInt ≤ 400 by omega) (show (σq45.1 236 20).toInt = (σ.1 236 20).toInt by omega) hx45_9.1 hx45_10 hx45_11
        ·
          refine a_aload_n C dX12_tellPattern_60 (i := 0) rfl rfl ?_
          refine a_get C fl_RX12_58 (i := 236) kd_236 (hid 236 (by decide)) (v := .ref (ad 250)) rfl dX12_tellPattern_61 ?_
          refine a_iload_n C dX12_tellPattern_64 (i := 1) rfl rfl ?_
          refine s_iald C (i := 250) kd_250 (hid 250 (by decide)) al_250 (by omega) (by omega) dX12_tellPattern_65 (fun n119 h120 => ?_)
          refine s_val (fun z121 e122 => ?_)
          have g123 := bA_250 hGq45 n119
          rw [e122] at g123
          have gl65 : (σq45.1 250 (5 * (σ.1 236 19).toInt + (σ.1 249 (σ.1 236 19).toInt.toNat).toInt).toNat).toInt = z121.toInt := congrArg Int32.toInt (by rw [show (5 * (σ.1 236 19).toInt + (σ.1 249 (σ.1 236 19).toInt.toNat).toInt).toNat = n119 by omega]; exact e122)
          refine s_bipush C dX12_tellPattern_66 (8) (by decide) (fun z124 h125 => ?_)
          refine s_ic_ne C dX12_tellPattern_68 (tgt := 76) rfl (fun c126 => ?_) (fun c126 => ?_)
          ·
            exact j76 _ hGq45 hoq45 hRq45 (show (σq45.1 236 13).toInt = 0 by omega) (show 0 ≤ (σq45.1 236 13).toInt by omega) onm.rf (fun h9 => by omega)
          ·
            refine a_aload_n C dX12_tellPattern_71 (i := 0) rfl rfl ?_
            refine s_iconst C dX12_tellPattern_72 (2) (by decide) (fun z127 h128 => ?_)
            refine a_callVv C (i := 236) kd_236 (hid 236 (by decide)) ⟨_, _, rfl⟩ (by decide) (S_X12_fail_236 (x1 := z127) hid hGq45 (by omega)) mi_X12_fail ml_RX12_206 rfl rfl (Nat.le_of_ble_eq_true rfl) (Nat.le_of_ble_eq_true rfl) (Nat.le_of_ble_eq_true rfl) dX12_tellPattern_73 (fun σ130 q131 => ?_)
            obtain ⟨hG132, ho133, w135, w136⟩ := q131
            have hR134 := AGm.ony hRq45 ho133 (by decide)
            have g137 := bF_236_13 hG132
            exact j76 _ hG132 (onm.tr hoq45 (onm.mono ho133 (by decide))) hR134 (show (σq45.1 236 13).toInt = 0 by omega) (show 0 ≤ (σ130.1 236 13).toInt by omega) (show onm [1013, 1014] σq45 σ130 from ho133) (fun h9 => by rw [ho133.a (i := 250) (by decide)]; omega)
  refine s_iconst C dX12_tellPattern_0 (5) (by decide) (fun z138 h139 => ?_)
  refine a_aload_n C dX12_tellPattern_1 (i := 0) rfl rfl ?_
  have g140 := bF_236_19 hG
  refine a_get C fl_RX12_224 (i := 236) kd_236 (hid 236 (by decide)) (v := .int (σ.1 236 19)) rfl dX12_tellPattern_2 ?_
  refine s_imuld C dX12_tellPattern_5 (5) (by omega) (by omega) (fun z141 h142 => ?_)
  refine a_aload_n C dX12_tellPattern_6 (i := 0) rfl rfl ?_
  refine a_get C fl_RX12_55 (i := 236) kd_236 (hid 236 (by decide)) (v := .ref (ad 249)) rfl dX12_tellPattern_7 ?_
  refine a_aload_n C dX12_tellPattern_10 (i := 0) rfl rfl ?_
  refine a_get C fl_RX12_224 (i := 236) kd_236 (hid 236 (by decide)) (v := .int (σ.1 236 19)) rfl dX12_tellPattern_11 ?_
  refine s_iald C (i := 249) kd_249 (hid 249 (by decide)) al_249 (by omega) (by omega) dX12_tellPattern_14 (fun n143 h144 => ?_)
  refine s_val (fun z145 e146 => ?_)
  have g147 := bA_249 hG n143
  rw [e146] at g147
  have gt14 : (σ.1 249 (σ.1 236 19).toInt.toNat).toInt = z145.toInt := congrArg Int32.toInt (by rw [show (σ.1 236 19).toInt.toNat = n143 by omega]; exact e146)
  have gsd := bF_236_19 hG
  refine s_iadd C dX12_tellPattern_15 (by omega) (fun z148 h149 => ?_)
  refine a_istore_n C dX12_tellPattern_16 (i := 1) rfl (by decide) rfl (vs1 := [some (.ref (ad 236)), some (.int z148), none]) rfl ?_
  refine a_aload_n C dX12_tellPattern_17 (i := 0) rfl rfl ?_
  have g153 := bF_236_11 hG
  have g154 := bF_236_13 hG
  refine a_callVi C (i := 236) kd_236 (hid 236 (by decide)) ⟨_, _, rfl⟩ (by decide) (S_X12_named_236 hid hG) mi_X12_named ml_RX12_271 rfl rfl (Nat.le_of_ble_eq_true rfl) (Nat.le_of_ble_eq_true rfl) (Nat.le_of_ble_eq_true rfl) dX12_tellPattern_18 (fun z150 σ151 q152 => ?_)
  obtain ⟨hG155, ho156, w158, w159, w160, w161, w162, w163⟩ := q152
  have hR157 := AGm.ony hR ho156 (by decide)
  refine a_istore_n C dX12_tellPattern_21 (i := 2) rfl (by decide) rfl (vs1 := [some (.ref (ad 236)), some (.int z148), some (.int z150)]) rfl ?_
  refine a_aload_n C dX12_tellPattern_22 (i := 0) rfl rfl ?_
  refine a_get C fl_RX12_61 (i := 236) kd_236 (hid 236 (by decide)) (v := .ref (ad 251)) rfl dX12_tellPattern_23 ?_
  refine s_bipush C dX12_tellPattern_26 (8) (by decide) (fun z164 h165 => ?_)
  refine a_iload_n C dX12_tellPattern_28 (i := 1) rfl rfl ?_
  refine s_imuld C dX12_tellPattern_29 (8) (by omega) (by omega) (fun z166 h167 => ?_)
  refine a_aload_n C dX12_tellPattern_30 (i := 0) rfl rfl ?_
  refine s_iconst C dX12_tellPattern_31 (0) (by decide) (fun z168 h169 => ?_)
  refine s_bipush C dX12_tellPattern_32 (9) (by decide) (fun z170 h171 => ?_)
  have g175 := bF_236_11 hG155
  have g176 := bF_236_13 hG155
  refine a_callVi C (i := 236) kd_236 (hid 236 (by decide)) ⟨_, _, rfl⟩ (by decide) (S_X12_bounded_236 (x1 := z168) (x2 := z170) hid hG155 (by omega)) mi_X12_bounded ml_RX12_245 rfl rfl (Nat.le_of_ble_eq_true rfl) (Nat.le_of_ble_eq_true rfl) (Nat.le_of_ble_eq_true rfl) dX12_tellPattern_34 (fun z172 σ173 q174 => ?_)
  obtain ⟨hG177, ho178, w180, w181, w182, w183, w184, w185⟩ := q174
  have hR179 := AGm.ony hR157 ho178 (by decide)
  refine s_iast C (i := 251) kd_251 (hid 251 (by decide)) al_251 (by omega) (by omega) dX12_tellPattern_37 (fun n186 h187 => ?_)
  have hG188 := wA_251 (v := z172) (j := n186) hG177 (by omega) (by omega)
  have hR189 := AGm.ony (σ1 := hI _ 251 n186 z172) hR179 (onm.I (L := [251]) onm.rf (by decide)) (by decide)
  refine a_aload_n C dX12_tellPattern_38 (i := 0) rfl rfl ?_
  refine a_get C fl_RX12_58 (i := 236) kd_236 (hid 236 (by decide)) (v := .ref (ad 250)) rfl dX12_tellPattern_39 ?_
  refine a_iload_n C dX12_tellPattern_42 (i := 1) rfl rfl ?_
  refine s_iconst C dX12_tellPattern_43 (1) (by decide) (fun z190 h191 => ?_)
  refine s_iast C (i := 250) kd_250 (hid 250 (by decide)) al_250 (by omega) (by omega) dX12_tellPattern_44 (fun n192 h193 => ?_)
  have hG194 := wA_250 (v := z190) (j := n192) hG188 (by omega) (by omega)
  have g196 := bF_236_19 hG177
  have g197 := bF_236_19 hG155
  have g198 : (σ151.1 236 19).toInt = (σ.1 236 19).toInt := congrArg Int32.toInt (ho156.1 236 19 (by decide))
  have g199 : (σ173.1 236 19).toInt = (σ151.1 236 19).toInt := congrArg Int32.toInt (ho178.1 236 19 (by decide))
  have g200 : ((hI (hI σ173 251 n186 z172) 250 n192 z190).1 236 19).toInt = (σ173.1 236 19).toInt := congrArg Int32.toInt rfl
  have hR195 := AGm.W (i := 250) (k := n192) (v := z190) hR189 (by decide) (by omega) (by omega) (by omega) (by omega) (by omega)
  have g201 := bF_236_11 hG177
  have g202 : ((hI (hI σ173 251 n186 z172) 250 n192 z190).1 236 11).toInt = (σ173.1 236 11).toInt := congrArg Int32.toInt rfl
  have g203 := bF_236_13 hG177
  have g204 : ((hI (hI σ173 251 n186 z172) 250 n192 z190).1 236 13).toInt = (σ173.1 236 13).toInt := congrArg Int32.toInt rfl
  have g205 := bF_236_20 hG177
  have g206 := bF_236_20 hG155
  have g207 := bF_236_20 hG
  have g208 : (σ151.1 236 20).toInt = (σ.1 236 20).toInt := congrArg Int32.toInt (ho156.1 236 20 (by decide))
  have g209 : (σ173.1 236 20).toInt = (σ151.1 236 20).toInt := congrArg Int32.toInt (ho178.1 236 20 (by decide))
  exact j45 100000 _ z148 z150 (by omega) hG194 (onm.I (onm.I (onm.tr (onm.tr onm.rf (onm.mono ho156 (by decide))) (onm.mono ho178 (by decide))) (by decide)) (by decide)) hR195 (by omega) (by omega) (show (σ.1 236 11).toInt ≤ (σ173.1 236 11).toInt by omega) (show 1 ≤ (σ.1 236 13).toInt → 1 ≤ (σ173.1 236 13).toInt by omega) (show 0 ≤ (σ173.1 236 13).toInt by omega) (show (σ173.1 236 13).toInt ≤ 2 by omega) (show (σ173.1 236 11).toInt ≤ 400 by omega) (show (σ173.1 236 20).toInt = (σ.1 236 20).toInt by omega) (show z148.toInt = (5 * (σ.1 236 19).toInt + (σ.1 249 (σ.1 236 19).toInt.toNat).toInt) by omega) (by rw [show (5 * (σ.1 236 19).toInt + (σ.1 249 (σ.1 236 19).toInt.toNat).toInt).toNat = n192 by omega]; show 1 ≤ ((hI (hI σ173 251 n186 z172) 250 n192 z190).1 250 n192).toInt ∧ ((hI (hI σ173 251 n186 z172) 250 n192 z190).1 250 n192).toInt ≤ 8; rw [hI_s]; omega) (fun p hp => (show (hI (hI σ173 251 n186 z172) 250 n192 z190).1 250 p = σ.1 250 p from ((hI_n (by omega)).trans ((congrFun (hI_o (by decide)) p).trans ((congrFun (ho178.a (i := 250) (by decide)) p).trans (congrFun (ho156.a (i := 250) (by decide)) p)))))) (show (hI (hI σ173 251 n186 z172) 250 n192 z190).1 249 = σ.1 249 from ((hI_o (by decide)).trans ((hI_o (by decide)).trans ((ho178.a (i := 249) (by decide)).trans (ho156.a (i := 249) (by decide))))))

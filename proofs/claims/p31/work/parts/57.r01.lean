theorem wF_236_43 {σ : HS} {v : Int32} (h : GIm σ) (h1 : 0 ≤ v.toInt) (h2 : v.toInt ≤ 40) : GIm (hI σ 236 43 v) := GIm.I h (hFm_of (L := [(236, 43, 0, 40)]) (by decide) (fun q hq => by simp only [List.mem_cons, List.not_mem_nil, or_false] at hq; subst hq; exact ⟨h1, h2⟩)) (hAm_of (L := []) (by decide) (fun _ h => absurd h List.not_mem_nil))
theorem bF_236_12 {σ : HS} (h : GIm σ) : 0 ≤ (σ.1 236 12).toInt ∧ (σ.1 236 12).toInt ≤ 7 := h.1 (236, 12, 0, 7) (by decide)
theorem bF_236_43 {σ : HS} (h : GIm σ) : 0 ≤ (σ.1 236 43).toInt ∧ (σ.1 236 43).toInt ≤ 40 := h.1 (236, 43, 0, 40) (by decide)
theorem wF_236_12 {σ : HS} {v : Int32} (h : GIm σ) (h1 : 0 ≤ v.toInt) (h2 : v.toInt ≤ 7) : GIm (hI σ 236 12 v) := GIm.I h (hFm_of (L := [(236, 12, 0, 7)]) (by decide) (fun q hq => by simp only [List.mem_cons, List.not_mem_nil, or_false] at hq; subst hq; exact ⟨h1, h2⟩)) (hAm_of (L := []) (by decide) (fun _ h => absurd h List.not_mem_nil))
theorem nof_263 : ∀ q ∈ bdFm, ¬ q.1 = 263 := by decide
theorem wA_263 {σ : HS} {v : Int32} {j : Nat} (h : GIm σ) : GIm (hI σ 263 j v) := GIm.I h (fun q hq e1 _ => absurd e1 (nof_263 q hq)) (hAm_of (L := []) (by decide) (fun _ h => absurd h List.not_mem_nil))
theorem nof_259 : ∀ q ∈ bdFm, ¬ q.1 = 259 := by decide
theorem wA_259 {σ : HS} {v : Int32} {j : Nat} (h : GIm σ) : GIm (hI σ 259 j v) := GIm.I h (fun q hq e1 _ => absurd e1 (nof_259 q hq)) (hAm_of (L := []) (by decide) (fun _ h => absurd h List.not_mem_nil))
theorem nof_260 : ∀ q ∈ bdFm, ¬ q.1 = 260 := by decide
theorem wA_260 {σ : HS} {v : Int32} {j : Nat} (h : GIm σ) : GIm (hI σ 260 j v) := GIm.I h (fun q hq e1 _ => absurd e1 (nof_260 q hq)) (hAm_of (L := []) (by decide) (fun _ h => absurd h List.not_mem_nil))
theorem wF_236_33 {σ : HS} {v : Int32} (h : GIm σ) : GIm (hI σ 236 33 v) := GIm.I h (hFm_of (L := []) (by decide) (fun _ h => absurd h List.not_mem_nil)) (hAm_of (L := []) (by decide) (fun _ h => absurd h List.not_mem_nil))
theorem nof_256 : ∀ q ∈ bdFm, ¬ q.1 = 256 := by decide
theorem wA_256 {σ : HS} {v : Int32} {j : Nat} (h : GIm σ) : GIm (hI σ 256 j v) := GIm.I h (fun q hq e1 _ => absurd e1 (nof_256 q hq)) (hAm_of (L := []) (by decide) (fun _ h => absurd h List.not_mem_nil))
theorem nof_257 : ∀ q ∈ bdFm, ¬ q.1 = 257 := by decide
theorem wA_257 {σ : HS} {v : Int32} {j : Nat} (h : GIm σ) : GIm (hI σ 257 j v) := GIm.I h (fun q hq e1 _ => absurd e1 (nof_257 q hq)) (hAm_of (L := []) (by decide) (fun _ h => absurd h List.not_mem_nil))
theorem nof_258 : ∀ q ∈ bdFm, ¬ q.1 = 258 := by decide
theorem wA_258 {σ : HS} {v : Int32} {j : Nat} (h : GIm σ) : GIm (hI σ 258 j v) := GIm.I h (fun q hq e1 _ => absurd e1 (nof_258 q hq)) (hAm_of (L := []) (by decide) (fun _ h => absurd h List.not_mem_nil))
theorem dX12_comesOut_0 : decode cX12_comesOut 0 = .ok (.aload_n 0, 1) := by decide +kernel
theorem dX12_comesOut_1 : decode cX12_comesOut 1 = .ok (.getfield 284, 3) := by decide +kernel
theorem dX12_comesOut_4 : decode cX12_comesOut 4 = .ok (.ifCond .le 87, 3) := by decide +kernel
theorem dX12_comesOut_7 : decode cX12_comesOut 7 = .ok (.aload_n 0, 1) := by decide +kernel
theorem dX12_comesOut_8 : decode cX12_comesOut 8 = .ok (.getfield 98, 3) := by decide +kernel
theorem dX12_comesOut_11 : decode cX12_comesOut 11 = .ok (.aload_n 0, 1) := by decide +kernel
theorem dX12_comesOut_12 : decode cX12_comesOut 12 = .ok (.getfield 284, 3) := by decide +kernel
theorem dX12_comesOut_15 : decode cX12_comesOut 15 = .ok (.iconst 1, 1) := by decide +kernel
theorem dX12_comesOut_16 : decode cX12_comesOut 16 = .ok (.isub, 1) := by decide +kernel
theorem dX12_comesOut_17 : decode cX12_comesOut 17 = .ok (.iaload, 1) := by decide +kernel
theorem dX12_comesOut_18 : decode cX12_comesOut 18 = .ok (.istore_n 2, 1) := by decide +kernel
theorem dX12_comesOut_19 : decode cX12_comesOut 19 = .ok (.iload_n 2, 1) := by decide +kernel
theorem dX12_comesOut_20 : decode cX12_comesOut 20 = .ok (.bipush 6, 2) := by decide +kernel
theorem dX12_comesOut_22 : decode cX12_comesOut 22 = .ok (.if_icmp .eq 19, 3) := by decide +kernel
theorem dX12_comesOut_25 : decode cX12_comesOut 25 = .ok (.iload_n 1, 1) := by decide +kernel
theorem dX12_comesOut_26 : decode cX12_comesOut 26 = .ok (.ifCond .eq 16, 3) := by decide +kernel
theorem dX12_comesOut_29 : decode cX12_comesOut 29 = .ok (.iload_n 2, 1) := by decide +kernel
theorem dX12_comesOut_30 : decode cX12_comesOut 30 = .ok (.bipush 8, 2) := by decide +kernel
theorem dX12_comesOut_32 : decode cX12_comesOut 32 = .ok (.if_icmp .eq 9, 3) := by decide +kernel
theorem dX12_comesOut_35 : decode cX12_comesOut 35 = .ok (.iload_n 2, 1) := by decide +kernel
theorem dX12_comesOut_36 : decode cX12_comesOut 36 = .ok (.bipush 9, 2) := by decide +kernel
theorem dX12_comesOut_38 : decode cX12_comesOut 38 = .ok (.if_icmp .ne 4, 3) := by decide +kernel
theorem dX12_comesOut_41 : decode cX12_comesOut 41 = .ok (.return_, 1) := by decide +kernel
theorem dX12_comesOut_42 : decode cX12_comesOut 42 = .ok (.aload_n 0, 1) := by decide +kernel
theorem dX12_comesOut_43 : decode cX12_comesOut 43 = .ok (.dup, 1) := by decide +kernel
theorem dX12_comesOut_44 : decode cX12_comesOut 44 = .ok (.getfield 284, 3) := by decide +kernel
theorem dX12_comesOut_47 : decode cX12_comesOut 47 = .ok (.iconst 1, 1) := by decide +kernel
theorem dX12_comesOut_48 : decode cX12_comesOut 48 = .ok (.isub, 1) := by decide +kernel
theorem dX12_comesOut_49 : decode cX12_comesOut 49 = .ok (.putfield 284, 3) := by decide +kernel
theorem dX12_comesOut_52 : decode cX12_comesOut 52 = .ok (.aload_n 0, 1) := by decide +kernel
theorem dX12_comesOut_53 : decode cX12_comesOut 53 = .ok (.iload_n 2, 1) := by decide +kernel
theorem dX12_comesOut_54 : decode cX12_comesOut 54 = .ok (.bipush 8, 2) := by decide +kernel
theorem dX12_comesOut_56 : decode cX12_comesOut 56 = .ok (.if_icmp .ne 7, 3) := by decide +kernel
theorem dX12_comesOut_59 : decode cX12_comesOut 59 = .ok (.iconst 2, 1) := by decide +kernel
theorem dX12_comesOut_60 : decode cX12_comesOut 60 = .ok (.goto 24, 3) := by decide +kernel
theorem dX12_comesOut_63 : decode cX12_comesOut 63 = .ok (.iload_n 2, 1) := by decide +kernel
theorem dX12_comesOut_64 : decode cX12_comesOut 64 = .ok (.bipush 9, 2) := by decide +kernel
theorem dX12_comesOut_66 : decode cX12_comesOut 66 = .ok (.if_icmp .ne 7, 3) := by decide +kernel
theorem dX12_comesOut_69 : decode cX12_comesOut 69 = .ok (.iconst 3, 1) := by decide +kernel
theorem dX12_comesOut_70 : decode cX12_comesOut 70 = .ok (.goto 14, 3) := by decide +kernel
theorem dX12_comesOut_73 : decode cX12_comesOut 73 = .ok (.iload_n 2, 1) := by decide +kernel
theorem dX12_comesOut_74 : decode cX12_comesOut 74 = .ok (.bipush 10, 2) := by decide +kernel
theorem dX12_comesOut_76 : decode cX12_comesOut 76 = .ok (.if_icmp .ne 7, 3) := by decide +kernel
theorem dX12_comesOut_79 : decode cX12_comesOut 79 = .ok (.iconst 4, 1) := by decide +kernel
theorem dX12_comesOut_80 : decode cX12_comesOut 80 = .ok (.goto 4, 3) := by decide +kernel
theorem dX12_comesOut_83 : decode cX12_comesOut 83 = .ok (.iconst 5, 1) := by decide +kernel
theorem dX12_comesOut_84 : decode cX12_comesOut 84 = .ok (.iconst 0, 1) := by decide +kernel
theorem dX12_comesOut_85 : decode cX12_comesOut 85 = .ok (.invokevirtual 287, 3) := by decide +kernel
theorem dX12_comesOut_88 : decode cX12_comesOut 88 = .ok (.goto (-88), 3) := by decide +kernel
theorem dX12_comesOut_91 : decode cX12_comesOut 91 = .ok (.return_, 1) := by decide +kernel
set_option maxHeartbeats 4000000 in
set_option maxRecDepth 100000 in
theorem S_X12_comesOut_236 {l : Launch} {D : va_G} {ids : List Nat} {ad : Nat → Nat} {ca : Nat → ClassId} {σ : HS} {s0 : HS} {u : Nat} {bs : Int} {x1 : Int32} (hid : ∀ i, i < 277 → i ∈ ids) (hG : GIm σ) {s : HS} (hR : AGm s σ) (hx1 : 0 ≤ x1.toInt ∧ x1.toInt ≤ 1) (hp0 : (σ.1 236 19).toInt + (s.1 236 18).toInt = 1) (hp1 : EXg s0 (σ.1 236 43).toInt u bs 1 σ) (hp2 : 420 * (σ.1 236 19).toInt ≤ (u : Int)) (hp3 : (σ.1 236 39).toInt + (σ.1 236 43).toInt - (σ.1 236 12).toInt + bs ≤ 420 * (σ.1 236 19).toInt + 419) : Kv l D ids ad ca yX12_comesOut cX12_comesOut 3 1 22 [.ref (ad 236), .int x1] σ (fun σ1 => (GIm σ1) ∧ (onm [261, 262, 1039, 1043] σ σ1) ∧ (AGm s σ1) ∧ ((σ1.1 236 43).toInt ≤ (σ.1 236 43).toInt) ∧ ((σ1.1 236 39).toInt + (σ1.1 236 43).toInt = (σ.1 236 39).toInt + (σ.1 236 43).toInt) ∧ (EXg s0 (σ1.1 236 43).toInt u bs 1 σ1) ∧ (tcc (σ1.1 263) (σ1.1 236 43).toInt.toNat ≤ x1.toInt)) := by
  refine Kv.of (by decide) (Nat.le_of_ble_eq_true rfl) 1 (fun Γ C Rt => ?_)
  show AW ids ad ca Γ 0 [some (.ref (ad 236)), some (.int x1), none] [] σ
  have j0 : ∀ (d0 : Nat) (σq0 : HS), (σq0.1 236 43).toInt < d0 → GIm σq0 → onm [261, 262, 1039, 1043] σ σq0 → AGm s σq0 → ((σq0.1 236 43).toInt ≤ (σ.1 236 43).toInt) → (0 ≤ (σq0.1 236 43).toInt) → ((σq0.1 236 39).toInt + (σq0.1 236 43).toInt = (σ.1 236 39).toInt + (σ.1 236 43).toInt) → (EXg s0 (σq0.1 236 43).toInt u bs 1 σq0) → AW ids ad ca Γ 0 [some (.ref (ad 236)), some (.int x1), none] [] σq0 := by
    intro d0
    induction d0 with
    | zero =>
      intro σq0 hd0 hGq0 hoq0 hRq0 hx0_0 hx0_1 hx0_2 hx0_3
      exfalso
      omega
    | succ d0 ih0 =>
      intro σq0 hd0 hGq0 hoq0 hRq0 hx0_0 hx0_1 hx0_2 hx0_3
      have j84 : ∀ (σq84 : HS) (u84_0 : Int32), GIm σq84 → onm [261, 262, 1039, 1043] σ σq84 → AGm s σq84 → 2 ≤ u84_0.toInt ∧ u84_0.toInt ≤ 5 → (0 ≤ (σq84.1 236 43).toInt) → ((σq84.1 236 43).toInt + 1 = (σq0.1 236 43).toInt) → ((σq84.1 236 39).toInt = (σq0.1 236 39).toInt) → ((σq84.1 263 (σq84.1 236 43).toInt.toNat).toInt ≠ 6) → (EXg s0 ((σq84.1 236 43).toInt + 1) u bs 1 σq84) → AW ids ad ca Γ 84 [some (.ref (ad 236)), some (.int x1), none] [.int u84_0, .ref (ad 236)] σq84 := by
        intro σq84 u84_0 hGq84 hoq84 hRq84 hx84_0 hx84_1 hx84_2 hx84_3 hx84_4 hx84_5
        have g1 := bF_236_12 hGq84
        have g2 : (σq84.1 236 12).toInt = (σ.1 236 12).toInt := congrArg Int32.toInt (hoq84.1 236 12 (by decide))
        have g3 := bF_236_43 hGq84
        have gE84 := EXg.rg hx84_5
        refine s_iconst C dX12_comesOut_84 (0) (by decide) (fun z4 h5 => ?_)
        have g9 := bF_236_19 hGq84
        have g10 : (σq84.1 236 19).toInt = (σ.1 236 19).toInt := congrArg Int32.toInt (hoq84.1 236 19 (by decide))
        refine a_callVv C (i := 236) kd_236 (hid 236 (by decide)) ⟨_, _, rfl⟩ (by decide) (S_X12_emit_236 (x1 := u84_0) (x2 := z4) hid hGq84 hRq84 (by omega) (by omega) (by omega) (by omega)) mi_X12_emit ml_RX12_287 rfl rfl (Nat.le_of_ble_eq_true rfl) (Nat.le_of_ble_eq_true rfl) (Nat.le_of_ble_eq_true rfl) dX12_comesOut_85 (fun σ7 q8 => ?_)
        obtain ⟨hG11, ho12, hR13, w14, w15, w16⟩ := q8
        have g17 := bF_236_43 hG11
        have g18 : (σ7.1 236 43).toInt = (σq84.1 236 43).toInt := congrArg Int32.toInt (ho12.1 236 43 (by decide))
        have g19 := bF_236_12 hG11
        have g20 : (σ7.1 236 12).toInt = (σq84.1 236 12).toInt := congrArg Int32.toInt (ho12.1 236 12 (by decide))
        have hE85 := EXg.out (W1 := (σ7.1 236 43).toInt) hx84_5 (by omega) (by omega) (by rw [show (σ7.1 236 43).toInt.toNat = (σq84.1 236 43).toInt.toNat by omega]; exact hx84_4) (show σ7.1 263 = σq84.1 263 from (ho12.a (i := 263) (by decide))) (by omega) (by omega) w15 w16 (by omega)
        refine a_goto C dX12_comesOut_88 (tgt := 0) rfl ?_
        exact ih0 _ (by omega) hG11 (onm.tr hoq84 (onm.mono ho12 (by decide))) hR13 (show (σ7.1 236 43).toInt ≤ (σ.1 236 43).toInt by omega) (show 0 ≤ (σ7.1 236 43).toInt by omega) (show (σ7.1 236 39).toInt + (σ7.1 236 43).toInt = (σ.1 236 39).toInt + (σ.1 236 43).toInt by omega) (EXg.W hE85 (by omega))
      have j42 : ∀ (σq42 : HS) (y42_2 : Int32), GIm σq42 → onm [261, 262, 1039, 1043] σ σq42 → AGm s σq42 → (1 ≤ (σq42.1 236 43).toInt) → ((σq42.1 236 43).toInt = (σq0.1 236 43).toInt) → ((σq42.1 236 39).toInt = (σq0.1 236 39).toInt) → (y42_2.toInt = 8 ∨ y42_2.toInt = 9 ∨ y42_2.toInt = 10 ∨ y42_2.toInt = 15) → ((σq42.1 263 ((σq42.1 236 43).toInt - 1).toNat).toInt ≠ 6) → (EXg s0 (σq42.1 236 43).toInt u bs 1 σq42) → AW ids ad ca Γ 42 [some (.ref (ad 236)), some (.int x1), some (.int y42_2)] [] σq42 := by
        intro σq42 y42_2 hGq42 hoq42 hRq42 hx42_0 hx42_1 hx42_2 hx42_3 hx42_4 hx42_5
        have g21 := bF_236_12 hGq42
        have g22 : (σq42.1 236 12).toInt = (σ.1 236 12).toInt := congrArg Int32.toInt (hoq42.1 236 12 (by decide))
        have g23 := bF_236_43 hGq42
        have gE42 := EXg.rg hx42_5
        refine a_aload_n C dX12_comesOut_42 (i := 0) rfl rfl ?_
        refine a_dup C dX12_comesOut_43 rfl ?_
        refine a_get C fl_RX12_284 (i := 236) kd_236 (hid 236 (by decide)) (v := .int (σq42.1 236 43)) rfl dX12_comesOut_44 ?_
        refine s_iconst C dX12_comesOut_47 (1) (by decide) (fun z24 h25 => ?_)
        refine s_isub C dX12_comesOut_48 (by omega) (fun z26 h27 => ?_)
        refine a_put C fp_RX12_284 (i := 236) kd_236 (hid 236 (by decide)) rfl rfl dX12_comesOut_49 ?_
        have hG28 := wF_236_43 (v := z26) hGq42 (by omega) (by omega)
        have hR29 := AGm.ony (σ1 := hI _ 236 43 z26) hRq42 (onm.F (L := [1043]) onm.rf (by decide)) (by decide)
        have hE30 := EXg.ony (σ1 := hI _ 236 43 z26) hx42_5 (onm.F (L := [1043]) onm.rf (by decide)) (by decide)
        refine a_aload_n C dX12_comesOut_52 (i := 0) rfl rfl ?_
        refine a_iload_n C dX12_comesOut_53 (i := 2) rfl rfl ?_
        refine s_bipush C dX12_comesOut_54 (8) (by decide) (fun z31 h32 => ?_)
        refine s_ic_ne C dX12_comesOut_56 (tgt := 63) rfl (fun c33 => ?_) (fun c33 => ?_)
        ·
          refine a_iload_n C dX12_comesOut_63 (i := 2) rfl rfl ?_
          refine s_bipush C dX12_comesOut_64 (9) (by decide) (fun z34 h35 => ?_)
          refine s_ic_ne C dX12_comesOut_66 (tgt := 73) rfl (fun c36 => ?_) (fun c36 => ?_)
          ·
            refine a_iload_n C dX12_comesOut_73 (i := 2) rfl rfl ?_
            refine s_bipush C dX12_comesOut_74 (10) (by decide) (fun z37 h38 => ?_)
            refine s_ic_ne C dX12_comesOut_76 (tgt := 83) rfl (fun c39 => ?_) (fun c39 => ?_)
            ·
              refine s_iconst C dX12_comesOut_83 (5) (by decide) (fun z40 h41 => ?_)
              have g42 : ((hI σq42 236 43 z26).1 236 43).toInt = z26.toInt := congrArg Int32.toInt rfl
              have g43 : ((hI σq42 236 43 z26).1 236 43).toInt = z26.toInt := congrArg Int32.toInt rfl
              refine AW.sub (vs' := [some (.ref (ad 236)), some (.int x1), none]) (lsub_of (by simp [lsubB])) ?_
              exact j84 _ z40 hG28 (onm.F hoq42 (by decide)) hR29 (by omega) (show 0 ≤ z26.toInt by omega) (show z26.toInt + 1 = (σq0.1 236 43).toInt by omega) (show (σq42.1 236 39).toInt = (σq0.1 236 39).toInt by omega) (by rw [show ((hI σq42 236 43 z26).1 236 43).toInt.toNat = ((σq42.1 236 43).toInt - 1).toNat by omega]; exact hx42_4) (EXg.W hE30 (by omega))
            ·
              refine s_iconst C dX12_comesOut_79 (4) (by decide) (fun z44 h45 => ?_)
              refine a_goto C dX12_comesOut_80 (tgt := 84) rfl ?_
              have g46 : ((hI σq42 236 43 z26).1 236 43).toInt = z26.toInt := congrArg Int32.toInt rfl
              have g47 : ((hI σq42 236 43 z26).1 236 43).toInt = z26.toInt := congrArg Int32.toInt rfl
              refine AW.sub (vs' := [some (.ref (ad 236)), some (.int x1), none]) (lsub_of (by simp [lsubB])) ?_
              exact j84 _ z44 hG28 (onm.F hoq42 (by decide)) hR29 (by omega) (show 0 ≤ z26.toInt by omega) (show z26.toInt + 1 = (σq0.1 236 43).toInt by omega) (show (σq42.1 236 39).toInt = (σq0.1 236 39).toInt by omega) (by rw [show ((hI σq42 236 43 z26).1 236 43).toInt.toNat = ((σq42.1 236 43).toInt - 1).toNat by omega]; exact hx42_4) (EXg.W hE30 (by omega))
          ·
            refine s_iconst C dX12_comesOut_69 (3) (by decide) (fun z48 h49 => ?_)
            refine a_goto C dX12_comesOut_70 (tgt := 84) rfl ?_
            have g50 : ((hI σq42 236 43 z26).1 236 43).toInt = z26.toInt := congrArg Int32.toInt rfl
            have g51 : ((hI σq42 236 43 z26).1 236 43).toInt = z26.toInt := congrArg Int32.toInt rfl
            refine AW.sub (vs' := [some (.ref (ad 236)), some (.int x1), none]) (lsub_of (by simp [lsubB])) ?_
            exact j84 _ z48 hG28 (onm.F hoq42 (by decide)) hR29 (by omega) (show 0 ≤ z26.toInt by omega) (show z26.toInt + 1 = (σq0.1 236 43).toInt by omega) (show (σq42.1 236 39).toInt = (σq0.1 236 39).toInt by omega) (by rw [show ((hI σq42 236 43 z26).1 236 43).toInt.toNat = ((σq42.1 236 43).toInt - 1).toNat by omega]; exact hx42_4) (EXg.W hE30 (by omega))
        ·
          refine s_iconst C dX12_comesOut_59 (2) (by decide) (fun z52 h53 => ?_)
          refine a_goto C dX12_comesOut_60 (tgt := 84) rfl ?_
          have g54 : ((hI σq42 236 43 z26).1 236 43).toInt = z26.toInt := congrArg Int32.toInt rfl
          have g55 : ((hI σq42 236 43 z26).1 236 43).toInt = z26.toInt := congrArg Int32.toInt rfl
          refine AW.sub (vs' := [some (.ref (ad 236)), some (.int x1), none]) (lsub_of (by simp [lsubB])) ?_
          exact j84 _ z52 hG28 (onm.F hoq42 (by decide)) hR29 (by omega) (show 0 ≤ z26.toInt by omega) (show z26.toInt + 1 = (σq0.1 236 43).toInt by omega) (show (σq42.1 236 39).toInt = (σq0.1 236 39).toInt by omega) (by rw [show ((hI σq42 236 43 z26).1 236 43).toInt.toNat = ((σq42.1 236 43).toInt - 1).toNat by omega]; exact hx42_4) (EXg.W hE30 (by omega))
      have g56 := bF_236_12 hGq0
      have g57 : (σq0.1 236 12).toInt = (σ.1 236 12).toInt := congrArg Int32.toInt (hoq0.1 236 12 (by decide))
      have g58 := bF_236_43 hGq0
      have gsd := bF_236_19 hG
      have gop := bF_236_12 hG
      have gE0 := EXg.rg hx0_3
      refine a_aload_n C dX12_comesOut_0 (i := 0) rfl rfl ?_
      refine a_get C fl_RX12_284 (i := 236) kd_236 (hid 236 (by decide)) (v := .int (σq0.1 236 43)) rfl dX12_comesOut_1 ?_
      refine s_if_le C dX12_comesOut_4 (tgt := 91) rfl (fun c59 => ?_) (fun c59 => ?_)
      ·
        exact a_vret Rt dX12_comesOut_91 (⟨hGq0, hoq0, hRq0, (show (σq0.1 236 43).toInt ≤ (σ.1 236 43).toInt by intros; omega), (show (σq0.1 236 39).toInt + (σq0.1 236 43).toInt = (σ.1 236 39).toInt + (σ.1 236 43).toInt by intros; omega), (EXg.W hx0_3 (by omega)), (tcc_le (W := (σq0.1 236 43).toInt) (Or.inl (by omega)) (by omega))⟩)
      ·
        refine a_aload_n C dX12_comesOut_7 (i := 0) rfl rfl ?_
        refine a_get C fl_RX12_98 (i := 236) kd_236 (hid 236 (by decide)) (v := .ref (ad 263)) rfl dX12_comesOut_8 ?_
        refine a_aload_n C dX12_comesOut_11 (i := 0) rfl rfl ?_
        refine a_get C fl_RX12_284 (i := 236) kd_236 (hid 236 (by decide)) (v := .int (σq0.1 236 43)) rfl dX12_comesOut_12 ?_
        refine s_iconst C dX12_comesOut_15 (1) (by decide) (fun z60 h61 => ?_)
        refine s_isub C dX12_comesOut_16 (by omega) (fun z62 h63 => ?_)
        refine s_iald C (i := 263) kd_263 (hid 263 (by decide)) al_263 (by omega) (by omega) dX12_comesOut_17 (fun n64 h65 => ?_)
        refine s_val (fun z66 e67 => ?_)
        have gz : (σq0.1 263 ((σq0.1 236 43).toInt - 1).toNat).toInt = z66.toInt := congrArg Int32.toInt (by rw [show ((σq0.1 236 43).toInt - 1).toNat = n64 by omega]; exact e67)
        have gk := hx0_3.2.1 n64 (by omega)
        rw [e67] at gk
        refine a_istore_n C dX12_comesOut_18 (i := 2) rfl (by decide) rfl (vs1 := [some (.ref (ad 236)), some (.int x1), some (.int z66)]) rfl ?_
        refine a_iload_n C dX12_comesOut_19 (i := 2) rfl rfl ?_
        refine s_bipush C dX12_comesOut_20 (6) (by decide) (fun z68 h69 => ?_)
        refine s_ic_eq C dX12_comesOut_22 (tgt := 41) rfl (fun c70 => ?_) (fun c70 => ?_)
        ·
          exact a_vret Rt dX12_comesOut_41 (⟨hGq0, hoq0, hRq0, (show (σq0.1 236 43).toInt ≤ (σ.1 236 43).toInt by intros; omega), (show (σq0.1 236 39).toInt + (σq0.1 236 43).toInt = (σ.1 236 39).toInt + (σ.1 236 43).toInt by intros; omega), (EXg.W hx0_3 (by omega)), (tcc_le (W := (σq0.1 236 43).toInt) (Or.inr ⟨by omega, by omega⟩) (by omega))⟩)
        ·
          refine a_iload_n C dX12_comesOut_25 (i := 1) rfl rfl ?_
          refine s_if_eq C dX12_comesOut_26 (tgt := 42) rfl (fun c71 => ?_) (fun c71 => ?_)
          ·
            exact j42 _ z66 hGq0 hoq0 hRq0 (show 1 ≤ (σq0.1 236 43).toInt by omega) (show (σq0.1 236 43).toInt = (σq0.1 236 43).toInt by omega) (show (σq0.1 236 39).toInt = (σq0.1 236 39).toInt by omega) (show z66.toInt = 8 ∨ z66.toInt = 9 ∨ z66.toInt = 10 ∨ z66.toInt = 15 by omega) (show (σq0.1 263 ((σq0.1 236 43).toInt - 1).toNat).toInt ≠ 6 by omega) (EXg.W hx0_3 (by omega))
          ·
            refine a_iload_n C dX12_comesOut_29 (i := 2) rfl rfl ?_
            refine s_bipush C dX12_comesOut_30 (8) (by decide) (fun z72 h73 => ?_)
            refine s_ic_eq C dX12_comesOut_32 (tgt := 41) rfl (fun c74 => ?_) (fun c74 => ?_)
            ·
              exact a_vret Rt dX12_comesOut_41 (⟨hGq0, hoq0, hRq0, (show (σq0.1 236 43).toInt ≤ (σ.1 236 43).toInt by intros; omega), (show (σq0.1 236 39).toInt + (σq0.1 236 43).toInt = (σ.1 236 39).toInt + (σ.1 236 43).toInt by intros; omega), (EXg.W hx0_3 (by omega)), (tcc_le (W := (σq0.1 236 43).toInt) (Or.inr ⟨by omega, by omega⟩) (by omega))⟩)
            ·
              refine a_iload_n C dX12_comesOut_35 (i := 2) rfl rfl ?_
              refine s_bipush C dX12_comesOut_36 (9) (by decide) (fun z75 h76 => ?_)
              refine s_ic_ne C dX12_comesOut_38 (tgt := 42) rfl (fun c77 => ?_) (fun c77 => ?_)
              ·
                exact j42 _ z66 hGq0 hoq0 hRq0 (show 1 ≤ (σq0.1 236 43).toInt by omega) (show (σq0.1 236 43).toInt = (σq0.1 236 43).toInt by omega) (show (σq0.1 236 39).toInt = (σq0.1 236 39).toInt by omega) (show z66.toInt = 8 ∨ z66.toInt = 9 ∨ z66.toInt = 10 ∨ z66.toInt = 15 by omega) (show (σq0.1 263 ((σq0.1 236 43).toInt - 1).toNat).toInt ≠ 6 by omega) (EXg.W hx0_3 (by omega))
              ·
                exact a_vret Rt dX12_comesOut_41 (⟨hGq0, hoq0, hRq0, (show (σq0.1 236 43).toInt ≤ (σ.1 236 43).toInt by intros; omega), (show (σq0.1 236 39).toInt + (σq0.1 236 43).toInt = (σ.1 236 39).toInt + (σ.1 236 43).toInt by intros; omega), (EXg.W hx0_3 (by omega)), (tcc_le (W := (σq0.1 236 43).toInt) (Or.inr ⟨by omega, by omega⟩) (by omega))⟩)
  have g78 := bF_236_43 hG
  exact j0 100000 _ (by omega) hG onm.rf hR (show (σ.1 236 43).toInt ≤ (σ.1 236 43).toInt by omega) (show 0 ≤ (σ.1 236 43).toInt by omega) (show (σ.1 236 39).toInt + (σ.1 236 43).toInt = (σ.1 236 39).toInt + (σ.1 236 43).toInt by omega) hp1
theorem dX12_expression_0 : decode cX12_expression 0 = .ok (.aload_n 0, 1) := by decide +kernel
theorem dX12_expression_1 : decode cX12_expression 1 = .ok (.iconst 0, 1) := by decide +kernel
theorem dX12_expression_2 : decode cX12_expression 2 = .ok (.putfield 284, 3) := by decide +kernel
theorem dX12_expression_5 : decode cX12_expression 5 = .ok (.aload_n 0, 1) := by decide +kernel
theorem dX12_expression_6 : decode cX12_expression 6 = .ok (.getfield 218, 3) := by decide +kernel
theorem dX12_expression_9 : decode cX12_expression 9 = .ok (.istore_n 1, 1) := by decide +kernel
theorem dX12_expression_10 : decode cX12_expression 10 = .ok (.iconst 1, 1) := by decide +kernel
theorem dX12_expression_11 : decode cX12_expression 11 = .ok (.istore_n 2, 1) := by decide +kernel
theorem dX12_expression_12 : decode cX12_expression 12 = .ok (.iload_n 2, 1) := by decide +kernel
theorem dX12_expression_13 : decode cX12_expression 13 = .ok (.ifCond .eq 259, 3) := by decide +kernel
theorem dX12_expression_16 : decode cX12_expression 16 = .ok (.aload_n 0, 1) := by decide +kernel
theorem dX12_expression_17 : decode cX12_expression 17 = .ok (.getfield 191, 3) := by decide +kernel
theorem dX12_expression_20 : decode cX12_expression 20 = .ok (.ifCond .ne 252, 3) := by decide +kernel
theorem dX12_expression_23 : decode cX12_expression 23 = .ok (.aload_n 0, 1) := by decide +kernel
theorem dX12_expression_24 : decode cX12_expression 24 = .ok (.bipush 6, 2) := by decide +kernel
theorem dX12_expression_26 : decode cX12_expression 26 = .ok (.invokevirtual 209, 3) := by decide +kernel
theorem dX12_expression_29 : decode cX12_expression 29 = .ok (.ifCond .eq 55, 3) := by decide +kernel
theorem dX12_expression_32 : decode cX12_expression 32 = .ok (.aload_n 0, 1) := by decide +kernel
theorem dX12_expression_33 : decode cX12_expression 33 = .ok (.getfield 218, 3) := by decide +kernel
theorem dX12_expression_36 : decode cX12_expression 36 = .ok (.bipush 6, 2) := by decide +kernel
theorem dX12_expression_38 : decode cX12_expression 38 = .ok (.if_icmp .ne 8, 3) := by decide +kernel
theorem dX12_expression_41 : decode cX12_expression 41 = .ok (.aload_n 0, 1) := by decide +kernel
theorem dX12_expression_42 : decode cX12_expression 42 = .ok (.iconst 2, 1) := by decide +kernel
theorem dX12_expression_43 : decode cX12_expression 43 = .ok (.invokevirtual 206, 3) := by decide +kernel
theorem dX12_expression_46 : decode cX12_expression 46 = .ok (.aload_n 0, 1) := by decide +kernel
theorem dX12_expression_47 : decode cX12_expression 47 = .ok (.dup, 1) := by decide +kernel
theorem dX12_expression_48 : decode cX12_expression 48 = .ok (.getfield 218, 3) := by decide +kernel
theorem dX12_expression_51 : decode cX12_expression 51 = .ok (.iconst 1, 1) := by decide +kernel
theorem dX12_expression_52 : decode cX12_expression 52 = .ok (.iadd, 1) := by decide +kernel
theorem dX12_expression_53 : decode cX12_expression 53 = .ok (.putfield 218, 3) := by decide +kernel
theorem dX12_expression_56 : decode cX12_expression 56 = .ok (.aload_n 0, 1) := by decide +kernel
theorem dX12_expression_57 : decode cX12_expression 57 = .ok (.invokevirtual 212, 3) := by decide +kernel
theorem dX12_expression_60 : decode cX12_expression 60 = .ok (.aload_n 0, 1) := by decide +kernel
theorem dX12_expression_61 : decode cX12_expression 61 = .ok (.getfield 98, 3) := by decide +kernel
theorem dX12_expression_64 : decode cX12_expression 64 = .ok (.aload_n 0, 1) := by decide +kernel
theorem dX12_expression_65 : decode cX12_expression 65 = .ok (.getfield 284, 3) := by decide +kernel
theorem dX12_expression_68 : decode cX12_expression 68 = .ok (.bipush 6, 2) := by decide +kernel
theorem dX12_expression_70 : decode cX12_expression 70 = .ok (.iastore, 1) := by decide +kernel
theorem dX12_expression_71 : decode cX12_expression 71 = .ok (.aload_n 0, 1) := by decide +kernel
theorem dX12_expression_72 : decode cX12_expression 72 = .ok (.dup, 1) := by decide +kernel
theorem dX12_expression_73 : decode cX12_expression 73 = .ok (.getfield 284, 3) := by decide +kernel
theorem dX12_expression_76 : decode cX12_expression 76 = .ok (.iconst 1, 1) := by decide +kernel
theorem dX12_expression_77 : decode cX12_expression 77 = .ok (.iadd, 1) := by decide +kernel
theorem dX12_expression_78 : decode cX12_expression 78 = .ok (.putfield 284, 3) := by decide +kernel
theorem dX12_expression_81 : decode cX12_expression 81 = .ok (.goto (-58), 3) := by decide +kernel
theorem dX12_expression_84 : decode cX12_expression 84 = .ok (.aload_n 0, 1) := by decide +kernel
theorem dX12_expression_85 : decode cX12_expression 85 = .ok (.invokevirtual 290, 3) := by decide +kernel
theorem dX12_expression_88 : decode cX12_expression 88 = .ok (.aload_n 0, 1) := by decide +kernel
theorem dX12_expression_89 : decode cX12_expression 89 = .ok (.getfield 191, 3) := by decide +kernel
theorem dX12_expression_92 : decode cX12_expression 92 = .ok (.ifCond .le 4, 3) := by decide +kernel
theorem dX12_expression_95 : decode cX12_expression 95 = .ok (.return_, 1) := by decide +kernel
theorem dX12_expression_96 : decode cX12_expression 96 = .ok (.aload_n 0, 1) := by decide +kernel
theorem dX12_expression_97 : decode cX12_expression 97 = .ok (.bipush 7, 2) := by decide +kernel
theorem dX12_expression_99 : decode cX12_expression 99 = .ok (.invokevirtual 209, 3) := by decide +kernel
theorem dX12_expression_102 : decode cX12_expression 102 = .ok (.ifCond .eq 43, 3) := by decide +kernel
theorem dX12_expression_105 : decode cX12_expression 105 = .ok (.aload_n 0, 1) := by decide +kernel
theorem dX12_expression_106 : decode cX12_expression 106 = .ok (.getfield 218, 3) := by decide +kernel
theorem dX12_expression_109 : decode cX12_expression 109 = .ok (.iload_n 1, 1) := by decide +kernel
theorem dX12_expression_110 : decode cX12_expression 110 = .ok (.if_icmp .le 35, 3) := by decide +kernel
theorem dX12_expression_113 : decode cX12_expression 113 = .ok (.aload_n 0, 1) := by decide +kernel
theorem dX12_expression_114 : decode cX12_expression 114 = .ok (.iconst 0, 1) := by decide +kernel
theorem dX12_expression_115 : decode cX12_expression 115 = .ok (.invokevirtual 293, 3) := by decide +kernel
theorem dX12_expression_118 : decode cX12_expression 118 = .ok (.aload_n 0, 1) := by decide +kernel
theorem dX12_expression_119 : decode cX12_expression 119 = .ok (.dup, 1) := by decide +kernel
theorem dX12_expression_120 : decode cX12_expression 120 = .ok (.getfield 284, 3) := by decide +kernel
theorem dX12_expression_123 : decode cX12_expression 123 = .ok (.iconst 1, 1) := by decide +kernel
theorem dX12_expression_124 : decode cX12_expression 124 = .ok (.isub, 1) := by decide +kernel
theorem dX12_expression_125 : decode cX12_expression 125 = .ok (.putfield 284, 3) := by decide +kernel
theorem dX12_expression_128 : decode cX12_expression 128 = .ok (.aload_n 0, 1) := by decide +kernel
theorem dX12_expression_129 : decode cX12_expression 129 = .ok (.dup, 1) := by decide +kernel
theorem dX12_expression_130 : decode cX12_expression 130 = .ok (.getfield 218, 3) := by decide +kernel
theorem dX12_expression_133 : decode cX12_expression 133 = .ok (.iconst 1, 1) := by decide +kernel
theorem dX12_expression_134 : decode cX12_expression 134 = .ok (.isub, 1) := by decide +kernel
theorem dX12_expression_135 : decode cX12_expression 135 = .ok (.putfield 218, 3) := by decide +kernel
theorem dX12_expression_138 : decode cX12_expression 138 = .ok (.aload_n 0, 1) := by decide +kernel
theorem dX12_expression_139 : decode cX12_expression 139 = .ok (.invokevirtual 212, 3) := by decide +kernel
theorem dX12_expression_142 : decode cX12_expression 142 = .ok (.goto (-46), 3) := by decide +kernel
theorem dX12_expression_145 : decode cX12_expression 145 = .ok (.aload_n 0, 1) := by decide +kernel
theorem dX12_expression_146 : decode cX12_expression 146 = .ok (.bipush 8, 2) := by decide +kernel
theorem dX12_expression_148 : decode cX12_expression 148 = .ok (.invokevirtual 209, 3) := by decide +kernel
theorem dX12_expression_151 : decode cX12_expression 151 = .ok (.ifCond .ne 30, 3) := by decide +kernel
theorem dX12_expression_154 : decode cX12_expression 154 = .ok (.aload_n 0, 1) := by decide +kernel
theorem dX12_expression_155 : decode cX12_expression 155 = .ok (.bipush 9, 2) := by decide +kernel
theorem dX12_expression_157 : decode cX12_expression 157 = .ok (.invokevirtual 209, 3) := by decide +kernel
theorem dX12_expression_160 : decode cX12_expression 160 = .ok (.ifCond .ne 21, 3) := by decide +kernel
theorem dX12_expression_163 : decode cX12_expression 163 = .ok (.aload_n 0, 1) := by decide +kernel
theorem dX12_expression_164 : decode cX12_expression 164 = .ok (.bipush 10, 2) := by decide +kernel
theorem dX12_expression_166 : decode cX12_expression 166 = .ok (.invokevirtual 209, 3) := by decide +kernel
theorem dX12_expression_169 : decode cX12_expression 169 = .ok (.ifCond .ne 12, 3) := by decide +kernel
theorem dX12_expression_172 : decode cX12_expression 172 = .ok (.aload_n 0, 1) := by decide +kernel
theorem dX12_expression_173 : decode cX12_expression 173 = .ok (.bipush 15, 2) := by decide +kernel
theorem dX12_expression_175 : decode cX12_expression 175 = .ok (.invokevirtual 209, 3) := by decide +kernel
theorem dX12_expression_178 : decode cX12_expression 178 = .ok (.ifCond .eq 7, 3) := by decide +kernel
theorem dX12_expression_181 : decode cX12_expression 181 = .ok (.iconst 1, 1) := by decide +kernel
theorem dX12_expression_182 : decode cX12_expression 182 = .ok (.goto 4, 3) := by decide +kernel
theorem dX12_expression_185 : decode cX12_expression 185 = .ok (.iconst 0, 1) := by decide +kernel
theorem dX12_expression_186 : decode cX12_expression 186 = .ok (.istore_n 2, 1) := by decide +kernel
theorem dX12_expression_187 : decode cX12_expression 187 = .ok (.iload_n 2, 1) := by decide +kernel
theorem dX12_expression_188 : decode cX12_expression 188 = .ok (.ifCond .ne 22, 3) := by decide +kernel
theorem dX12_expression_191 : decode cX12_expression 191 = .ok (.aload_n 0, 1) := by decide +kernel
theorem dX12_expression_192 : decode cX12_expression 192 = .ok (.getfield 218, 3) := by decide +kernel
theorem dX12_expression_195 : decode cX12_expression 195 = .ok (.iload_n 1, 1) := by decide +kernel
theorem dX12_expression_196 : decode cX12_expression 196 = .ok (.if_icmp .le 8, 3) := by decide +kernel
theorem dX12_expression_199 : decode cX12_expression 199 = .ok (.aload_n 0, 1) := by decide +kernel
theorem dX12_expression_200 : decode cX12_expression 200 = .ok (.iconst 1, 1) := by decide +kernel
theorem dX12_expression_201 : decode cX12_expression 201 = .ok (.invokevirtual 206, 3) := by decide +kernel
theorem dX12_expression_204 : decode cX12_expression 204 = .ok (.aload_n 0, 1) := by decide +kernel
theorem dX12_expression_205 : decode cX12_expression 205 = .ok (.iconst 0, 1) := by decide +kernel
theorem dX12_expression_206 : decode cX12_expression 206 = .ok (.invokevirtual 293, 3) := by decide +kernel
theorem dX12_expression_209 : decode cX12_expression 209 = .ok (.return_, 1) := by decide +kernel
theorem dX12_expression_210 : decode cX12_expression 210 = .ok (.aload_n 0, 1) := by decide +kernel
theorem dX12_expression_211 : decode cX12_expression 211 = .ok (.aload_n 0, 1) := by decide +kernel
theorem dX12_expression_212 : decode cX12_expression 212 = .ok (.bipush 10, 2) := by decide +kernel
theorem dX12_expression_214 : decode cX12_expression 214 = .ok (.invokevirtual 209, 3) := by decide +kernel
theorem dX12_expression_217 : decode cX12_expression 217 = .ok (.ifCond .ne 12, 3) := by decide +kernel
theorem dX12_expression_220 : decode cX12_expression 220 = .ok (.aload_n 0, 1) := by decide +kernel
theorem dX12_expression_221 : decode cX12_expression 221 = .ok (.bipush 15, 2) := by decide +kernel
theorem dX12_expression_223 : decode cX12_expression 223 = .ok (.invokevirtual 209, 3) := by decide +kernel
theorem dX12_expression_226 : decode cX12_expression 226 = .ok (.ifCond .eq 7, 3) := by decide +kernel
theorem dX12_expression_229 : decode cX12_expression 229 = .ok (.iconst 1, 1) := by decide +kernel
theorem dX12_expression_230 : decode cX12_expression 230 = .ok (.goto 4, 3) := by decide +kernel
theorem dX12_expression_233 : decode cX12_expression 233 = .ok (.iconst 0, 1) := by decide +kernel
theorem dX12_expression_234 : decode cX12_expression 234 = .ok (.invokevirtual 293, 3) := by decide +kernel
theorem dX12_expression_237 : decode cX12_expression 237 = .ok (.aload_n 0, 1) := by decide +kernel
theorem dX12_expression_238 : decode cX12_expression 238 = .ok (.getfield 98, 3) := by decide +kernel
theorem dX12_expression_241 : decode cX12_expression 241 = .ok (.aload_n 0, 1) := by decide +kernel
theorem dX12_expression_242 : decode cX12_expression 242 = .ok (.getfield 284, 3) := by decide +kernel
theorem dX12_expression_245 : decode cX12_expression 245 = .ok (.aload_n 0, 1) := by decide +kernel
theorem dX12_expression_246 : decode cX12_expression 246 = .ok (.getfield 20, 3) := by decide +kernel
theorem dX12_expression_249 : decode cX12_expression 249 = .ok (.aload_n 0, 1) := by decide +kernel
theorem dX12_expression_250 : decode cX12_expression 250 = .ok (.getfield 194, 3) := by decide +kernel
theorem dX12_expression_253 : decode cX12_expression 253 = .ok (.iaload, 1) := by decide +kernel
theorem dX12_expression_254 : decode cX12_expression 254 = .ok (.iastore, 1) := by decide +kernel
theorem dX12_expression_255 : decode cX12_expression 255 = .ok (.aload_n 0, 1) := by decide +kernel
theorem dX12_expression_256 : decode cX12_expression 256 = .ok (.dup, 1) := by decide +kernel
theorem dX12_expression_257 : decode cX12_expression 257 = .ok (.getfield 284, 3) := by decide +kernel
theorem dX12_expression_260 : decode cX12_expression 260 = .ok (.iconst 1, 1) := by decide +kernel
theorem dX12_expression_261 : decode cX12_expression 261 = .ok (.iadd, 1) := by decide +kernel
theorem dX12_expression_262 : decode cX12_expression 262 = .ok (.putfield 284, 3) := by decide +kernel
theorem dX12_expression_265 : decode cX12_expression 265 = .ok (.aload_n 0, 1) := by decide +kernel
theorem dX12_expression_266 : decode cX12_expression 266 = .ok (.invokevirtual 212, 3) := by decide +kernel
theorem dX12_expression_269 : decode cX12_expression 269 = .ok (.goto (-257), 3) := by decide +kernel
theorem dX12_expression_272 : decode cX12_expression 272 = .ok (.return_, 1) := by decide +kernel
set_option maxHeartbeats 4000000 in
set_option maxRecDepth 100000 in
theorem S_X12_expression_236 {l : Launch} {D : va_G} {ids : List Nat} {ad : Nat → Nat} {ca : Nat → ClassId} {σ : HS} (hid : ∀ i, i < 277 → i ∈ ids) (hG : GIm σ) {s : HS} (hR : AGm s σ) (hp0 : (σ.1 236 19).toInt + (s.1 236 18).toInt = 1) (hp1 : 420 * (σ.1 236 19).toInt ≤ (σ.1 236 39).toInt) (hp2 : (σ.1 236 39).toInt ≤ 420 * (σ.1 236 19).toInt + 412) (hp3 : (σ.1 236 13).toInt = 0 → (σ.1 236 39).toInt ≤ 420 * (σ.1 236 19).toInt + (σ.1 236 11).toInt) (hp4 : (σ.1 236 13).toInt = 0 → (σ.1 236 12).toInt ≤ 6) : Kv l D ids ad ca yX12_expression cX12_expression 3 3 61 [.ref (ad 236)] σ (fun σ1 => (GIm σ1) ∧ (onm [261, 262, 263, 1011, 1012, 1013, 1014, 1039, 1043] σ σ1) ∧ (AGm s σ1) ∧ ((σ.1 236 39).toInt ≤ (σ1.1 236 39).toInt) ∧ ((σ1.1 236 13).toInt = 0 → (σ1.1 236 39).toInt ≤ 420 * (σ.1 236 19).toInt + (σ1.1 236 11).toInt) ∧ ((σ1.1 236 39).toInt ≤ 420 * (σ.1 236 19).toInt + 412) ∧ ((σ.1 236 11).toInt ≤ (σ1.1 236 11).toInt) ∧ ((σ1.1 236 13).toInt = 0 → (σ.1 236 13).toInt = 0) ∧ ((σ1.1 236 13).toInt = 0 → (σ1.1 236 12).toInt = (σ.1 236 12).toInt) ∧ ((σ1.1 236 13).toInt = 0 → (σ.1 236 11).toInt + 1 ≤ (σ1.1 236 11).toInt) ∧ (EXh σ σ1)) := by
  refine Kv.of (by decide) (Nat.le_of_ble_eq_true rfl) 2 (fun Γ C Rt => ?_)
  show AW ids ad ca Γ 0 [some (.ref (ad 236)), none, none] [] σ
  have j204 : ∀ (σq204 : HS), GIm σq204 → onm [261, 262, 263, 1011, 1012, 1013, 1014, 1039, 1043] σ σq204 → AGm s σq204 → ((σq204.1 236 13).toInt = 0 → (σq204.1 236 39).toInt + (σq204.1 236 43).toInt - (σq204.1 236 12).toInt + (σ.1 236 12).toInt ≤ 420 * (σ.1 236 19).toInt + (σq204.1 236 11).toInt) → ((σq204.1 236 39).toInt + (σq204.1 236 43).toInt - (σq204.1 236 12).toInt + (σ.1 236 12).toInt ≤ 420 * (σ.1 236 19).toInt + 402) → ((σ.1 236 11).toInt ≤ (σq204.1 236 11).toInt) → ((σq204.1 236 11).toInt ≤ 400) → (0 ≤ (σq204.1 236 13).toInt) → ((σq204.1 236 13).toInt ≤ 2) → ((σq204.1 236 13).toInt = 0 → (σq204.1 236 12).toInt ≤ 6) → ((σq204.1 236 13).toInt = 0 → (σ.1 236 13).toInt = 0) → ((σ.1 236 11).toInt + 1 ≤ (σq204.1 236 11).toInt) → ((σq204.1 236 13).toInt = 0 → (σq204.1 236 12).toInt = (σ.1 236 12).toInt) → (EXg σ (σq204.1 236 43).toInt (σ.1 236 39).toInt.toNat (σ.1 236 12).toInt 1 σq204) → AW ids ad ca Γ 204 [some (.ref (ad 236)), none, none] [] σq204 := by
    intro σq204 hGq204 hoq204 hRq204 hx204_0 hx204_1 hx204_2 hx204_3 hx204_4 hx204_5 hx204_6 hx204_7 hx204_8 hx204_9 hx204_10
    have g1 := bF_236_12 hGq204
    have g2 := bF_236_43 hGq204
    have g3 := bF_236_11 hGq204
    have g4 := bF_236_13 hGq204
    have g5 := bF_236_19 hGq204
    have g6 : (σq204.1 236 19).toInt = (σ.1 236 19).toInt := congrArg Int32.toInt (hoq204.1 236 19 (by decide))
    have gE204 := EXg.rg hx204_10
    refine a_aload_n C dX12_expression_204 (i := 0) rfl rfl ?_
    refine s_iconst C dX12_expression_205 (0) (by decide) (fun z7 h8 => ?_)
    refine a_callVv C (i := 236) kd_236 (hid 236 (by decide)) ⟨_, _, rfl⟩ (by decide) (S_X12_comesOut_236 (x1 := z7) hid hGq204 hRq204 (by omega) (by omega) (EXg.W hx204_10 rfl) (by omega) (by omega)) mi_X12_comesOut ml_RX12_293 rfl rfl (Nat.le_of_ble_eq_true rfl) (Nat.le_of_ble_eq_true rfl) (Nat.le_of_ble_eq_true rfl) dX12_expression_206 (fun σ10 q11 => ?_)
    obtain ⟨hG12, ho13, hR14, w15, w16, w17, w18⟩ := q11
    have g19 := bF_236_43 hG12
    have g20 := bF_236_12 hG12
    have g21 : (σ10.1 236 12).toInt = (σq204.1 236 12).toInt := congrArg Int32.toInt (ho13.1 236 12 (by decide))
    have gr209 := EXg.rg w17
    have g22 := bF_236_13 hG12
    have g23 : (σ10.1 236 13).toInt = (σq204.1 236 13).toInt := congrArg Int32.toInt (ho13.1 236 13 (by decide))
    have g24 := bF_236_11 hG12
    have g25 : (σ10.1 236 11).toInt = (σq204.1 236 11).toInt := congrArg Int32.toInt (ho13.1 236 11 (by decide))
    exact a_vret Rt dX12_expression_209 (⟨hG12, (onm.tr hoq204 (onm.mono ho13 (by decide))), hR14, (show (σ.1 236 39).toInt ≤ (σ10.1 236 39).toInt by intros; omega), (show (σ10.1 236 13).toInt = 0 → (σ10.1 236 39).toInt ≤ 420 * (σ.1 236 19).toInt + (σ10.1 236 11).toInt by intros; omega), (show (σ10.1 236 39).toInt ≤ 420 * (σ.1 236 19).toInt + 412 by intros; omega), (show (σ.1 236 11).toInt ≤ (σ10.1 236 11).toInt by intros; omega), (show (σ10.1 236 13).toInt = 0 → (σ.1 236 13).toInt = 0 by intros; omega), (show (σ10.1 236 13).toInt = 0 → (σ10.1 236 12).toInt = (σ.1 236 12).toInt by intros; omega), (show (σ10.1 236 13).toInt = 0 → (σ.1 236 11).toInt + 1 ≤ (σ10.1 236 11).toInt by intros; omega), (EXg.fin w17 (by omega))⟩)
  have j12 : ∀ (d12 : Nat) (σq12 : HS) (y12_1 : Int32) (y12_2 : Int32), 401 - (σq12.1 236 11).toInt < d12 → GIm σq12 → onm [261, 262, 263, 1011, 1012, 1013, 1014, 1039, 1043] σ σq12 → AGm s σq12 → 0 ≤ y12_1.toInt ∧ y12_1.toInt ≤ 7 → 1 ≤ y12_2.toInt ∧ y12_2.toInt ≤ 1 → ((σq12.1 236 13).toInt = 0 → (σq12.1 236 39).toInt + (σq12.1 236 43).toInt - (σq12.1 236 12).toInt + (σ.1 236 12).toInt ≤ 420 * (σ.1 236 19).toInt + (σq12.1 236 11).toInt) → ((σq12.1 236 39).toInt + (σq12.1 236 43).toInt - (σq12.1 236 12).toInt + (σ.1 236 12).toInt ≤ 420 * (σ.1 236 19).toInt + 412) → ((σ.1 236 11).toInt ≤ (σq12.1 236 11).toInt) → ((σq12.1 236 11).toInt ≤ 400) → (0 ≤ (σq12.1 236 13).toInt) → ((σq12.1 236 13).toInt ≤ 2) → ((σq12.1 236 13).toInt = 0 → (σq12.1 236 12).toInt ≤ 6) → ((σq12.1 236 13).toInt = 0 → (σ.1 236 13).toInt = 0) → (y12_1.toInt = (σ.1 236 12).toInt) → (EXg σ (σq12.1 236 43).toInt (σ.1 236 39).toInt.toNat (σ.1 236 12).toInt 0 σq12) → AW ids ad ca Γ 12 [some (.ref (ad 236)), some (.int y12_1), some (.int y12_2)] [] σq12 := by
    intro d12
    induction d12 with
    | zero =>
      intro σq12 y12_1 y12_2 hd12 hGq12 hoq12 hRq12 hx12_0 hx12_1 hx12_2 hx12_3 hx12_4 hx12_5 hx12_6 hx12_7 hx12_8 hx12_9 hx12_10 hx12_11
      exfalso
      omega
    | succ d12 ih12 =>
      intro σq12 y12_1 y12_2 hd12 hGq12 hoq12 hRq12 hx12_0 hx12_1 hx12_2 hx12_3 hx12_4 hx12_5 hx12_6 hx12_7 hx12_8 hx12_9 hx12_10 hx12_11
      have j234 : ∀ (σq234 : HS) (y234_2 : Int32) (u234_0 : Int32), GIm σq234 → onm [261, 262, 263, 1011, 1012, 1013, 1014, 1039, 1043] σ σq234 → AGm s σq234 → 1 ≤ y234_2.toInt ∧ y234_2.toInt ≤ 1 → 0 ≤ u234_0.toInt ∧ u234_0.toInt ≤ 1 → ((σq234.1 236 13).toInt = 0 → (σq234.1 236 39).toInt + (σq234.1 236 43).toInt - (σq234.1 236 12).toInt + (σ.1 236 12).toInt ≤ 420 * (σ.1 236 19).toInt + (σq234.1 236 11).toInt) → ((σq234.1 236 39).toInt + (σq234.1 236 43).toInt - (σq234.1 236 12).toInt + (σ.1 236 12).toInt ≤ 420 * (σ.1 236 19).toInt + 402) → ((σ.1 236 11).toInt ≤ (σq234.1 236 11).toInt) → ((σq234.1 236 11).toInt ≤ 400) → (0 ≤ (σq234.1 236 13).toInt) → ((σq234.1 236 13).toInt ≤ 2) → ((σq234.1 236 13).toInt = 0 → (σq234.1 236 12).toInt ≤ 6) → ((σq234.1 236 13).toInt = 0 → (σ.1 236 13).toInt = 0) → ((σq12.1 236 11).toInt + 1 ≤ (σq234.1 236 11).toInt) → ((σq234.1 236 13).toInt = 0) → (KOP σq234) → (KOS σq234 u234_0.toInt) → (EXg σ (σq234.1 236 43).toInt (σ.1 236 39).toInt.toNat (σ.1 236 12).toInt 1 σq234) → AW ids ad ca Γ 234 [some (.ref (ad 236)), some (.int y12_1), some (.int y234_2)] [.int u234_0, .ref (ad 236)] σq234 := by
        intro σq234 y234_2 u234_0 hGq234 hoq234 hRq234 hx234_0 hx234_1 hx234_2 hx234_3 hx234_4 hx234_5 hx234_6 hx234_7 hx234_8 hx234_9 hx234_10 hx234_11 hx234_12 hx234_13 hx234_14
        have g26 := bF_236_12 hGq234
        have g27 := bF_236_43 hGq234
        have g28 := bF_236_11 hGq234
        have g29 := bF_236_13 hGq234
        have g30 := bF_236_19 hGq234
        have g31 : (σq234.1 236 19).toInt = (σ.1 236 19).toInt := congrArg Int32.toInt (hoq234.1 236 19 (by decide))
        have gE234 := EXg.rg hx234_14
        refine a_callVv C (i := 236) kd_236 (hid 236 (by decide)) ⟨_, _, rfl⟩ (by decide) (S_X12_comesOut_236 (x1 := u234_0) hid hGq234 hRq234 (by omega) (by omega) (EXg.W hx234_14 rfl) (by omega) (by omega)) mi_X12_comesOut ml_RX12_293 rfl rfl (Nat.le_of_ble_eq_true rfl) (Nat.le_of_ble_eq_true rfl) (Nat.le_of_ble_eq_true rfl) dX12_expression_234 (fun σ33 q34 => ?_)
        obtain ⟨hG35, ho36, hR37, w38, w39, w40, w41⟩ := q34
        have g42 := bF_236_43 hG35
        have g43 := bF_236_12 hG35
        have g44 : (σ33.1 236 12).toInt = (σq234.1 236 12).toInt := congrArg Int32.toInt (ho36.1 236 12 (by decide))
        have gr237 := EXg.rg w40
        refine a_aload_n C dX12_expression_237 (i := 0) rfl rfl ?_
        refine a_get C fl_RX12_98 (i := 236) kd_236 (hid 236 (by decide)) (v := .ref (ad 263)) rfl dX12_expression_238 ?_
        refine a_aload_n C dX12_expression_241 (i := 0) rfl rfl ?_
        refine a_get C fl_RX12_284 (i := 236) kd_236 (hid 236 (by decide)) (v := .int (σ33.1 236 43)) rfl dX12_expression_242 ?_
        refine a_aload_n C dX12_expression_245 (i := 0) rfl rfl ?_
        refine a_get C fl_RX12_20 (i := 236) kd_236 (hid 236 (by decide)) (v := .ref (ad 239)) rfl dX12_expression_246 ?_
        refine a_aload_n C dX12_expression_249 (i := 0) rfl rfl ?_
        have g45 := bF_236_11 hG35
        have g46 : (σ33.1 236 11).toInt = (σq234.1 236 11).toInt := congrArg Int32.toInt (ho36.1 236 11 (by decide))
        refine a_get C fl_RX12_194 (i := 236) kd_236 (hid 236 (by decide)) (v := .int (σ33.1 236 11)) rfl dX12_expression_250 ?_
        refine s_iald C (i := 239) kd_239 (hid 239 (by decide)) al_239 (by omega) (by omega) dX12_expression_253 (fun n47 h48 => ?_)
        refine s_val (fun z49 e50 => ?_)
        have g51 := bA_239 hG35 n47
        rw [e50] at g51
        refine s_iast C (i := 263) kd_263 (hid 263 (by decide)) al_263 (by omega) (by omega) dX12_expression_254 (fun n52 h53 => ?_)
        have hG54 := wA_263 (v := z49) (j := n52) hG35
        have hR55 := AGm.ony (σ1 := hI _ 263 n52 z49) hR37 (onm.I (L := [263]) onm.rf (by decide)) (by decide)
        refine a_aload_n C dX12_expression_255 (i := 0) rfl rfl ?_
        refine a_dup C dX12_expression_256 rfl ?_
        refine a_get C fl_RX12_284 (i := 236) kd_236 (hid 236 (by decide)) (v := .int (σ33.1 236 43)) rfl dX12_expression_257 ?_
        refine s_iconst C dX12_expression_260 (1) (by decide) (fun z56 h57 => ?_)
        refine s_iadd C dX12_expression_261 (by omega) (fun z58 h59 => ?_)
        refine a_put C fp_RX12_284 (i := 236) kd_236 (hid 236 (by decide)) rfl rfl dX12_expression_262 ?_
        have hG60 := wF_236_43 (v := z58) hG54 (by omega) (by omega)
        have hR61 := AGm.ony (σ1 := hI _ 236 43 z58) hR55 (onm.F (L := [1043]) onm.rf (by decide)) (by decide)
        have g62 : ((hI (hI σ33 263 n52 z49) 236 43 z58).1 236 12).toInt = (σ33.1 236 12).toInt := congrArg Int32.toInt rfl
        have g63 : ((hI (hI σ33 263 n52 z49) 236 43 z58).1 236 39).toInt = (σ33.1 236 39).toInt := congrArg Int32.toInt rfl
        have g64 : ((hI (hI σ33 263 n52 z49) 236 43 z58).1 236 43).toInt = z58.toInt := congrArg Int32.toInt rfl
        have g65 : ((hI (hI σ33 263 n52 z49) 236 43 z58).1 236 11).toInt = (σ33.1 236 11).toInt := congrArg Int32.toInt rfl
        have gz : z49.toInt = (σq234.1 239 (σq234.1 236 11).toInt.toNat).toInt := congrArg Int32.toInt (by rw [← e50, show (σq234.1 236 11).toInt.toNat = n47 by omega]; exact congrFun (ho36.a (i := 239) (by decide)) _)
        have gk := hx234_12
        unfold KOP at gk
        have gs := hx234_13
        unfold KOS at gs
        have gt : ((hI (hI σ33 263 n52 z49) 236 43 z58).1 263 (σ33.1 236 43).toInt.toNat).toInt = z49.toInt := by rw [show (σ33.1 236 43).toInt.toNat = n52 by omega]; show ((hI σ33 263 n52 z49).1 263 n52).toInt = _; rw [hI_s]
        have hE262 := EXg.oper (x := u234_0.toInt) (W1 := (σ33.1 236 43).toInt + 1) w40 rfl w41 (show (hI (hI σ33 263 n52 z49) 236 43 z58).1 261 = σ33.1 261 from ((hI_o (by decide)).trans (hI_o (by decide)))) (show (hI (hI σ33 263 n52 z49) 236 43 z58).1 262 = σ33.1 262 from ((hI_o (by decide)).trans (hI_o (by decide)))) (fun j hj => (show (hI (hI σ33 263 n52 z49) 236 43 z58).1 263 j = σ33.1 263 j from ((congrFun (hI_o (by decide)) j).trans (hI_n (by omega))))) (by omega) (by omega) (by omega)
        refine a_aload_n C dX12_expression_265 (i := 0) rfl rfl ?_
        have g69 : ((hI (hI σ33 263 n52 z49) 236 43 z58).1 236 11).toInt = (σ33.1 236 11).toInt := congrArg Int32.toInt rfl
        have g70 : ((hI (hI σ33 263 n52 z49) 236 43 z58).1 236 11).toInt = (σ33.1 236 11).toInt := congrArg Int32.toInt rfl
        have g71 := bF_236_13 hG35
        have g72 : (σ33.1 236 13).toInt = (σq234.1 236 13).toInt := congrArg Int32.toInt (ho36.1 236 13 (by decide))
        have g73 : ((hI (hI σ33 263 n52 z49) 236 43 z58).1 236 13).toInt = (σ33.1 236 13).toInt := congrArg Int32.toInt rfl
        have g74 : ((hI (hI σ33 263 n52 z49) 236 43 z58).1 236 11).toInt = (σ33.1 236 11).toInt := congrArg Int32.toInt rfl
        refine a_callVv C (i := 236) kd_236 (hid 236 (by decide)) ⟨_, _, rfl⟩ (by decide) (S_X12_goesOn_236 hid hG60) mi_X12_goesOn ml_RX12_212 rfl rfl (Nat.le_of_ble_eq_true rfl) (Nat.le_of_ble_eq_true rfl) (Nat.le_of_ble_eq_true rfl) dX12_expression_266 (fun σ67 q68 => ?_)
        obtain ⟨hG75, ho76, w78, w79, w80, w81⟩ := q68
        have hR77 := AGm.ony hR61 ho76 (by decide)
        have hE82 := EXg.ony hE262 ho76 (by decide)
        refine a_goto C dX12_expression_269 (tgt := 12) rfl ?_
        have g83 := bF_236_11 hG75
        have g84 := bF_236_13 hG75
        have g85 : (σ67.1 236 39).toInt = (σ33.1 236 39).toInt := congrArg Int32.toInt (ho76.1 236 39 (by decide))
        have g86 := bF_236_43 hG75
        have g87 : (σ67.1 236 43).toInt = z58.toInt := congrArg Int32.toInt (ho76.1 236 43 (by decide))
        have g88 := bF_236_12 hG75
        have g89 : (σ67.1 236 12).toInt = (σ33.1 236 12).toInt := congrArg Int32.toInt (ho76.1 236 12 (by decide))
        exact ih12 _ y12_1 y234_2 (by omega) hG75 (onm.tr (onm.F (onm.I (onm.tr hoq234 (onm.mono ho36 (by decide))) (by decide)) (by decide)) (onm.mono ho76 (by decide))) hR77 (by omega) (by omega) (show (σ67.1 236 13).toInt = 0 → (σ67.1 236 39).toInt + (σ67.1 236 43).toInt - (σ67.1 236 12).toInt + (σ.1 236 12).toInt ≤ 420 * (σ.1 236 19).toInt + (σ67.1 236 11).toInt by omega) (show (σ67.1 236 39).toInt + (σ67.1 236 43).toInt - (σ67.1 236 12).toInt + (σ.1 236 12).toInt ≤ 420 * (σ.1 236 19).toInt + 412 by omega) (show (σ.1 236 11).toInt ≤ (σ67.1 236 11).toInt by omega) (show (σ67.1 236 11).toInt ≤ 400 by omega) (show 0 ≤ (σ67.1 236 13).toInt by omega) (show (σ67.1 236 13).toInt ≤ 2 by omega) (show (σ67.1 236 13).toInt = 0 → (σ67.1 236 12).toInt ≤ 6 by omega) (show (σ67.1 236 13).toInt = 0 → (σ.1 236 13).toInt = 0 by omega) (show y12_1.toInt = (σ.1 236 12).toInt by omega) (EXg.W hE82 (by omega))
      have j229 : ∀ (σq229 : HS) (y229_2 : Int32), GIm σq229 → onm [261, 262, 263, 1011, 1012, 1013, 1014, 1039, 1043] σ σq229 → AGm s σq229 → 1 ≤ y229_2.toInt ∧ y229_2.toInt ≤ 1 → ((σq229.1 236 13).toInt = 0 → (σq229.1 236 39).toInt + (σq229.1 236 43).toInt - (σq229.1 236 12).toInt + (σ.1 236 12).toInt ≤ 420 * (σ.1 236 19).toInt + (σq229.1 236 11).toInt) → ((σq229.1 236 39).toInt + (σq229.1 236 43).toInt - (σq229.1 236 12).toInt + (σ.1 236 12).toInt ≤ 420 * (σ.1 236 19).toInt + 402) → ((σ.1 236 11).toInt ≤ (σq229.1 236 11).toInt) → ((σq229.1 236 11).toInt ≤ 400) → (0 ≤ (σq229.1 236 13).toInt) → ((σq229.1 236 13).toInt ≤ 2) → ((σq229.1 236 13).toInt = 0 → (σq229.1 236 12).toInt ≤ 6) → ((σq229.1 236 13).toInt = 0 → (σ.1 236 13).toInt = 0) → ((σq12.1 236 11).toInt + 1 ≤ (σq229.1 236 11).toInt) → ((σq229.1 236 13).toInt = 0) → (KOP σq229) → (KOS σq229 1) → (EXg σ (σq229.1 236 43).toInt (σ.1 236 39).toInt.toNat (σ.1 236 12).toInt 1 σq229) → AW ids ad ca Γ 229 [some (.ref (ad 236)), some (.int y12_1), some (.int y229_2)] [.ref (ad 236)] σq229 := by
        intro σq229 y229_2 hGq229 hoq229 hRq229 hx229_0 hx229_1 hx229_2 hx229_3 hx229_4 hx229_5 hx229_6 hx229_7 hx229_8 hx229_9 hx229_10 hx229_11 hx229_12 hx229_13
        have g90 := bF_236_12 hGq229
        have g91 := bF_236_43 hGq229
        have g92 := bF_236_11 hGq229
        have g93 := bF_236_13 hGq229
        have g94 := bF_236_19 hGq229
        have g95 : (σq229.1 236 19).toInt = (σ.1 236 19).toInt := congrArg Int32.toInt (hoq229.1 236 19 (by decide))
        have gE229 := EXg.rg hx229_13
        refine s_iconst C dX12_expression_229 (1) (by decide) (fun z96 h97 => ?_)
        refine a_goto C dX12_expression_230 (tgt := 234) rfl ?_
        exact j234 _ y229_2 z96 hGq229 hoq229 hRq229 (by omega) (by omega) (show (σq229.1 236 13).toInt = 0 → (σq229.1 236 39).toInt + (σq229.1 236 43).toInt - (σq229.1 236 12).toInt + (σ.1 236 12).toInt ≤ 420 * (σ.1 236 19).toInt + (σq229.1 236 11).toInt by omega) (show (σq229.1 236 39).toInt + (σq229.1 236 43).toInt - (σq229.1 236 12).toInt + (σ.1 236 12).toInt ≤ 420 * (σ.1 236 19).toInt + 402 by omega) (show (σ.1 236 11).toInt ≤ (σq229.1 236 11).toInt by omega) (show (σq229.1 236 11).toInt ≤ 400 by omega) (show 0 ≤ (σq229.1 236 13).toInt by omega) (show (σq229.1 236 13).toInt ≤ 2 by omega) (show (σq229.1 236 13).toInt = 0 → (σq229.1 236 12).toInt ≤ 6 by omega) (show (σq229.1 236 13).toInt = 0 → (σ.1 236 13).toInt = 0 by omega) (show (σq12.1 236 11).toInt + 1 ≤ (σq229.1 236 11).toInt by omega) (show (σq229.1 236 13).toInt = 0 by omega) hx229_11 (by have e9 := hx229_12; have e8 : z96.toInt = 1 := (by omega); rw [e8]; exact e9) (EXg.W hx229_13 (by omega))
      have j186 : ∀ (σq186 : HS) (u186_0 : Int32), GIm σq186 → onm [261, 262, 263, 1011, 1012, 1013, 1014, 1039, 1043] σ σq186 → AGm s σq186 → 0 ≤ u186_0.toInt ∧ u186_0.toInt ≤ 1 → ((σq186.1 236 13).toInt = 0 → (σq186.1 236 39).toInt + (σq186.1 236 43).toInt - (σq186.1 236 12).toInt + (σ.1 236 12).toInt ≤ 420 * (σ.1 236 19).toInt + (σq186.1 236 11).toInt) → ((σq186.1 236 39).toInt + (σq186.1 236 43).toInt - (σq186.1 236 12).toInt + (σ.1 236 12).toInt ≤ 420 * (σ.1 236 19).toInt + 402) → ((σ.1 236 11).toInt ≤ (σq186.1 236 11).toInt) → ((σq186.1 236 11).toInt ≤ 400) → (0 ≤ (σq186.1 236 13).toInt) → ((σq186.1 236 13).toInt ≤ 2) → ((σq186.1 236 13).toInt = 0 → (σq186.1 236 12).toInt ≤ 6) → ((σq186.1 236 13).toInt = 0 → (σ.1 236 13).toInt = 0) → ((σq12.1 236 11).toInt + 1 ≤ (σq186.1 236 11).toInt) → (u186_0.toInt = 1 → (σq186.1 236 13).toInt = 0 ∧ KOP σq186) → (EXg σ (σq186.1 236 43).toInt (σ.1 236 39).toInt.toNat (σ.1 236 12).toInt 1 σq186) → AW ids ad ca Γ 186 [some (.ref (ad 236)), some (.int y12_1), none] [.int u186_0] σq186 := by
        intro σq186 u186_0 hGq186 hoq186 hRq186 hx186_0 hx186_1 hx186_2 hx186_3 hx186_4 hx186_5 hx186_6 hx186_7 hx186_8 hx186_9 hx186_10 hx186_11
        have g98 := bF_236_12 hGq186
        have g99 := bF_236_43 hGq186
        have g100 := bF_236_11 hGq186
        have g101 := bF_236_13 hGq186
        have g102 := bF_236_19 hGq186
        have g103 : (σq186.1 236 19).toInt = (σ.1 236 19).toInt := congrArg Int32.toInt (hoq186.1 236 19 (by decide))
        have gE186 := EXg.rg hx186_11
        refine a_istore_n C dX12_expression_186 (i := 2) rfl (by decide) rfl (vs1 := [some (.ref (ad 236)), some (.int y12_1), some (.int u186_0)]) rfl ?_
        refine a_iload_n C dX12_expression_187 (i := 2) rfl rfl ?_
        refine s_if_ne C dX12_expression_188 (tgt := 210) rfl (fun c104 => ?_) (fun c104 => ?_)
        ·
          have g210 := hx186_10 (by omega)
          refine a_aload_n C dX12_expression_210 (i := 0) rfl rfl ?_
          refine a_aload_n C dX12_expression_211 (i := 0) rfl rfl ?_
          refine s_bipush C dX12_expression_212 (10) (by decide) (fun z105 h106 => ?_)
          refine a_callVi C (i := 236) kd_236 (hid 236 (by decide)) ⟨_, _, rfl⟩ (by decide) (S_X12_is_236 (x1 := z105) hid hGq186) mi_X12_is ml_RX12_209 rfl rfl (Nat.le_of_ble_eq_true rfl) (Nat.le_of_ble_eq_true rfl) (Nat.le_of_ble_eq_true rfl) dX12_expression_214 (fun z107 σ108 q109 => ?_)
          obtain ⟨w110, w111, w112, w113⟩ := q109
          rw [w110]
          refine s_if_ne C dX12_expression_217 (tgt := 229) rfl (fun c114 => ?_) (fun c114 => ?_)
          ·
            exact j229 _ u186_0 hGq186 hoq186 hRq186 (by omega) (show (σq186.1 236 13).toInt = 0 → (σq186.1 236 39).toInt + (σq186.1 236 43).toInt - (σq186.1 236 12).toInt + (σ.1 236 12).toInt ≤ 420 * (σ.1 236 19).toInt + (σq186.1 236 11).toInt by omega) (show (σq186.1 236 39).toInt + (σq186.1 236 43).toInt - (σq186.1 236 12).toInt + (σ.1 236 12).toInt ≤ 420 * (σ.1 236 19).toInt + 402 by omega) (show (σ.1 236 11).toInt ≤ (σq186.1 236 11).toInt by omega) (show (σq186.1 236 11).toInt ≤ 400 by omega) (show 0 ≤ (σq186.1 236 13).toInt by omega) (show (σq186.1 236 13).toInt ≤ 2 by omega) (show (σq186.1 236 13).toInt = 0 → (σq186.1 236 12).toInt ≤ 6 by omega) (show (σq186.1 236 13).toInt = 0 → (σ.1 236 13).toInt = 0 by omega) (show (σq12.1 236 11).toInt + 1 ≤ (σq186.1 236 11).toInt by omega) (show (σq186.1 236 13).toInt = 0 by omega) g210.2 (by have e9 := w113 (by omega); unfold KOS; omega) (EXg.W hx186_11 (by omega))
          ·
            refine a_aload_n C dX12_expression_220 (i := 0) rfl rfl ?_
            refine s_bipush C dX12_expression_221 (15) (by decide) (fun z115 h116 => ?_)
            refine a_callVi C (i := 236) kd_236 (hid 236 (by decide)) ⟨_, _, rfl⟩ (by decide) (S_X12_is_236 (x1 := z115) hid hGq186) mi_X12_is ml_RX12_209 rfl rfl (Nat.le_of_ble_eq_true rfl) (Nat.le_of_ble_eq_true rfl) (Nat.le_of_ble_eq_true rfl) dX12_expression_223 (fun z117 σ118 q119 => ?_)
            obtain ⟨w120, w121, w122, w123⟩ := q119
            rw [w120]
            refine s_if_eq C dX12_expression_226 (tgt := 233) rfl (fun c124 => ?_) (fun c124 => ?_)
            ·
              refine s_iconst C dX12_expression_233 (0) (by decide) (fun z125 h126 => ?_)
              exact j234 _ u186_0 z125 hGq186 hoq186 hRq186 (by omega) (by omega) (show (σq186.1 236 13).toInt = 0 → (σq186.1 236 39).toInt + (σq186.1 236 43).toInt - (σq186.1 236 12).toInt + (σ.1 236 12).toInt ≤ 420 * (σ.1 236 19).toInt + (σq186.1 236 11).toInt by omega) (show (σq186.1 236 39).toInt + (σq186.1 236 43).toInt - (σq186.1 236 12).toInt + (σ.1 236 12).toInt ≤ 420 * (σ.1 236 19).toInt + 402 by omega) (show (σ.1 236 11).toInt ≤ (σq186.1 236 11).toInt by omega) (show (σq186.1 236 11).toInt ≤ 400 by omega) (show 0 ≤ (σq186.1 236 13).toInt by omega) (show (σq186.1 236 13).toInt ≤ 2 by omega) (show (σq186.1 236 13).toInt = 0 → (σq186.1 236 12).toInt ≤ 6 by omega) (show (σq186.1 236 13).toInt = 0 → (σ.1 236 13).toInt = 0 by omega) (show (σq12.1 236 11).toInt + 1 ≤ (σq186.1 236 11).toInt by omega) (show (σq186.1 236 13).toInt = 0 by omega) g210.2 (Or.inl (by omega)) (EXg.W hx186_11 (by omega))
            ·
              exact j229 _ u186_0 hGq186 hoq186 hRq186 (by omega) (show (σq186.1 236 13).toInt = 0 → (σq186.1 236 39).toInt + (σq186.1 236 43).toInt - (σq186.1 236 12).toInt + (σ.1 236 12).toInt ≤ 420 * (σ.1 236 19).toInt + (σq186.1 236 11).toInt by omega) (show (σq186.1 236 39).toInt + (σq186.1 236 43).toInt - (σq186.1 236 12).toInt + (σ.1 236 12).toInt ≤ 420 * (σ.1 236 19).toInt + 402 by omega) (show (σ.1 236 11).toInt ≤ (σq186.1 236 11).toInt by omega) (show (σq186.1 236 11).toInt ≤ 400 by omega) (show 0 ≤ (σq186.1 236 13).toInt by omega) (show (σq186.1 236 13).toInt ≤ 2 by omega) (show (σq186.1 236 13).toInt = 0 → (σq186.1 236 12).toInt ≤ 6 by omega) (show (σq186.1 236 13).toInt = 0 → (σ.1 236 13).toInt = 0 by omega) (show (σq12.1 236 11).toInt + 1 ≤ (σq186.1 236 11).toInt by omega) (show (σq186.1 236 13).toInt = 0 by omega) g210.2 (by have e9 := w123 (by omega); unfold KOS; omega) (EXg.W hx186_11 (by omega))
        ·
          refine a_aload_n C dX12_expression_191 (i := 0) rfl rfl ?_
          refine a_get C fl_RX12_218 (i := 236) kd_236 (hid 236 (by decide)) (v := .int (σq186.1 236 12)) rfl dX12_expression_192 ?_
          refine a_iload_n C dX12_expression_195 (i := 1) rfl rfl ?_
          refine s_ic_le C dX12_expression_196 (tgt := 204) rfl (fun c127 => ?_) (fun c127 => ?_)
          ·
            refine AW.sub (vs' := [some (.ref (ad 236)), none, none]) (lsub_of (by simp [lsubB])) ?_
            exact j204 _ hGq186 hoq186 hRq186 (show (σq186.1 236 13).toInt = 0 → (σq186.1 236 39).toInt + (σq186.1 236 43).toInt - (σq186.1 236 12).toInt + (σ.1 236 12).toInt ≤ 420 * (σ.1 236 19).toInt + (σq186.1 236 11).toInt by omega) (show (σq186.1 236 39).toInt + (σq186.1 236 43).toInt - (σq186.1 236 12).toInt + (σ.1 236 12).toInt ≤ 420 * (σ.1 236 19).toInt + 402 by omega) (show (σ.1 236 11).toInt ≤ (σq186.1 236 11).toInt by omega) (show (σq186.1 236 11).toInt ≤ 400 by omega) (show 0 ≤ (σq186.1 236 13).toInt by omega) (show (σq186.1 236 13).toInt ≤ 2 by omega) (show (σq186.1 236 13).toInt = 0 → (σq186.1 236 12).toInt ≤ 6 by omega) (show (σq186.1 236 13).toInt = 0 → (σ.1 236 13).toInt = 0 by omega) (show (σ.1 236 11).toInt + 1 ≤ (σq186.1 236 11).toInt by omega) (show (σq186.1 236 13).toInt = 0 → (σq186.1 236 12).toInt = (σ.1 236 12).toInt by omega) (EXg.W hx186_11 (by omega))
          ·
            refine a_aload_n C dX12_expression_199 (i := 0) rfl rfl ?_
            refine s_iconst C dX12_expression_200 (1) (by decide) (fun z128 h129 => ?_)
            refine a_callVv C (i := 236) kd_236 (hid 236 (by decide)) ⟨_, _, rfl⟩ (by decide) (S_X12_fail_236 (x1 := z128) hid hGq186 (by omega)) mi_X12_fail ml_RX12_206 rfl rfl (Nat.le_of_ble_eq_true rfl) (Nat.le_of_ble_eq_true rfl) (Nat.le_of_ble_eq_true rfl) dX12_expression_201 (fun σ131 q132 => ?_)
            obtain ⟨hG133, ho134, w136, w137⟩ := q132
            have hR135 := AGm.ony hRq186 ho134 (by decide)
            have hE138 := EXg.ony hx186_11 ho134 (by decide)
            have g139 := bF_236_13 hG133
            have g140 : (σ131.1 236 39).toInt = (σq186.1 236 39).toInt := congrArg Int32.toInt (ho134.1 236 39 (by decide))
            have g141 := bF_236_43 hG133
            have g142 : (σ131.1 236 43).toInt = (σq186.1 236 43).toInt := congrArg Int32.toInt (ho134.1 236 43 (by decide))
            have g143 := bF_236_12 hG133
            have g144 : (σ131.1 236 12).toInt = (σq186.1 236 12).toInt := congrArg Int32.toInt (ho134.1 236 12 (by decide))
            have g145 := bF_236_11 hG133
            have g146 : (σ131.1 236 11).toInt = (σq186.1 236 11).toInt := congrArg Int32.toInt (ho134.1 236 11 (by decide))
            refine AW.sub (vs' := [some (.ref (ad 236)), none, none]) (lsub_of (by simp [lsubB])) ?_
            exact j204 _ hG133 (onm.tr hoq186 (onm.mono ho134 (by decide))) hR135 (show (σ131.1 236 13).toInt = 0 → (σ131.1 236 39).toInt + (σ131.1 236 43).toInt - (σ131.1 236 12).toInt + (σ.1 236 12).toInt ≤ 420 * (σ.1 236 19).toInt + (σ131.1 236 11).toInt by omega) (show (σ131.1 236 39).toInt + (σ131.1 236 43).toInt - (σ131.1 236 12).toInt + (σ.1 236 12).toInt ≤ 420 * (σ.1 236 19).toInt + 402 by omega) (show (σ.1 236 11).toInt ≤ (σ131.1 236 11).toInt by omega) (show (σ131.1 236 11).toInt ≤ 400 by omega) (show 0 ≤ (σ131.1 236 13).toInt by omega) (show (σ131.1 236 13).toInt ≤ 2 by omega) (show (σ131.1 236 13).toInt = 0 → (σ131.1 236 12).toInt ≤ 6 by omega) (show (σ131.1 236 13).toInt = 0 → (σ.1 236 13).toInt = 0 by omega) (show (σ.1 236 11).toInt + 1 ≤ (σ131.1 236 11).toInt by omega) (show (σ131.1 236 13).toInt = 0 → (σ131.1 236 12).toInt = (σ.1 236 12).toInt by omega) (EXg.W hE138 (by omega))
      have j181 : ∀ (σq181 : HS), GIm σq181 → onm [261, 262, 263, 1011, 1012, 1013, 1014, 1039, 1043] σ σq181 → AGm s σq181 → ((σq181.1 236 13).toInt = 0 → (σq181.1 236 39).toInt + (σq181.1 236 43).toInt - (σq181.1 236 12).toInt + (σ.1 236 12).toInt ≤ 420 * (σ.1 236 19).toInt + (σq181.1 236 11).toInt) → ((σq181.1 236 39).toInt + (σq181.1 236 43).toInt - (σq181.1 236 12).toInt + (σ.1 236 12).toInt ≤ 420 * (σ.1 236 19).toInt + 402) → ((σ.1 236 11).toInt ≤ (σq181.1 236 11).toInt) → ((σq181.1 236 11).toInt ≤ 400) → (0 ≤ (σq181.1 236 13).toInt) → ((σq181.1 236 13).toInt ≤ 2) → ((σq181.1 236 13).toInt = 0 → (σq181.1 236 12).toInt ≤ 6) → ((σq181.1 236 13).toInt = 0 → (σ.1 236 13).toInt = 0) → ((σq12.1 236 11).toInt + 1 ≤ (σq181.1 236 11).toInt) → ((σq181.1 236 13).toInt = 0) → (KOP σq181) → (EXg σ (σq181.1 236 43).toInt (σ.1 236 39).toInt.toNat (σ.1 236 12).toInt 1 σq181) → AW ids ad ca Γ 181 [some (.ref (ad 236)), some (.int y12_1), none] [] σq181 := by
        intro σq181 hGq181 hoq181 hRq181 hx181_0 hx181_1 hx181_2 hx181_3 hx181_4 hx181_5 hx181_6 hx181_7 hx181_8 hx181_9 hx181_10 hx181_11
        have g147 := bF_236_12 hGq181
        have g148 := bF_236_43 hGq181
        have g149 := bF_236_11 hGq181
        have g150 := bF_236_13 hGq181
        have g151 := bF_236_19 hGq181
        have g152 : (σq181.1 236 19).toInt = (σ.1 236 19).toInt := congrArg Int32.toInt (hoq181.1 236 19 (by decide))
        have gE181 := EXg.rg hx181_11
        refine s_iconst C dX12_expression_181 (1) (by decide) (fun z153 h154 => ?_)
        refine a_goto C dX12_expression_182 (tgt := 186) rfl ?_
        exact j186 _ z153 hGq181 hoq181 hRq181 (by omega) (show (σq181.1 236 13).toInt = 0 → (σq181.1 236 39).toInt + (σq181.1 236 43).toInt - (σq181.1 236 12).toInt + (σ.1 236 12).toInt ≤ 420 * (σ.1 236 19).toInt + (σq181.1 236 11).toInt by omega) (show (σq181.1 236 39).toInt + (σq181.1 236 43).toInt - (σq181.1 236 12).toInt + (σ.1 236 12).toInt ≤ 420 * (σ.1 236 19).toInt + 402 by omega) (show (σ.1 236 11).toInt ≤ (σq181.1 236 11).toInt by omega) (show (σq181.1 236 11).toInt ≤ 400 by omega) (show 0 ≤ (σq181.1 236 13).toInt by omega) (show (σq181.1 236 13).toInt ≤ 2 by omega) (show (σq181.1 236 13).toInt = 0 → (σq181.1 236 12).toInt ≤ 6 by omega) (show (σq181.1 236 13).toInt = 0 → (σ.1 236 13).toInt = 0 by omega) (show (σq12.1 236 11).toInt + 1 ≤ (σq181.1 236 11).toInt by omega) (fun _ => ⟨by omega, hx181_10⟩) (EXg.W hx181_11 (by omega))
      have j145 : ∀ (σq145 : HS), GIm σq145 → onm [261, 262, 263, 1011, 1012, 1013, 1014, 1039, 1043] σ σq145 → AGm s σq145 → ((σq145.1 236 13).toInt = 0 → (σq145.1 236 39).toInt + (σq145.1 236 43).toInt - (σq145.1 236 12).toInt + (σ.1 236 12).toInt ≤ 420 * (σ.1 236 19).toInt + (σq145.1 236 11).toInt) → ((σq145.1 236 39).toInt + (σq145.1 236 43).toInt - (σq145.1 236 12).toInt + (σ.1 236 12).toInt ≤ 420 * (σ.1 236 19).toInt + 402) → ((σ.1 236 11).toInt ≤ (σq145.1 236 11).toInt) → ((σq145.1 236 11).toInt ≤ 400) → (0 ≤ (σq145.1 236 13).toInt) → ((σq145.1 236 13).toInt ≤ 2) → ((σq145.1 236 13).toInt = 0 → (σq145.1 236 12).toInt ≤ 6) → ((σq145.1 236 13).toInt = 0 → (σ.1 236 13).toInt = 0) → ((σq12.1 236 11).toInt + 1 ≤ (σq145.1 236 11).toInt) → (EXg σ (σq145.1 236 43).toInt (σ.1 236 39).toInt.toNat (σ.1 236 12).toInt 1 σq145) → AW ids ad ca Γ 145 [some (.ref (ad 236)), some (.int y12_1), none] [] σq145 := by
        intro σq145 hGq145 hoq145 hRq145 hx145_0 hx145_1 hx145_2 hx145_3 hx145_4 hx145_5 hx145_6 hx145_7 hx145_8 hx145_9
        have g155 := bF_236_12 hGq145
        have g156 := bF_236_43 hGq145
        have g157 := bF_236_11 hGq145
        have g158 := bF_236_13 hGq145
        have g159 := bF_236_19 hGq145
        have g160 : (σq145.1 236 19).toInt = (σ.1 236 19).toInt := congrArg Int32.toInt (hoq145.1 236 19 (by decide))
        have gE145 := EXg.rg hx145_9
        refine a_aload_n C dX12_expression_145 (i := 0) rfl rfl ?_
        refine s_bipush C dX12_expression_146 (8) (by decide) (fun z161 h162 => ?_)
        refine a_callVi C (i := 236) kd_236 (hid 236 (by decide)) ⟨_, _, rfl⟩ (by decide) (S_X12_is_236 (x1 := z161) hid hGq145) mi_X12_is ml_RX12_209 rfl rfl (Nat.le_of_ble_eq_true rfl) (Nat.le_of_ble_eq_true rfl) (Nat.le_of_ble_eq_true rfl) dX12_expression_148 (fun z163 σ164 q165 => ?_)
        obtain ⟨w166, w167, w168, w169⟩ := q165
        rw [w166]
        refine s_if_ne C dX12_expression_151 (tgt := 181) rfl (fun c170 => ?_) (fun c170 => ?_)
        ·
          exact j181 _ hGq145 hoq145 hRq145 (show (σq145.1 236 13).toInt = 0 → (σq145.1 236 39).toInt + (σq145.1 236 43).toInt - (σq145.1 236 12).toInt + (σ.1 236 12).toInt ≤ 420 * (σ.1 236 19).toInt + (σq145.1 236 11).toInt by omega) (show (σq145.1 236 39).toInt + (σq145.1 236 43).toInt - (σq145.1 236 12).toInt + (σ.1 236 12).toInt ≤ 420 * (σ.1 236 19).toInt + 402 by omega) (show (σ.1 236 11).toInt ≤ (σq145.1 236 11).toInt by omega) (show (σq145.1 236 11).toInt ≤ 400 by omega) (show 0 ≤ (σq145.1 236 13).toInt by omega) (show (σq145.1 236 13).toInt ≤ 2 by omega) (show (σq145.1 236 13).toInt = 0 → (σq145.1 236 12).toInt ≤ 6 by omega) (show (σq145.1 236 13).toInt = 0 → (σ.1 236 13).toInt = 0 by omega) (show (σq12.1 236 11).toInt + 1 ≤ (σq145.1 236 11).toInt by omega) (show (σq145.1 236 13).toInt = 0 by omega) (by have e9 := w169 (by omega); unfold KOP; omega) (EXg.W hx145_9 (by omega))
        ·
          refine a_aload_n C dX12_expression_154 (i := 0) rfl rfl ?_
          refine s_bipush C dX12_expression_155 (9) (by decide) (fun z171 h172 => ?_)
          refine a_callVi C (i := 236) kd_236 (hid 236 (by decide)) ⟨_, _, rfl⟩ (by decide) (S_X12_is_236 (x1 := z171) hid hGq145) mi_X12_is ml_RX12_209 rfl rfl (Nat.le_of_ble_eq_true rfl) (Nat.le_of_ble_eq_true rfl) (Nat.le_of_ble_eq_true rfl) dX12_expression_157 (fun z173 σ174 q175 => ?_)
          obtain ⟨w176, w177, w178, w179⟩ := q175
          rw [w176]
          refine s_if_ne C dX12_expression_160 (tgt := 181) rfl (fun c180 => ?_) (fun c180 => ?_)
          ·
            exact j181 _ hGq145 hoq145 hRq145 (show (σq145.1 236 13).toInt = 0 → (σq145.1 236 39).toInt + (σq145.1 236 43).toInt - (σq145.1 236 12).toInt + (σ.1 236 12).toInt ≤ 420 * (σ.1 236 19).toInt + (σq145.1 236 11).toInt by omega) (show (σq145.1 236 39).toInt + (σq145.1 236 43).toInt - (σq145.1 236 12).toInt + (σ.1 236 12).toInt ≤ 420 * (σ.1 236 19).toInt + 402 by omega) (show (σ.1 236 11).toInt ≤ (σq145.1 236 11).toInt by omega) (show (σq145.1 236 11).toInt ≤ 400 by omega) (show 0 ≤ (σq145.1 236 13).toInt by omega) (show (σq145.1 236 13).toInt ≤ 2 by omega) (show (σq145.1 236 13).toInt = 0 → (σq145.1 236 12).toInt ≤ 6 by omega) (show (σq145.1 236 13).toInt = 0 → (σ.1 236 13).toInt = 0 by omega) (show (σq12.1 236 11).toInt + 1 ≤ (σq145.1 236 11).toInt by omega) (show (σq145.1 236 13).toInt = 0 by omega) (by have e9 := w179 (by omega); unfold KOP; omega) (EXg.W hx145_9 (by omega))
          ·
            refine a_aload_n C dX12_expression_163 (i := 0) rfl rfl ?_
            refine s_bipush C dX12_expression_164 (10) (by decide) (fun z181 h182 => ?_)
            refine a_callVi C (i := 236) kd_236 (hid 236 (by decide)) ⟨_, _, rfl⟩ (by decide) (S_X12_is_236 (x1 := z181) hid hGq145) mi_X12_is ml_RX12_209 rfl rfl (Nat.le_of_ble_eq_true rfl) (Nat.le_of_ble_eq_true rfl) (Nat.le_of_ble_eq_true rfl) dX12_expression_166 (fun z183 σ184 q185 => ?_)
            obtain ⟨w186, w187, w188, w189⟩ := q185
            rw [w186]
            refine s_if_ne C dX12_expression_169 (tgt := 181) rfl (fun c190 => ?_) (fun c190 => ?_)
            ·
              exact j181 _ hGq145 hoq145 hRq145 (show (σq145.1 236 13).toInt = 0 → (σq145.1 236 39).toInt + (σq145.1 236 43).toInt - (σq145.1 236 12).toInt + (σ.1 236 12).toInt ≤ 420 * (σ.1 236 19).toInt + (σq145.1 236 11).toInt by omega) (show (σq145.1 236 39).toInt + (σq145.1 236 43).toInt - (σq145.1 236 12).toInt + (σ.1 236 12).toInt ≤ 420 * (σ.1 236 19).toInt + 402 by omega) (show (σ.1 236 11).toInt ≤ (σq145.1 236 11).toInt by omega) (show (σq145.1 236 11).toInt ≤ 400 by omega) (show 0 ≤ (σq145.1 236 13).toInt by omega) (show (σq145.1 236 13).toInt ≤ 2 by omega) (show (σq145.1 236 13).toInt = 0 → (σq145.1 236 12).toInt ≤ 6 by omega) (show (σq145.1 236 13).toInt = 0 → (σ.1 236 13).toInt = 0 by omega) (show (σq12.1 236 11).toInt + 1 ≤ (σq145.1 236 11).toInt by omega) (show (σq145.1 236 13).toInt = 0 by omega) (by have e9 := w189 (by omega); unfold KOP; omega) (EXg.W hx145_9 (by omega))
            ·
              refine a_aload_n C dX12_expression_172 (i := 0) rfl rfl ?_
              refine s_bipush C dX12_expression_173 (15) (by decide) (fun z191 h192 => ?_)
              refine a_callVi C (i := 236) kd_236 (hid 236 (by decide)) ⟨_, _, rfl⟩ (by decide) (S_X12_is_236 (x1 := z191) hid hGq145) mi_X12_is ml_RX12_209 rfl rfl (Nat.le_of_ble_eq_true rfl) (Nat.le_of_ble_eq_true rfl) (Nat.le_of_ble_eq_true rfl) dX12_expression_175 (fun z193 σ194 q195 => ?_)
              obtain ⟨w196, w197, w198, w199⟩ := q195
              rw [w196]
              refine s_if_eq C dX12_expression_178 (tgt := 185) rfl (fun c200 => ?_) (fun c200 => ?_)
              ·
                refine s_iconst C dX12_expression_185 (0) (by decide) (fun z201 h202 => ?_)
                exact j186 _ z201 hGq145 hoq145 hRq145 (by omega) (show (σq145.1 236 13).toInt = 0 → (σq145.1 236 39).toInt + (σq145.1 236 43).toInt - (σq145.1 236 12).toInt + (σ.1 236 12).toInt ≤ 420 * (σ.1 236 19).toInt + (σq145.1 236 11).toInt by omega) (show (σq145.1 236 39).toInt + (σq145.1 236 43).toInt - (σq145.1 236 12).toInt + (σ.1 236 12).toInt ≤ 420 * (σ.1 236 19).toInt + 402 by omega) (show (σ.1 236 11).toInt ≤ (σq145.1 236 11).toInt by omega) (show (σq145.1 236 11).toInt ≤ 400 by omega) (show 0 ≤ (σq145.1 236 13).toInt by omega) (show (σq145.1 236 13).toInt ≤ 2 by omega) (show (σq145.1 236 13).toInt = 0 → (σq145.1 236 12).toInt ≤ 6 by omega) (show (σq145.1 236 13).toInt = 0 → (σ.1 236 13).toInt = 0 by omega) (show (σq12.1 236 11).toInt + 1 ≤ (σq145.1 236 11).toInt by omega) (fun h9 => absurd h9 (by omega)) (EXg.W hx145_9 (by omega))
              ·
                exact j181 _ hGq145 hoq145 hRq145 (show (σq145.1 236 13).toInt = 0 → (σq145.1 236 39).toInt + (σq145.1 236 43).toInt - (σq145.1 236 12).toInt + (σ.1 236 12).toInt ≤ 420 * (σ.1 236 19).toInt + (σq145.1 236 11).toInt by omega) (show (σq145.1 236 39).toInt + (σq145.1 236 43).toInt - (σq145.1 236 12).toInt + (σ.1 236 12).toInt ≤ 420 * (σ.1 236 19).toInt + 402 by omega) (show (σ.1 236 11).toInt ≤ (σq145.1 236 11).toInt by omega) (show (σq145.1 236 11).toInt ≤ 400 by omega) (show 0 ≤ (σq145.1 236 13).toInt by omega) (show (σq145.1 236 13).toInt ≤ 2 by omega) (show (σq145.1 236 13).toInt = 0 → (σq145.1 236 12).toInt ≤ 6 by omega) (show (σq145.1 236 13).toInt = 0 → (σ.1 236 13).toInt = 0 by omega) (show (σq12.1 236 11).toInt + 1 ≤ (σq145.1 236 11).toInt by omega) (show (σq145.1 236 13).toInt = 0 by omega) (by have e9 := w199 (by omega); unfold KOP; omega) (EXg.W hx145_9 (by omega))
      have j96 : ∀ (d96 : Nat) (σq96 : HS), 2 * (401 - (σq96.1 236 11).toInt) - (σq96.1 236 13).toInt < d96 → GIm σq96 → onm [261, 262, 263, 1011, 1012, 1013, 1014, 1039, 1043] σ σq96 → AGm s σq96 → ((σq96.1 236 13).toInt = 0 → (σq96.1 236 39).toInt + (σq96.1 236 43).toInt - (σq96.1 236 12).toInt + (σ.1 236 12).toInt ≤ 420 * (σ.1 236 19).toInt + (σq96.1 236 11).toInt) → ((σq96.1 236 39).toInt + (σq96.1 236 43).toInt - (σq96.1 236 12).toInt + (σ.1 236 12).toInt ≤ 420 * (σ.1 236 19).toInt + 402) → ((σ.1 236 11).toInt ≤ (σq96.1 236 11).toInt) → ((σq96.1 236 11).toInt ≤ 400) → (0 ≤ (σq96.1 236 13).toInt) → ((σq96.1 236 13).toInt ≤ 2) → ((σq96.1 236 13).toInt = 0 → (σq96.1 236 12).toInt ≤ 6) → ((σq96.1 236 13).toInt = 0 → (σ.1 236 13).toInt = 0) → ((σq12.1 236 11).toInt + 1 ≤ (σq96.1 236 11).toInt) → (EXg σ (σq96.1 236 43).toInt (σ.1 236 39).toInt.toNat (σ.1 236 12).toInt 1 σq96) → AW ids ad ca Γ 96 [some (.ref (ad 236)), some (.int y12_1), none] [] σq96 := by
        intro d96
        induction d96 with
        | zero =>
          intro σq96 hd96 hGq96 hoq96 hRq96 hx96_0 hx96_1 hx96_2 hx96_3 hx96_4 hx96_5 hx96_6 hx96_7 hx96_8 hx96_9
          exfalso
          omega
        | succ d96 ih96 =>
          intro σq96 hd96 hGq96 hoq96 hRq96 hx96_0 hx96_1 hx96_2 hx96_3 hx96_4 hx96_5 hx96_6 hx96_7 hx96_8 hx96_9
          have g203 := bF_236_12 hGq96
          have g204 := bF_236_43 hGq96
          have g205 := bF_236_11 hGq96
          have g206 := bF_236_13 hGq96
          have g207 := bF_236_19 hGq96
          have g208 : (σq96.1 236 19).toInt = (σ.1 236 19).toInt := congrArg Int32.toInt (hoq96.1 236 19 (by decide))
          have gE96 := EXg.rg hx96_9
          refine a_aload_n C dX12_expression_96 (i := 0) rfl rfl ?_
          refine s_bipush C dX12_expression_97 (7) (by decide) (fun z209 h210 => ?_)
          refine a_callVi C (i := 236) kd_236 (hid 236 (by decide)) ⟨_, _, rfl⟩ (by decide) (S_X12_is_236 (x1 := z209) hid hGq96) mi_X12_is ml_RX12_209 rfl rfl (Nat.le_of_ble_eq_true rfl) (Nat.le_of_ble_eq_true rfl) (Nat.le_of_ble_eq_true rfl) dX12_expression_99 (fun z211 σ212 q213 => ?_)
          obtain ⟨w214, w215, w216, w217⟩ := q213
          rw [w214]
          refine s_if_eq C dX12_expression_102 (tgt := 145) rfl (fun c218 => ?_) (fun c218 => ?_)
          ·
            exact j145 _ hGq96 hoq96 hRq96 (show (σq96.1 236 13).toInt = 0 → (σq96.1 236 39).toInt + (σq96.1 236 43).toInt - (σq96.1 236 12).toInt + (σ.1 236 12).toInt ≤ 420 * (σ.1 236 19).toInt + (σq96.1 236 11).toInt by omega) (show (σq96.1 236 39).toInt + (σq96.1 236 43).toInt - (σq96.1 236 12).toInt + (σ.1 236 12).toInt ≤ 420 * (σ.1 236 19).toInt + 402 by omega) (show (σ.1 236 11).toInt ≤ (σq96.1 236 11).toInt by omega) (show (σq96.1 236 11).toInt ≤ 400 by omega) (show 0 ≤ (σq96.1 236 13).toInt by omega) (show (σq96.1 236 13).toInt ≤ 2 by omega) (show (σq96.1 236 13).toInt = 0 → (σq96.1 236 12).toInt ≤ 6 by omega) (show (σq96.1 236 13).toInt = 0 → (σ.1 236 13).toInt = 0 by omega) (show (σq12.1 236 11).toInt + 1 ≤ (σq96.1 236 11).toInt by omega) (EXg.W hx96_9 (by omega))
          ·
            refine a_aload_n C dX12_expression_105 (i := 0) rfl rfl ?_
            refine a_get C fl_RX12_218 (i := 236) kd_236 (hid 236 (by decide)) (v := .int (σq96.1 236 12)) rfl dX12_expression_106 ?_
            refine a_iload_n C dX12_expression_109 (i := 1) rfl rfl ?_
            refine s_ic_le C dX12_expression_110 (tgt := 145) rfl (fun c219 => ?_) (fun c219 => ?_)
            ·
              exact j145 _ hGq96 hoq96 hRq96 (show (σq96.1 236 13).toInt = 0 → (σq96.1 236 39).toInt + (σq96.1 236 43).toInt - (σq96.1 236 12).toInt + (σ.1 236 12).toInt ≤ 420 * (σ.1 236 19).toInt + (σq96.1 236 11).toInt by omega) (show (σq96.1 236 39).toInt + (σq96.1 236 43).toInt - (σq96.1 236 12).toInt + (σ.1 236 12).toInt ≤ 420 * (σ.1 236 19).toInt + 402 by omega) (show (σ.1 236 11).toInt ≤ (σq96.1 236 11).toInt by omega) (show (σq96.1 236 11).toInt ≤ 400 by omega) (show 0 ≤ (σq96.1 236 13).toInt by omega) (show (σq96.1 236 13).toInt ≤ 2 by omega) (show (σq96.1 236 13).toInt = 0 → (σq96.1 236 12).toInt ≤ 6 by omega) (show (σq96.1 236 13).toInt = 0 → (σ.1 236 13).toInt = 0 by omega) (show (σq12.1 236 11).toInt + 1 ≤ (σq96.1 236 11).toInt by omega) (EXg.W hx96_9 (by omega))
            ·
              refine a_aload_n C dX12_expression_113 (i := 0) rfl rfl ?_
              refine s_iconst C dX12_expression_114 (0) (by decide) (fun z220 h221 => ?_)
              refine a_callVv C (i := 236) kd_236 (hid 236 (by decide)) ⟨_, _, rfl⟩ (by decide) (S_X12_comesOut_236 (x1 := z220) hid hGq96 hRq96 (by omega) (by omega) (EXg.W hx96_9 rfl) (by omega) (by omega)) mi_X12_comesOut ml_RX12_293 rfl rfl (Nat.le_of_ble_eq_true rfl) (Nat.le_of_ble_eq_true rfl) (Nat.le_of_ble_eq_true rfl) dX12_expression_115 (fun σ223 q224 => ?_)
              obtain ⟨hG225, ho226, hR227, w228, w229, w230, w231⟩ := q224
              have g232 := bF_236_43 hG225
              have g233 := bF_236_12 hG225
              have g234 : (σ223.1 236 12).toInt = (σq96.1 236 12).toInt := congrArg Int32.toInt (ho226.1 236 12 (by decide))
              have gr118 := EXg.rg w230
              refine a_aload_n C dX12_expression_118 (i := 0) rfl rfl ?_
              refine a_dup C dX12_expression_119 rfl ?_
              refine a_get C fl_RX12_284 (i := 236) kd_236 (hid 236 (by decide)) (v := .int (σ223.1 236 43)) rfl dX12_expression_120 ?_
              refine s_iconst C dX12_expression_123 (1) (by decide) (fun z235 h236 => ?_)
              refine s_isub C dX12_expression_124 (by omega) (fun z237 h238 => ?_)
              refine a_put C fp_RX12_284 (i := 236) kd_236 (hid 236 (by decide)) rfl rfl dX12_expression_125 ?_
              have hG239 := wF_236_43 (v := z237) hG225 (by omega) (by omega)
              have hR240 := AGm.ony (σ1 := hI _ 236 43 z237) hR227 (onm.F (L := [1043]) onm.rf (by decide)) (by decide)
              have hE241 := EXg.ony (σ1 := hI _ 236 43 z237) w230 (onm.F (L := [1043]) onm.rf (by decide)) (by decide)
              refine a_aload_n C dX12_expression_128 (i := 0) rfl rfl ?_
              refine a_dup C dX12_expression_129 rfl ?_
              refine a_get C fl_RX12_218 (i := 236) kd_236 (hid 236 (by decide)) (v := .int (σ223.1 236 12)) rfl dX12_expression_130 ?_
              refine s_iconst C dX12_expression_133 (1) (by decide) (fun z242 h243 => ?_)
              refine s_isub C dX12_expression_134 (by omega) (fun z244 h245 => ?_)
              refine a_put C fp_RX12_218 (i := 236) kd_236 (hid 236 (by decide)) rfl rfl dX12_expression_135 ?_
              have hG246 := wF_236_12 (v := z244) hG239 (by omega) (by omega)
              have hR247 := AGm.ony (σ1 := hI _ 236 12 z244) hR240 (onm.F (L := [1012]) onm.rf (by decide)) (by decide)
              have g248 : ((hI (hI σ223 236 43 z237) 236 12 z244).1 236 12).toInt = z244.toInt := congrArg Int32.toInt rfl
              have g249 : ((hI (hI σ223 236 43 z237) 236 12 z244).1 236 39).toInt = (σ223.1 236 39).toInt := congrArg Int32.toInt rfl
              have g250 : ((hI (hI σ223 236 43 z237) 236 12 z244).1 236 43).toInt = z237.toInt := congrArg Int32.toInt rfl
              have g251 : ((hI σ223 236 43 z237).1 236 12).toInt = (σ223.1 236 12).toInt := congrArg Int32.toInt rfl
              have g252 : ((hI σ223 236 43 z237).1 236 39).toInt = (σ223.1 236 39).toInt := congrArg Int32.toInt rfl
              have g253 : ((hI σ223 236 43 z237).1 236 43).toInt = z237.toInt := congrArg Int32.toInt rfl
              have hE135 := EXg.close (W1 := (σ223.1 236 43).toInt - 1) hE241 rfl (by omega) (show tcc (σ223.1 263) (σ223.1 236 43).toInt.toNat ≤ 0 by have e9 := w231; omega) (show (hI (hI σ223 236 43 z237) 236 12 z244).1 261 = (hI σ223 236 43 z237).1 261 from (hI_o (by decide))) (show (hI (hI σ223 236 43 z237) 236 12 z244).1 262 = (hI σ223 236 43 z237).1 262 from (hI_o (by decide))) (show (hI (hI σ223 236 43 z237) 236 12 z244).1 263 = (hI σ223 236 43 z237).1 263 from (hI_o (by decide))) (by omega) (by omega)
              refine a_aload_n C dX12_expression_138 (i := 0) rfl rfl ?_
              have g257 := bF_236_11 hG225
              have g258 : (σ223.1 236 11).toInt = (σq96.1 236 11).toInt := congrArg Int32.toInt (ho226.1 236 11 (by decide))
              have g259 : ((hI (hI σ223 236 43 z237) 236 12 z244).1 236 11).toInt = (σ223.1 236 11).toInt := congrArg Int32.toInt rfl
              have g260 : ((hI (hI σ223 236 43 z237) 236 12 z244).1 236 11).toInt = (σ223.1 236 11).toInt := congrArg Int32.toInt rfl
              have g261 := bF_236_13 hG225
              have g262 : (σ223.1 236 13).toInt = (σq96.1 236 13).toInt := congrArg Int32.toInt (ho226.1 236 13 (by decide))
              have g263 : ((hI (hI σ223 236 43 z237) 236 12 z244).1 236 13).toInt = (σ223.1 236 13).toInt := congrArg Int32.toInt rfl
              have g264 : ((hI (hI σ223 236 43 z237) 236 12 z244).1 236 11).toInt = (σ223.1 236 11).toInt := congrArg Int32.toInt rfl
              refine a_callVv C (i := 236) kd_236 (hid 236 (by decide)) ⟨_, _, rfl⟩ (by decide) (S_X12_goesOn_236 hid hG246) mi_X12_goesOn ml_RX12_212 rfl rfl (Nat.le_of_ble_eq_true rfl) (Nat.le_of_ble_eq_true rfl) (Nat.le_of_ble_eq_true rfl) dX12_expression_139 (fun σ255 q256 => ?_)
              obtain ⟨hG265, ho266, w268, w269, w270, w271⟩ := q256
              have hR267 := AGm.ony hR247 ho266 (by decide)
              have hE272 := EXg.ony hE135 ho266 (by decide)
              refine a_goto C dX12_expression_142 (tgt := 96) rfl ?_
              have g273 := bF_236_11 hG265
              have g274 := bF_236_13 hG265
              have g275 : (σ255.1 236 39).toInt = (σ223.1 236 39).toInt := congrArg Int32.toInt (ho266.1 236 39 (by decide))
              have g276 := bF_236_43 hG265
              have g277 : (σ255.1 236 43).toInt = z237.toInt := congrArg Int32.toInt (ho266.1 236 43 (by decide))
              have g278 := bF_236_12 hG265
              have g279 : (σ255.1 236 12).toInt = z244.toInt := congrArg Int32.toInt (ho266.1 236 12 (by decide))
              exact ih96 _ (by omega) hG265 (onm.tr (onm.F (onm.F (onm.tr hoq96 (onm.mono ho226 (by decide))) (by decide)) (by decide)) (onm.mono ho266 (by decide))) hR267 (show (σ255.1 236 13).toInt = 0 → (σ255.1 236 39).toInt + (σ255.1 236 43).toInt - (σ255.1 236 12).toInt + (σ.1 236 12).toInt ≤ 420 * (σ.1 236 19).toInt + (σ255.1 236 11).toInt by omega) (show (σ255.1 236 39).toInt + (σ255.1 236 43).toInt - (σ255.1 236 12).toInt + (σ.1 236 12).toInt ≤ 420 * (σ.1 236 19).toInt + 402 by omega) (show (σ.1 236 11).toInt ≤ (σ255.1 236 11).toInt by omega) (show (σ255.1 236 11).toInt ≤ 400 by omega) (show 0 ≤ (σ255.1 236 13).toInt by omega) (show (σ255.1 236 13).toInt ≤ 2 by omega) (show (σ255.1 236 13).toInt = 0 → (σ255.1 236 12).toInt ≤ 6 by omega) (show (σ255.1 236 13).toInt = 0 → (σ.1 236 13).toInt = 0 by omega) (show (σq12.1 236 11).toInt + 1 ≤ (σ255.1 236 11).toInt by omega) (EXg.W hE272 (by omega))
      have j23 : ∀ (d23 : Nat) (σq23 : HS), 2 * (401 - (σq23.1 236 11).toInt) - (σq23.1 236 13).toInt < d23 → GIm σq23 → onm [261, 262, 263, 1011, 1012, 1013, 1014, 1039, 1043] σ σq23 → AGm s σq23 → ((σq23.1 236 13).toInt = 0 → (σq23.1 236 39).toInt + (σq23.1 236 43).toInt - (σq23.1 236 12).toInt + (σ.1 236 12).toInt ≤ 420 * (σ.1 236 19).toInt + (σq23.1 236 11).toInt) → ((σq23.1 236 39).toInt + (σq23.1 236 43).toInt - (σq23.1 236 12).toInt + (σ.1 236 12).toInt ≤ 420 * (σ.1 236 19).toInt + 402) → ((σ.1 236 11).toInt ≤ (σq23.1 236 11).toInt) → ((σq23.1 236 11).toInt ≤ 400) → (0 ≤ (σq23.1 236 13).toInt) → ((σq23.1 236 13).toInt ≤ 2) → ((σq23.1 236 13).toInt = 0 → (σq23.1 236 12).toInt ≤ 6) → ((σq23.1 236 13).toInt = 0 → (σ.1 236 13).toInt = 0) → ((σq12.1 236 11).toInt ≤ (σq23.1 236 11).toInt) → (EXg σ (σq23.1 236 43).toInt (σ.1 236 39).toInt.toNat (σ.1 236 12).toInt 0 σq23) → AW ids ad ca Γ 23 [some (.ref (ad 236)), some (.int y12_1), none] [] σq23 := by
        intro d23
        induction d23 with
        | zero =>
          intro σq23 hd23 hGq23 hoq23 hRq23 hx23_0 hx23_1 hx23_2 hx23_3 hx23_4 hx23_5 hx23_6 hx23_7 hx23_8 hx23_9
          exfalso
          omega
        | succ d23 ih23 =>
          intro σq23 hd23 hGq23 hoq23 hRq23 hx23_0 hx23_1 hx23_2 hx23_3 hx23_4 hx23_5 hx23_6 hx23_7 hx23_8 hx23_9
          have j46 : ∀ (σq46 : HS), GIm σq46 → onm [261, 262, 263, 1011, 1012, 1013, 1014, 1039, 1043] σ σq46 → AGm s σq46 → ((σq46.1 236 13).toInt = 0 → (σq46.1 236 39).toInt + (σq46.1 236 43).toInt - (σq46.1 236 12).toInt + (σ.1 236 12).toInt ≤ 420 * (σ.1 236 19).toInt + (σq46.1 236 11).toInt) → ((σq46.1 236 39).toInt + (σq46.1 236 43).toInt - (σq46.1 236 12).toInt + (σ.1 236 12).toInt ≤ 420 * (σ.1 236 19).toInt + 402) → ((σ.1 236 11).toInt ≤ (σq46.1 236 11).toInt) → ((σq46.1 236 11).toInt ≤ 400) → (0 ≤ (σq46.1 236 13).toInt) → ((σq46.1 236 13).toInt ≤ 2) → ((σq46.1 236 13).toInt = 0 → (σq46.1 236 12).toInt ≤ 6) → ((σq46.1 236 13).toInt = 0 → (σ.1 236 13).toInt = 0) → ((σq46.1 236 11).toInt = (σq23.1 236 11).toInt) → ((σq23.1 236 13).toInt = 0) → ((σq46.1 236 13).toInt = 0 → (σq46.1 236 12).toInt ≤ 5) → ((σq46.1 236 12).toInt ≤ 6) → ((σq46.1 236 39).toInt + (σq46.1 236 43).toInt - (σq46.1 236 12).toInt + (σ.1 236 12).toInt ≤ 420 * (σ.1 236 19).toInt + (σq46.1 236 11).toInt) → (EXg σ (σq46.1 236 43).toInt (σ.1 236 39).toInt.toNat (σ.1 236 12).toInt 0 σq46) → AW ids ad ca Γ 46 [some (.ref (ad 236)), some (.int y12_1), none] [] σq46 := by
            intro σq46 hGq46 hoq46 hRq46 hx46_0 hx46_1 hx46_2 hx46_3 hx46_4 hx46_5 hx46_6 hx46_7 hx46_8 hx46_9 hx46_10 hx46_11 hx46_12 hx46_13
            have g280 := bF_236_12 hGq46
            have g281 := bF_236_43 hGq46
            have g282 := bF_236_11 hGq46
            have g283 := bF_236_13 hGq46
            have g284 := bF_236_19 hGq46
            have g285 : (σq46.1 236 19).toInt = (σ.1 236 19).toInt := congrArg Int32.toInt (hoq46.1 236 19 (by decide))
            have gE46 := EXg.rg hx46_13
            refine a_aload_n C dX12_expression_46 (i := 0) rfl rfl ?_
            refine a_dup C dX12_expression_47 rfl ?_
            refine a_get C fl_RX12_218 (i := 236) kd_236 (hid 236 (by decide)) (v := .int (σq46.1 236 12)) rfl dX12_expression_48 ?_
            refine s_iconst C dX12_expression_51 (1) (by decide) (fun z286 h287 => ?_)
            refine s_iadd C dX12_expression_52 (by omega) (fun z288 h289 => ?_)
            refine a_put C fp_RX12_218 (i := 236) kd_236 (hid 236 (by decide)) rfl rfl dX12_expression_53 ?_
            have hG290 := wF_236_12 (v := z288) hGq46 (by omega) (by omega)
            have hR291 := AGm.ony (σ1 := hI _ 236 12 z288) hRq46 (onm.F (L := [1012]) onm.rf (by decide)) (by decide)
            refine a_aload_n C dX12_expression_56 (i := 0) rfl rfl ?_
            have g295 : ((hI σq46 236 12 z288).1 236 11).toInt = (σq46.1 236 11).toInt := congrArg Int32.toInt rfl
            have g296 : ((hI σq46 236 12 z288).1 236 11).toInt = (σq46.1 236 11).toInt := congrArg Int32.toInt rfl
            have g297 : ((hI σq46 236 12 z288).1 236 13).toInt = (σq46.1 236 13).toInt := congrArg Int32.toInt rfl
            have g298 : ((hI σq46 236 12 z288).1 236 11).toInt = (σq46.1 236 11).toInt := congrArg Int32.toInt rfl
            refine a_callVv C (i := 236) kd_236 (hid 236 (by decide)) ⟨_, _, rfl⟩ (by decide) (S_X12_goesOn_236 hid hG290) mi_X12_goesOn ml_RX12_212 rfl rfl (Nat.le_of_ble_eq_true rfl) (Nat.le_of_ble_eq_true rfl) (Nat.le_of_ble_eq_true rfl) dX12_expression_57 (fun σ293 q294 => ?_)
            obtain ⟨hG299, ho300, w302, w303, w304, w305⟩ := q294
            have hR301 := AGm.ony hR291 ho300 (by decide)
            refine a_aload_n C dX12_expression_60 (i := 0) rfl rfl ?_
            refine a_get C fl_RX12_98 (i := 236) kd_236 (hid 236 (by decide)) (v := .ref (ad 263)) rfl dX12_expression_61 ?_
            refine a_aload_n C dX12_expression_64 (i := 0) rfl rfl ?_
            have g306 := bF_236_43 hG299
            have g307 : (σ293.1 236 43).toInt = (σq46.1 236 43).toInt := congrArg Int32.toInt (ho300.1 236 43 (by decide))
            refine a_get C fl_RX12_284 (i := 236) kd_236 (hid 236 (by decide)) (v := .int (σ293.1 236 43)) rfl dX12_expression_65 ?_
            refine s_bipush C dX12_expression_68 (6) (by decide) (fun z308 h309 => ?_)
            refine s_iast C (i := 263) kd_263 (hid 263 (by decide)) al_263 (by omega) (by omega) dX12_expression_70 (fun n310 h311 => ?_)
            have hG312 := wA_263 (v := z308) (j := n310) hG299
            have hR313 := AGm.ony (σ1 := hI _ 263 n310 z308) hR301 (onm.I (L := [263]) onm.rf (by decide)) (by decide)
            refine a_aload_n C dX12_expression_71 (i := 0) rfl rfl ?_
            refine a_dup C dX12_expression_72 rfl ?_
            refine a_get C fl_RX12_284 (i := 236) kd_236 (hid 236 (by decide)) (v := .int (σ293.1 236 43)) rfl dX12_expression_73 ?_
            refine s_iconst C dX12_expression_76 (1) (by decide) (fun z314 h315 => ?_)
            refine s_iadd C dX12_expression_77 (by omega) (fun z316 h317 => ?_)
            refine a_put C fp_RX12_284 (i := 236) kd_236 (hid 236 (by decide)) rfl rfl dX12_expression_78 ?_
            have hG318 := wF_236_43 (v := z316) hG312 (by omega) (by omega)
            have hR319 := AGm.ony (σ1 := hI _ 236 43 z316) hR313 (onm.F (L := [1043]) onm.rf (by decide)) (by decide)
            have g320 := bF_236_12 hG299
            have g321 : (σ293.1 236 12).toInt = z288.toInt := congrArg Int32.toInt (ho300.1 236 12 (by decide))
            have g322 : ((hI (hI σ293 263 n310 z308) 236 43 z316).1 236 12).toInt = (σ293.1 236 12).toInt := congrArg Int32.toInt rfl
            have g323 : (σ293.1 236 39).toInt = (σq46.1 236 39).toInt := congrArg Int32.toInt (ho300.1 236 39 (by decide))
            have g324 : ((hI (hI σ293 263 n310 z308) 236 43 z316).1 236 39).toInt = (σ293.1 236 39).toInt := congrArg Int32.toInt rfl
            have g325 : ((hI (hI σ293 263 n310 z308) 236 43 z316).1 236 43).toInt = z316.toInt := congrArg Int32.toInt rfl
            have hE78 := EXg.push6 (W1 := (σq46.1 236 43).toInt + 1) hx46_13 rfl (show (hI (hI σ293 263 n310 z308) 236 43 z316).1 261 = σq46.1 261 from ((hI_o (by decide)).trans ((hI_o (by decide)).trans ((ho300.a (i := 261) (by decide)).trans (hI_o (by decide)))))) (show (hI (hI σ293 263 n310 z308) 236 43 z316).1 262 = σq46.1 262 from ((hI_o (by decide)).trans ((hI_o (by decide)).trans ((ho300.a (i := 262) (by decide)).trans (hI_o (by decide)))))) (fun j hj => (show (hI (hI σ293 263 n310 z308) 236 43 z316).1 263 j = σq46.1 263 j from ((congrFun (hI_o (by decide)) j).trans ((hI_n (by omega)).trans ((congrFun (ho300.a (i := 263) (by decide)) j).trans (congrFun (hI_o (by decide)) j)))))) (by rw [show (σq46.1 236 43).toInt.toNat = n310 by omega]; show ((hI σ293 263 n310 z308).1 263 n310).toInt = 6; rw [hI_s]; omega) (by omega) (by omega)
            refine a_goto C dX12_expression_81 (tgt := 23) rfl ?_
            have g326 := bF_236_11 hG299
            have g327 : ((hI (hI σ293 263 n310 z308) 236 43 z316).1 236 11).toInt = (σ293.1 236 11).toInt := congrArg Int32.toInt rfl
            have g328 := bF_236_13 hG299
            have g329 : ((hI (hI σ293 263 n310 z308) 236 43 z316).1 236 13).toInt = (σ293.1 236 13).toInt := congrArg Int32.toInt rfl
            have g330 : ((hI (hI σ293 263 n310 z308) 236 43 z316).1 236 43).toInt = z316.toInt := congrArg Int32.toInt rfl
            exact ih23 _ (by omega) hG318 (onm.F (onm.I (onm.tr (onm.F hoq46 (by decide)) (onm.mono ho300 (by decide))) (by decide)) (by decide)) hR319 (show (σ293.1 236 13).toInt = 0 → (σ293.1 236 39).toInt + z316.toInt - (σ293.1 236 12).toInt + (σ.1 236 12).toInt ≤ 420 * (σ.1 236 19).toInt + (σ293.1 236 11).toInt by omega) (show (σ293.1 236 39).toInt + z316.toInt - (σ293.1 236 12).toInt + (σ.1 236 12).toInt ≤ 420 * (σ.1 236 19).toInt + 402 by omega) (show (σ.1 236 11).toInt ≤ (σ293.1 236 11).toInt by omega) (show (σ293.1 236 11).toInt ≤ 400 by omega) (show 0 ≤ (σ293.1 236 13).toInt by omega) (show (σ293.1 236 13).toInt ≤ 2 by omega) (show (σ293.1 236 13).toInt = 0 → (σ293.1 236 12).toInt ≤ 6 by omega) (show (σ293.1 236 13).toInt = 0 → (σ.1 236 13).toInt = 0 by omega) (show (σq12.1 236 11).toInt ≤ (σ293.1 236 11).toInt by omega) (EXg.W hE78 (by omega))
          have g331 := bF_236_12 hGq23
          have g332 := bF_236_43 hGq23
          have g333 := bF_236_11 hGq23
          have g334 := bF_236_13 hGq23
          have g335 := bF_236_19 hGq23
          have g336 : (σq23.1 236 19).toInt = (σ.1 236 19).toInt := congrArg Int32.toInt (hoq23.1 236 19 (by decide))
          have gE23 := EXg.rg hx23_9
          refine a_aload_n C dX12_expression_23 (i := 0) rfl rfl ?_
          refine s_bipush C dX12_expression_24 (6) (by decide) (fun z337 h338 => ?_)
          refine a_callVi C (i := 236) kd_236 (hid 236 (by decide)) ⟨_, _, rfl⟩ (by decide) (S_X12_is_236 (x1 := z337) hid hGq23) mi_X12_is ml_RX12_209 rfl rfl (Nat.le_of_ble_eq_true rfl) (Nat.le_of_ble_eq_true rfl) (Nat.le_of_ble_eq_true rfl) dX12_expression_26 (fun z339 σ340 q341 => ?_)
          obtain ⟨w342, w343, w344, w345⟩ := q341
          rw [w342]
          refine s_if_eq C dX12_expression_29 (tgt := 84) rfl (fun c346 => ?_) (fun c346 => ?_)
          ·
            refine a_aload_n C dX12_expression_84 (i := 0) rfl rfl ?_
            refine a_callVv C (i := 236) kd_236 (hid 236 (by decide)) ⟨_, _, rfl⟩ (by decide) (S_X12_unit_236 hid hGq23 hRq23 (by omega) (by omega) (by omega)) mi_X12_unit ml_RX12_290 rfl rfl (Nat.le_of_ble_eq_true rfl) (Nat.le_of_ble_eq_true rfl) (Nat.le_of_ble_eq_true rfl) dX12_expression_85 (fun σ348 q349 => ?_)
            obtain ⟨hG350, ho351, hR352, w353, w354, w355, w356, w357, w358, w359, w360⟩ := q349
            have g361 := bF_236_12 hG350
            have g362 : (σ348.1 236 12).toInt = (σq23.1 236 12).toInt := congrArg Int32.toInt (ho351.1 236 12 (by decide))
            have g363 := bF_236_43 hG350
            have g364 : (σ348.1 236 43).toInt = (σq23.1 236 43).toInt := congrArg Int32.toInt (ho351.1 236 43 (by decide))
            have g365 := bF_236_11 hG350
            have g366 := bF_236_13 hG350
            refine a_aload_n C dX12_expression_88 (i := 0) rfl rfl ?_
            refine a_get C fl_RX12_191 (i := 236) kd_236 (hid 236 (by decide)) (v := .int (σ348.1 236 13)) rfl dX12_expression_89 ?_
            refine s_if_le C dX12_expression_92 (tgt := 96) rfl (fun c367 => ?_) (fun c367 => ?_)
            ·
              exact j96 100000 _ (by omega) hG350 (onm.tr hoq23 (onm.mono ho351 (by decide))) hR352 (show (σ348.1 236 13).toInt = 0 → (σ348.1 236 39).toInt + (σ348.1 236 43).toInt - (σ348.1 236 12).toInt + (σ.1 236 12).toInt ≤ 420 * (σ.1 236 19).toInt + (σ348.1 236 11).toInt by omega) (show (σ348.1 236 39).toInt + (σ348.1 236 43).toInt - (σ348.1 236 12).toInt + (σ.1 236 12).toInt ≤ 420 * (σ.1 236 19).toInt + 402 by omega) (show (σ.1 236 11).toInt ≤ (σ348.1 236 11).toInt by omega) (show (σ348.1 236 11).toInt ≤ 400 by omega) (show 0 ≤ (σ348.1 236 13).toInt by omega) (show (σ348.1 236 13).toInt ≤ 2 by omega) (show (σ348.1 236 13).toInt = 0 → (σ348.1 236 12).toInt ≤ 6 by omega) (show (σ348.1 236 13).toInt = 0 → (σ.1 236 13).toInt = 0 by omega) (show (σq12.1 236 11).toInt + 1 ≤ (σ348.1 236 11).toInt by omega) (EXg.W (EXg.unit hx23_9 (show σ348.1 263 = σq23.1 263 from (ho351.a (i := 263) (by decide))) (by omega) (by omega) w359 (w360 (by omega))) (by omega))
            ·
              exact a_vret Rt dX12_expression_95 (⟨hG350, (onm.tr hoq23 (onm.mono ho351 (by decide))), hR352, (show (σ.1 236 39).toInt ≤ (σ348.1 236 39).toInt by intros; omega), (show (σ348.1 236 13).toInt = 0 → (σ348.1 236 39).toInt ≤ 420 * (σ.1 236 19).toInt + (σ348.1 236 11).toInt by intros; omega), (show (σ348.1 236 39).toInt ≤ 420 * (σ.1 236 19).toInt + 412 by intros; omega), (show (σ.1 236 11).toInt ≤ (σ348.1 236 11).toInt by intros; omega), (show (σ348.1 236 13).toInt = 0 → (σ.1 236 13).toInt = 0 by intros; omega), (show (σ348.1 236 13).toInt = 0 → (σ348.1 236 12).toInt = (σ.1 236 12).toInt by intros; omega), (show (σ348.1 236 13).toInt = 0 → (σ.1 236 11).toInt + 1 ≤ (σ348.1 236 11).toInt by intros; omega), (EXg.fault hx23_9 (by omega) w359 (by omega))⟩)
          ·
            refine a_aload_n C dX12_expression_32 (i := 0) rfl rfl ?_
            refine a_get C fl_RX12_218 (i := 236) kd_236 (hid 236 (by decide)) (v := .int (σq23.1 236 12)) rfl dX12_expression_33 ?_
            refine s_bipush C dX12_expression_36 (6) (by decide) (fun z368 h369 => ?_)
            refine s_ic_ne C dX12_expression_38 (tgt := 46) rfl (fun c370 => ?_) (fun c370 => ?_)
            ·
              exact j46 _ hGq23 hoq23 hRq23 (show (σq23.1 236 13).toInt = 0 → (σq23.1 236 39).toInt + (σq23.1 236 43).toInt - (σq23.1 236 12).toInt + (σ.1 236 12).toInt ≤ 420 * (σ.1 236 19).toInt + (σq23.1 236 11).toInt by omega) (show (σq23.1 236 39).toInt + (σq23.1 236 43).toInt - (σq23.1 236 12).toInt + (σ.1 236 12).toInt ≤ 420 * (σ.1 236 19).toInt + 402 by omega) (show (σ.1 236 11).toInt ≤ (σq23.1 236 11).toInt by omega) (show (σq23.1 236 11).toInt ≤ 400 by omega) (show 0 ≤ (σq23.1 236 13).toInt by omega) (show (σq23.1 236 13).toInt ≤ 2 by omega) (show (σq23.1 236 13).toInt = 0 → (σq23.1 236 12).toInt ≤ 6 by omega) (show (σq23.1 236 13).toInt = 0 → (σ.1 236 13).toInt = 0 by omega) (show (σq23.1 236 11).toInt = (σq23.1 236 11).toInt by omega) (show (σq23.1 236 13).toInt = 0 by omega) (show (σq23.1 236 13).toInt = 0 → (σq23.1 236 12).toInt ≤ 5 by omega) (show (σq23.1 236 12).toInt ≤ 6 by omega) (show (σq23.1 236 39).toInt + (σq23.1 236 43).toInt - (σq23.1 236 12).toInt + (σ.1 236 12).toInt ≤ 420 * (σ.1 236 19).toInt + (σq23.1 236 11).toInt by omega) (EXg.W hx23_9 (by omega))
            ·
              refine a_aload_n C dX12_expression_41 (i := 0) rfl rfl ?_
              refine s_iconst C dX12_expression_42 (2) (by decide) (fun z371 h372 => ?_)
              refine a_callVv C (i := 236) kd_236 (hid 236 (by decide)) ⟨_, _, rfl⟩ (by decide) (S_X12_fail_236 (x1 := z371) hid hGq23 (by omega)) mi_X12_fail ml_RX12_206 rfl rfl (Nat.le_of_ble_eq_true rfl) (Nat.le_of_ble_eq_true rfl) (Nat.le_of_ble_eq_true rfl) dX12_expression_43 (fun σ374 q375 => ?_)
              obtain ⟨hG376, ho377, w379, w380⟩ := q375
              have hR378 := AGm.ony hRq23 ho377 (by decide)
              have hE381 := EXg.ony hx23_9 ho377 (by decide)
              have g382 := bF_236_13 hG376
              have g383 : (σ374.1 236 39).toInt = (σq23.1 236 39).toInt := congrArg Int32.toInt (ho377.1 236 39 (by decide))
              have g384 := bF_236_43 hG376
              have g385 : (σ374.1 236 43).toInt = (σq23.1 236 43).toInt := congrArg Int32.toInt (ho377.1 236 43 (by decide))
              have g386 := bF_236_12 hG376
              have g387 : (σ374.1 236 12).toInt = (σq23.1 236 12).toInt := congrArg Int32.toInt (ho377.1 236 12 (by decide))
              have g388 := bF_236_11 hG376
              have g389 : (σ374.1 236 11).toInt = (σq23.1 236 11).toInt := congrArg Int32.toInt (ho377.1 236 11 (by decide))
              exact j46 _ hG376 (onm.tr hoq23 (onm.mono ho377 (by decide))) hR378 (show (σ374.1 236 13).toInt = 0 → (σ374.1 236 39).toInt + (σ374.1 236 43).toInt - (σ374.1 236 12).toInt + (σ.1 236 12).toInt ≤ 420 * (σ.1 236 19).toInt + (σ374.1 236 11).toInt by omega) (show (σ374.1 236 39).toInt + (σ374.1 236 43).toInt - (σ374.1 236 12).toInt + (σ.1 236 12).toInt ≤ 420 * (σ.1 236 19).toInt + 402 by omega) (show (σ.1 236 11).toInt ≤ (σ374.1 236 11).toInt by omega) (show (σ374.1 236 11).toInt ≤ 400 by omega) (show 0 ≤ (σ374.1 236 13).toInt by omega) (show (σ374.1 236 13).toInt ≤ 2 by omega) (show (σ374.1 236 13).toInt = 0 → (σ374.1 236 12).toInt ≤ 6 by omega) (show (σ374.1 236 13).toInt = 0 → (σ.1 236 13).toInt = 0 by omega) (show (σ374.1 236 11).toInt = (σq23.1 236 11).toInt by omega) (show (σq23.1 236 13).toInt = 0 by omega) (show (σ374.1 236 13).toInt = 0 → (σ374.1 236 12).toInt ≤ 5 by omega) (show (σ374.1 236 12).toInt ≤ 6 by omega) (show (σ374.1 236 39).toInt + (σ374.1 236 43).toInt - (σ374.1 236 12).toInt + (σ.1 236 12).toInt ≤ 420 * (σ.1 236 19).toInt + (σ374.1 236 11).toInt by omega) (EXg.W hE381 (by omega))
      have g390 := bF_236_12 hGq12
      have g391 := bF_236_43 hGq12
      have g392 := bF_236_11 hGq12
      have g393 := bF_236_13 hGq12
      have g394 := bF_236_19 hGq12
      have g395 : (σq12.1 236 19).toInt = (σ.1 236 19).toInt := congrArg Int32.toInt (hoq12.1 236 19 (by decide))
      have gE12 := EXg.rg hx12_11
      refine a_iload_n C dX12_expression_12 (i := 2) rfl rfl ?_
      refine s_if_eq C dX12_expression_13 (tgt := 272) rfl (fun c396 => absurd c396 (by omega)) (fun c396 => ?_)
      refine a_aload_n C dX12_expression_16 (i := 0) rfl rfl ?_
      refine a_get C fl_RX12_191 (i := 236) kd_236 (hid 236 (by decide)) (v := .int (σq12.1 236 13)) rfl dX12_expression_17 ?_
      refine s_if_ne C dX12_expression_20 (tgt := 272) rfl (fun c397 => ?_) (fun c397 => ?_)
      ·
        exact a_vret Rt dX12_expression_272 (⟨hGq12, hoq12, hRq12, (show (σ.1 236 39).toInt ≤ (σq12.1 236 39).toInt by intros; omega), (show (σq12.1 236 13).toInt = 0 → (σq12.1 236 39).toInt ≤ 420 * (σ.1 236 19).toInt + (σq12.1 236 11).toInt by intros; omega), (show (σq12.1 236 39).toInt ≤ 420 * (σ.1 236 19).toInt + 412 by intros; omega), (show (σ.1 236 11).toInt ≤ (σq12.1 236 11).toInt by intros; omega), (show (σq12.1 236 13).toInt = 0 → (σ.1 236 13).toInt = 0 by intros; omega), (show (σq12.1 236 13).toInt = 0 → (σq12.1 236 12).toInt = (σ.1 236 12).toInt by intros; omega), (show (σq12.1 236 13).toInt = 0 → (σ.1 236 11).toInt + 1 ≤ (σq12.1 236 11).toInt by intros; omega), (EXg.fin hx12_11 (by omega))⟩)
      ·
        refine AW.sub (vs' := [some (.ref (ad 236)), some (.int y12_1), none]) (lsub_of (by simp [lsubB])) ?_
        exact j23 100000 _ (by omega) hGq12 hoq12 hRq12 (show (σq12.1 236 13).toInt = 0 → (σq12.1 236 39).toInt + (σq12.1 236 43).toInt - (σq12.1 236 12).toInt + (σ.1 236 12).toInt ≤ 420 * (σ.1 236 19).toInt + (σq12.1 236 11).toInt by omega) (show (σq12.1 236 39).toInt + (σq12.1 236 43).toInt - (σq12.1 236 12).toInt + (σ.1 236 12).toInt ≤ 420 * (σ.1 236 19).toInt + 402 by omega) (show (σ.1 236 11).toInt ≤ (σq12.1 236 11).toInt by omega) (show (σq12.1 236 11).toInt ≤ 400 by omega) (show 0 ≤ (σq12.1 236 13).toInt by omega) (show (σq12.1 236 13).toInt ≤ 2 by omega) (show (σq12.1 236 13).toInt = 0 → (σq12.1 236 12).toInt ≤ 6 by omega) (show (σq12.1 236 13).toInt = 0 → (σ.1 236 13).toInt = 0 by omega) (show (σq12.1 236 11).toInt ≤ (σq12.1 236 11).toInt by omega) (EXg.W hx12_11 (by omega))
  have gsd := bF_236_19 hG
  have gop := bF_236_12 hG
  refine a_aload_n C dX12_expression_0 (i := 0) rfl rfl ?_
  refine s_iconst C dX12_expression_1 (0) (by decide) (fun z398 h399 => ?_)
  refine a_put C fp_RX12_284 (i := 236) kd_236 (hid 236 (by decide)) rfl rfl dX12_expression_2 ?_
  have hG400 := wF_236_43 (v := z398) hG (by omega) (by omega)
  have hR401 := AGm.ony (σ1 := hI _ 236 43 z398) hR (onm.F (L := [1043]) onm.rf (by decide)) (by decide)
  refine a_aload_n C dX12_expression_5 (i := 0) rfl rfl ?_
  have g402 := bF_236_12 hG
  refine a_get C fl_RX12_218 (i := 236) kd_236 (hid 236 (by decide)) (v := .int (σ.1 236 12)) rfl dX12_expression_6 ?_
  refine a_istore_n C dX12_expression_9 (i := 1) rfl (by decide) rfl (vs1 := [some (.ref (ad 236)), some (.int (σ.1 236 12)), none]) rfl ?_
  refine s_iconst C dX12_expression_10 (1) (by decide) (fun z403 h404 => ?_)
  refine a_istore_n C dX12_expression_11 (i := 2) rfl (by decide) rfl (vs1 := [some (.ref (ad 236)), some (.int (σ.1 236 12)), some (.int z403)]) rfl ?_
  have g405 := bF_236_11 hG
  have g406 : ((hI σ 236 43 z398).1 236 11).toInt = (σ.1 236 11).toInt := congrArg Int32.toInt rfl
  have g407 := bF_236_13 hG
  have g408 : ((hI σ 236 43 z398).1 236 39).toInt = (σ.1 236 39).toInt := congrArg Int32.toInt rfl
  have g409 : ((hI σ 236 43 z398).1 236 12).toInt = (σ.1 236 12).toInt := congrArg Int32.toInt rfl
  have g410 : ((hI σ 236 43 z398).1 236 43).toInt = z398.toInt := congrArg Int32.toInt rfl
  exact j12 100000 _ (σ.1 236 12) z403 (by omega) hG400 (onm.F onm.rf (by decide)) hR401 (by omega) (by omega) (show (σ.1 236 13).toInt = 0 → (σ.1 236 39).toInt + z398.toInt - (σ.1 236 12).toInt + (σ.1 236 12).toInt ≤ 420 * (σ.1 236 19).toInt + (σ.1 236 11).toInt by omega) (show (σ.1 236 39).toInt + z398.toInt - (σ.1 236 12).toInt + (σ.1 236 12).toInt ≤ 420 * (σ.1 236 19).toInt + 412 by omega) (show (σ.1 236 11).toInt ≤ (σ.1 236 11).toInt by omega) (show (σ.1 236 11).toInt ≤ 400 by omega) (show 0 ≤ (σ.1 236 13).toInt by omega) (show (σ.1 236 13).toInt ≤ 2 by omega) (show (σ.1 236 13).toInt = 0 → (σ.1 236 12).toInt ≤ 6 by omega) (show (σ.1 236 13).toInt = 0 → (σ.1 236 13).toInt = 0 by omega) (show (σ.1 236 12).toInt = (σ.1 236 12).toInt by omega) (EXg.start (by omega) (by omega) (by omega) (fun c _ => ⟨rfl, rfl⟩))

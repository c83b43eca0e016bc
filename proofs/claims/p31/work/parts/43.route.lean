theorem nof_18 : ∀ q ∈ bdF, ¬ q.1 = 18 := by decide
theorem wA_18 {σ : HS} {v : Int32} {j : Nat} (h : GIc σ) (h1 : 0 ≤ v.toInt) (h2 : v.toInt ≤ 1023) : GIc (hI σ 18 j v) := GIc.I h (fun q hq e1 _ => absurd e1 (nof_18 q hq)) (hA_of (L := [(18, 0, 1023)]) (by decide) (fun q hq => by simp only [List.mem_cons, List.not_mem_nil, or_false] at hq; subst hq; exact ⟨h1, h2⟩)) (fun a ha e hk => absurd e (by omega)) (by decide)
theorem nof_19 : ∀ q ∈ bdF, ¬ q.1 = 19 := by decide
theorem wA_19 {σ : HS} {v : Int32} {j : Nat} (h : GIc σ) (h1 : -1 ≤ v.toInt) (h2 : v.toInt ≤ 1023) : GIc (hI σ 19 j v) := GIc.I h (fun q hq e1 _ => absurd e1 (nof_19 q hq)) (hA_of (L := [(19, -1, 1023)]) (by decide) (fun q hq => by simp only [List.mem_cons, List.not_mem_nil, or_false] at hq; subst hq; exact ⟨h1, h2⟩)) (fun a ha e hk => absurd e (by omega)) (by decide)
theorem nof_20 : ∀ q ∈ bdF, ¬ q.1 = 20 := by decide
theorem wA_20 {σ : HS} {v : Int32} {j : Nat} (h : GIc σ) : GIc (hI σ 20 j v) := GIc.I h (fun q hq e1 _ => absurd e1 (nof_20 q hq)) (hA_of (L := []) (by decide) (fun _ h => absurd h List.not_mem_nil)) (fun a ha e hk => absurd e (by omega)) (by decide)
theorem nof_21 : ∀ q ∈ bdF, ¬ q.1 = 21 := by decide
theorem wA_21 {σ : HS} {v : Int32} {j : Nat} (h : GIc σ) : GIc (hI σ 21 j v) := GIc.I h (fun q hq e1 _ => absurd e1 (nof_21 q hq)) (hA_of (L := []) (by decide) (fun _ h => absurd h List.not_mem_nil)) (fun a ha e hk => absurd e (by omega)) (by decide)
theorem wF_17_1 {σ : HS} {v : Int32} (h : GIc σ) (h1 : 0 ≤ v.toInt) (h2 : v.toInt ≤ 1024) : GIc (hI σ 17 1 v) := GIc.I h (hF_of (L := [(17, 1, 0, 1024)]) (by decide) (fun q hq => by simp only [List.mem_cons, List.not_mem_nil, or_false] at hq; subst hq; exact ⟨h1, h2⟩)) (hA_of (L := []) (by decide) (fun _ h => absurd h List.not_mem_nil)) (fun a ha e hk => absurd e (by omega)) (by decide)
theorem wF_17_5 {σ : HS} {v : Int32} (h : GIc σ) (h1 : 0 ≤ v.toInt) (h2 : v.toInt ≤ 12) : GIc (hI σ 17 5 v) := GIc.I h (hF_of (L := [(17, 5, 0, 12)]) (by decide) (fun q hq => by simp only [List.mem_cons, List.not_mem_nil, or_false] at hq; subst hq; exact ⟨h1, h2⟩)) (hA_of (L := []) (by decide) (fun _ h => absurd h List.not_mem_nil)) (fun a ha e hk => absurd e (by omega)) (by decide)
theorem bF_17_1 {σ : HS} (h : GIc σ) : 0 ≤ (σ.1 17 1).toInt ∧ (σ.1 17 1).toInt ≤ 1024 := h.1 (17, 1, 0, 1024) (by decide)
theorem bF_17_5 {σ : HS} (h : GIc σ) : 0 ≤ (σ.1 17 5).toInt ∧ (σ.1 17 5).toInt ≤ 12 := h.1 (17, 5, 0, 12) (by decide)
theorem bA_18 {σ : HS} (h : GIc σ) (j : Nat) : 0 ≤ (σ.1 18 j).toInt ∧ (σ.1 18 j).toInt ≤ 1023 := h.2.1 (18, 0, 1023) (by decide) j
theorem bA_19 {σ : HS} (h : GIc σ) (j : Nat) : -1 ≤ (σ.1 19 j).toInt ∧ (σ.1 19 j).toInt ≤ 1023 := h.2.1 (19, -1, 1023) (by decide) j
/-! Route: what is met can be come back from -/
def RCH (σ : HS) (s : Nat) : Prop := (σ.1 19 s).toInt ≠ -1
def QR (σ : HS) : Prop := (∀ s, s < 1024 → RCH σ s → RCH σ (σ.1 19 s).toInt.toNat) ∧ (∀ q : Nat, (q : Int) < (σ.1 17 1).toInt → RCH σ (σ.1 18 q).toInt.toNat)
/-- more may have been met, the size is as it was -/
def RM (σ σ1 : HS) : Prop := (∀ s, RCH σ s → RCH σ1 s) ∧ (σ.1 17 1).toInt ≤ (σ1.1 17 1).toInt ∧ (σ1.1 17 5).toInt = (σ.1 17 5).toInt
theorem RM.rf {σ : HS} : RM σ σ := ⟨fun _ h => h, Int.le_refl _, rfl⟩
theorem RM.tr {σ σ1 σ2 : HS} (h : RM σ σ1) (h2 : RM σ1 σ2) : RM σ σ2 := ⟨fun s hs => h2.1 s (h.1 s hs), Int.le_trans h.2.1 h2.2.1, h2.2.2.trans h.2.2⟩
theorem i32_shr1 {x y : Int32} (hx : 0 ≤ x.toInt) (hy : y.toInt = 1) : (x >>> (y &&& 31)).toInt = x.toInt / 2 := by
  obtain ⟨n, hn, e, e2⟩ := i32_nat hx
  have ey : y = 1 := Int32.toInt_inj.mp hy
  rw [ey, e, show ((1 : Int32) &&& 31) = 1 by decide, pk_shrN hn 1 1 (by decide), nI_toInt (by omega), nI_toInt hn]
  omega
theorem shl_tab : ∀ e, e ≤ 8 → 1 ≤ ((1 : Int32) <<< (nI e &&& 31)).toInt ∧ ((1 : Int32) <<< (nI e &&& 31)).toInt ≤ 256 := by decide
theorem i32_shl1 {x y : Int32} (hx : x.toInt = 1) (hy : 0 ≤ y.toInt ∧ y.toInt ≤ 8) : 1 ≤ (x <<< (y &&& 31)).toInt ∧ (x <<< (y &&& 31)).toInt ≤ 256 := by
  obtain ⟨n, hn, e, e2⟩ := i32_nat hy.1
  have ex : x = 1 := Int32.toInt_inj.mp hx
  rw [ex, e]
  exact shl_tab n (by omega)
theorem meet_QR {σ : HS} {n1 n2 n3 : Nat} {x1 x2 x3 z : Int32} (hQ : QR σ) (e1 : (n1 : Int) = x1.toInt) (h2 : 0 ≤ x2.toInt ∧ x2.toInt ≤ 1023) (hb : RCH σ x2.toInt.toNat ∨ x2.toInt = x1.toInt) (e3 : (n3 : Int) = (σ.1 17 1).toInt) (hz : z.toInt = (σ.1 17 1).toInt + 1) : QR (hI (hI (hI (hI σ 19 n1 x2) 20 n2 x3) 18 n3 x1) 17 1 z) ∧ RM σ (hI (hI (hI (hI σ 19 n1 x2) 20 n2 x3) 18 n3 x1) 17 1 z) := by
  obtain ⟨τ, hτ⟩ : ∃ τ, τ = hI (hI (hI (hI σ 19 n1 x2) 20 n2 x3) 18 n3 x1) 17 1 z := ⟨_, rfl⟩
  have f19 : τ.1 19 = (hI σ 19 n1 x2).1 19 := by rw [hτ]; rfl
  have g1 : τ.1 19 n1 = x2 := by rw [f19]; exact hI_s
  have g2 : ∀ s, s ≠ n1 → τ.1 19 s = σ.1 19 s := fun s hs => by rw [f19]; exact hI_n hs
  have f18 : τ.1 18 = (hI σ 18 n3 x1).1 18 := by rw [hτ]; rfl
  have g3 : τ.1 18 n3 = x1 := by rw [f18]; exact hI_s
  have g4 : ∀ q, q ≠ n3 → τ.1 18 q = σ.1 18 q := fun q hq => by rw [f18]; exact hI_n hq
  have g5 : τ.1 17 1 = z := by rw [hτ]; rfl
  have g6 : τ.1 17 5 = σ.1 17 5 := by rw [hτ]; rfl
  rw [← hτ]
  have r1 : RCH τ n1 := by unfold RCH; rw [g1]; omega
  have mono : ∀ s, RCH σ s → RCH τ s := fun s hs => by
    by_cases e : s = n1
    · rw [e]; exact r1
    · unfold RCH; rw [g2 s e]; exact hs
  refine ⟨⟨fun s hs hr => ?_, fun q hq => ?_⟩, mono, by rw [g5, hz]; omega, by rw [g6]⟩
  · by_cases e : s = n1
    · rw [e, g1]
      rcases hb with h | h
      · exact mono _ h
      · rw [show x2.toInt.toNat = n1 by omega]; exact r1
    · rw [g2 s e]
      refine mono _ (hQ.1 s hs ?_)
      unfold RCH at hr
      rw [g2 s e] at hr
      exact hr
  · rw [g5, hz] at hq
    by_cases e : q = n3
    · rw [e, g3, show x1.toInt.toNat = n1 by omega]; exact r1
    · rw [g4 q e]
      exact mono _ (hQ.2 q (by omega))
theorem dX7_find_0 : decode cX7_find 0 = .ok (.iload_n 1, 1) := by decide +kernel
theorem dX7_find_1 : decode cX7_find 1 = .ok (.ifCond .lt 21, 3) := by decide +kernel
theorem dX7_find_4 : decode cX7_find 4 = .ok (.iload_n 1, 1) := by decide +kernel
theorem dX7_find_5 : decode cX7_find 5 = .ok (.sipush 1024, 3) := by decide +kernel
theorem dX7_find_8 : decode cX7_find 8 = .ok (.if_icmp .ge 14, 3) := by decide +kernel
theorem dX7_find_11 : decode cX7_find 11 = .ok (.iload_n 2, 1) := by decide +kernel
theorem dX7_find_12 : decode cX7_find 12 = .ok (.ifCond .lt 10, 3) := by decide +kernel
theorem dX7_find_15 : decode cX7_find 15 = .ok (.iload_n 2, 1) := by decide +kernel
theorem dX7_find_16 : decode cX7_find 16 = .ok (.sipush 1024, 3) := by decide +kernel
theorem dX7_find_19 : decode cX7_find 19 = .ok (.if_icmp .lt 5, 3) := by decide +kernel
theorem dX7_find_22 : decode cX7_find 22 = .ok (.iconst 0, 1) := by decide +kernel
theorem dX7_find_23 : decode cX7_find 23 = .ok (.ireturn, 1) := by decide +kernel
theorem dX7_find_24 : decode cX7_find 24 = .ok (.aload_n 0, 1) := by decide +kernel
theorem dX7_find_25 : decode cX7_find 25 = .ok (.getfield 15, 3) := by decide +kernel
theorem dX7_find_28 : decode cX7_find 28 = .ok (.iconst (-1), 1) := by decide +kernel
theorem dX7_find_29 : decode cX7_find 29 = .ok (.invokestatic 24, 3) := by decide +kernel
theorem dX7_find_32 : decode cX7_find 32 = .ok (.aload_n 0, 1) := by decide +kernel
theorem dX7_find_33 : decode cX7_find 33 = .ok (.iconst 0, 1) := by decide +kernel
theorem dX7_find_34 : decode cX7_find 34 = .ok (.putfield 30, 3) := by decide +kernel
theorem dX7_find_37 : decode cX7_find 37 = .ok (.aload_n 0, 1) := by decide +kernel
theorem dX7_find_38 : decode cX7_find 38 = .ok (.iload_n 1, 1) := by decide +kernel
theorem dX7_find_39 : decode cX7_find 39 = .ok (.iload_n 1, 1) := by decide +kernel
theorem dX7_find_40 : decode cX7_find 40 = .ok (.iconst 0, 1) := by decide +kernel
theorem dX7_find_41 : decode cX7_find 41 = .ok (.invokevirtual 34, 3) := by decide +kernel
theorem dX7_find_44 : decode cX7_find 44 = .ok (.iconst 0, 1) := by decide +kernel
theorem dX7_find_45 : decode cX7_find 45 = .ok (.istore_n 3, 1) := by decide +kernel
theorem dX7_find_46 : decode cX7_find 46 = .ok (.aload_n 0, 1) := by decide +kernel
theorem dX7_find_47 : decode cX7_find 47 = .ok (.iconst 0, 1) := by decide +kernel
theorem dX7_find_48 : decode cX7_find 48 = .ok (.putfield 38, 3) := by decide +kernel
theorem dX7_find_51 : decode cX7_find 51 = .ok (.aload_n 0, 1) := by decide +kernel
theorem dX7_find_52 : decode cX7_find 52 = .ok (.getfield 38, 3) := by decide +kernel
theorem dX7_find_55 : decode cX7_find 55 = .ok (.bipush 12, 2) := by decide +kernel
theorem dX7_find_57 : decode cX7_find 57 = .ok (.if_icmp .ge 54, 3) := by decide +kernel
theorem dX7_find_60 : decode cX7_find 60 = .ok (.aload_n 0, 1) := by decide +kernel
theorem dX7_find_61 : decode cX7_find 61 = .ok (.getfield 15, 3) := by decide +kernel
theorem dX7_find_64 : decode cX7_find 64 = .ok (.iload_n 2, 1) := by decide +kernel
theorem dX7_find_65 : decode cX7_find 65 = .ok (.iaload, 1) := by decide +kernel
theorem dX7_find_66 : decode cX7_find 66 = .ok (.iconst (-1), 1) := by decide +kernel
theorem dX7_find_67 : decode cX7_find 67 = .ok (.if_icmp .ne 44, 3) := by decide +kernel
theorem dX7_find_70 : decode cX7_find 70 = .ok (.aload_n 0, 1) := by decide +kernel
theorem dX7_find_71 : decode cX7_find 71 = .ok (.getfield 30, 3) := by decide +kernel
theorem dX7_find_74 : decode cX7_find 74 = .ok (.istore 4, 2) := by decide +kernel
theorem dX7_find_76 : decode cX7_find 76 = .ok (.iload_n 3, 1) := by decide +kernel
theorem dX7_find_77 : decode cX7_find 77 = .ok (.iload 4, 2) := by decide +kernel
theorem dX7_find_79 : decode cX7_find 79 = .ok (.if_icmp .ge 19, 3) := by decide +kernel
theorem dX7_find_82 : decode cX7_find 82 = .ok (.aload_n 0, 1) := by decide +kernel
theorem dX7_find_83 : decode cX7_find 83 = .ok (.aload_n 0, 1) := by decide +kernel
theorem dX7_find_84 : decode cX7_find 84 = .ok (.getfield 11, 3) := by decide +kernel
theorem dX7_find_87 : decode cX7_find 87 = .ok (.iload_n 3, 1) := by decide +kernel
theorem dX7_find_88 : decode cX7_find 88 = .ok (.iaload, 1) := by decide +kernel
theorem dX7_find_89 : decode cX7_find 89 = .ok (.invokevirtual 41, 3) := by decide +kernel
theorem dX7_find_92 : decode cX7_find 92 = .ok (.iinc 3 1, 3) := by decide +kernel
theorem dX7_find_95 : decode cX7_find 95 = .ok (.goto (-19), 3) := by decide +kernel
theorem dX7_find_98 : decode cX7_find 98 = .ok (.aload_n 0, 1) := by decide +kernel
theorem dX7_find_99 : decode cX7_find 99 = .ok (.dup, 1) := by decide +kernel
theorem dX7_find_100 : decode cX7_find 100 = .ok (.getfield 38, 3) := by decide +kernel
theorem dX7_find_103 : decode cX7_find 103 = .ok (.iconst 1, 1) := by decide +kernel
theorem dX7_find_104 : decode cX7_find 104 = .ok (.iadd, 1) := by decide +kernel
theorem dX7_find_105 : decode cX7_find 105 = .ok (.putfield 38, 3) := by decide +kernel
theorem dX7_find_108 : decode cX7_find 108 = .ok (.goto (-57), 3) := by decide +kernel
theorem dX7_find_111 : decode cX7_find 111 = .ok (.aload_n 0, 1) := by decide +kernel
theorem dX7_find_112 : decode cX7_find 112 = .ok (.getfield 15, 3) := by decide +kernel
theorem dX7_find_115 : decode cX7_find 115 = .ok (.iload_n 2, 1) := by decide +kernel
theorem dX7_find_116 : decode cX7_find 116 = .ok (.iaload, 1) := by decide +kernel
theorem dX7_find_117 : decode cX7_find 117 = .ok (.iconst (-1), 1) := by decide +kernel
theorem dX7_find_118 : decode cX7_find 118 = .ok (.if_icmp .ne 5, 3) := by decide +kernel
theorem dX7_find_121 : decode cX7_find 121 = .ok (.iconst 0, 1) := by decide +kernel
theorem dX7_find_122 : decode cX7_find 122 = .ok (.ireturn, 1) := by decide +kernel
theorem dX7_find_123 : decode cX7_find 123 = .ok (.iload_n 2, 1) := by decide +kernel
theorem dX7_find_124 : decode cX7_find 124 = .ok (.istore 4, 2) := by decide +kernel
theorem dX7_find_126 : decode cX7_find 126 = .ok (.aload_n 0, 1) := by decide +kernel
theorem dX7_find_127 : decode cX7_find 127 = .ok (.getfield 38, 3) := by decide +kernel
theorem dX7_find_130 : decode cX7_find 130 = .ok (.iconst 1, 1) := by decide +kernel
theorem dX7_find_131 : decode cX7_find 131 = .ok (.isub, 1) := by decide +kernel
theorem dX7_find_132 : decode cX7_find 132 = .ok (.istore 5, 2) := by decide +kernel
theorem dX7_find_134 : decode cX7_find 134 = .ok (.iload 5, 2) := by decide +kernel
theorem dX7_find_136 : decode cX7_find 136 = .ok (.ifCond .lt 32, 3) := by decide +kernel
theorem dX7_find_139 : decode cX7_find 139 = .ok (.aload_n 0, 1) := by decide +kernel
theorem dX7_find_140 : decode cX7_find 140 = .ok (.getfield 21, 3) := by decide +kernel
theorem dX7_find_143 : decode cX7_find 143 = .ok (.iload 5, 2) := by decide +kernel
theorem dX7_find_145 : decode cX7_find 145 = .ok (.aload_n 0, 1) := by decide +kernel
theorem dX7_find_146 : decode cX7_find 146 = .ok (.getfield 18, 3) := by decide +kernel
theorem dX7_find_149 : decode cX7_find 149 = .ok (.iload 4, 2) := by decide +kernel
theorem dX7_find_151 : decode cX7_find 151 = .ok (.iaload, 1) := by decide +kernel
theorem dX7_find_152 : decode cX7_find 152 = .ok (.iastore, 1) := by decide +kernel
theorem dX7_find_153 : decode cX7_find 153 = .ok (.aload_n 0, 1) := by decide +kernel
theorem dX7_find_154 : decode cX7_find 154 = .ok (.getfield 15, 3) := by decide +kernel
theorem dX7_find_157 : decode cX7_find 157 = .ok (.iload 4, 2) := by decide +kernel
theorem dX7_find_159 : decode cX7_find 159 = .ok (.iaload, 1) := by decide +kernel
theorem dX7_find_160 : decode cX7_find 160 = .ok (.istore 4, 2) := by decide +kernel
theorem dX7_find_162 : decode cX7_find 162 = .ok (.iinc 5 (-1), 3) := by decide +kernel
theorem dX7_find_165 : decode cX7_find 165 = .ok (.goto (-31), 3) := by decide +kernel
theorem dX7_find_168 : decode cX7_find 168 = .ok (.iconst 1, 1) := by decide +kernel
theorem dX7_find_169 : decode cX7_find 169 = .ok (.ireturn, 1) := by decide +kernel
theorem dX7_goOnFrom_0 : decode cX7_goOnFrom 0 = .ok (.iload_n 1, 1) := by decide +kernel
theorem dX7_goOnFrom_1 : decode cX7_goOnFrom 1 = .ok (.iconst 1, 1) := by decide +kernel
theorem dX7_goOnFrom_2 : decode cX7_goOnFrom 2 = .ok (.ishr, 1) := by decide +kernel
theorem dX7_goOnFrom_3 : decode cX7_goOnFrom 3 = .ok (.istore_n 2, 1) := by decide +kernel
theorem dX7_goOnFrom_4 : decode cX7_goOnFrom 4 = .ok (.iload_n 1, 1) := by decide +kernel
theorem dX7_goOnFrom_5 : decode cX7_goOnFrom 5 = .ok (.iconst 1, 1) := by decide +kernel
theorem dX7_goOnFrom_6 : decode cX7_goOnFrom 6 = .ok (.iand, 1) := by decide +kernel
theorem dX7_goOnFrom_7 : decode cX7_goOnFrom 7 = .ok (.ifCond .ne 11, 3) := by decide +kernel
theorem dX7_goOnFrom_10 : decode cX7_goOnFrom 10 = .ok (.aload_n 0, 1) := by decide +kernel
theorem dX7_goOnFrom_11 : decode cX7_goOnFrom 11 = .ok (.iload_n 2, 1) := by decide +kernel
theorem dX7_goOnFrom_12 : decode cX7_goOnFrom 12 = .ok (.iload_n 1, 1) := by decide +kernel
theorem dX7_goOnFrom_13 : decode cX7_goOnFrom 13 = .ok (.iconst 0, 1) := by decide +kernel
theorem dX7_goOnFrom_14 : decode cX7_goOnFrom 14 = .ok (.invokevirtual 34, 3) := by decide +kernel
theorem dX7_goOnFrom_17 : decode cX7_goOnFrom 17 = .ok (.return_, 1) := by decide +kernel
theorem dX7_goOnFrom_18 : decode cX7_goOnFrom 18 = .ok (.iconst 1, 1) := by decide +kernel
theorem dX7_goOnFrom_19 : decode cX7_goOnFrom 19 = .ok (.istore_n 3, 1) := by decide +kernel
theorem dX7_goOnFrom_20 : decode cX7_goOnFrom 20 = .ok (.iload_n 3, 1) := by decide +kernel
theorem dX7_goOnFrom_21 : decode cX7_goOnFrom 21 = .ok (.bipush 9, 2) := by decide +kernel
theorem dX7_goOnFrom_23 : decode cX7_goOnFrom 23 = .ok (.if_icmp .gt 33, 3) := by decide +kernel
theorem dX7_goOnFrom_26 : decode cX7_goOnFrom 26 = .ok (.iconst 1, 1) := by decide +kernel
theorem dX7_goOnFrom_27 : decode cX7_goOnFrom 27 = .ok (.iload_n 3, 1) := by decide +kernel
theorem dX7_goOnFrom_28 : decode cX7_goOnFrom 28 = .ok (.iconst 1, 1) := by decide +kernel
theorem dX7_goOnFrom_29 : decode cX7_goOnFrom 29 = .ok (.isub, 1) := by decide +kernel
theorem dX7_goOnFrom_30 : decode cX7_goOnFrom 30 = .ok (.ishl, 1) := by decide +kernel
theorem dX7_goOnFrom_31 : decode cX7_goOnFrom 31 = .ok (.istore 4, 2) := by decide +kernel
theorem dX7_goOnFrom_33 : decode cX7_goOnFrom 33 = .ok (.iload_n 2, 1) := by decide +kernel
theorem dX7_goOnFrom_34 : decode cX7_goOnFrom 34 = .ok (.iload 4, 2) := by decide +kernel
theorem dX7_goOnFrom_36 : decode cX7_goOnFrom 36 = .ok (.iand, 1) := by decide +kernel
theorem dX7_goOnFrom_37 : decode cX7_goOnFrom 37 = .ok (.ifCond .ne 13, 3) := by decide +kernel
theorem dX7_goOnFrom_40 : decode cX7_goOnFrom 40 = .ok (.aload_n 0, 1) := by decide +kernel
theorem dX7_goOnFrom_41 : decode cX7_goOnFrom 41 = .ok (.iload_n 2, 1) := by decide +kernel
theorem dX7_goOnFrom_42 : decode cX7_goOnFrom 42 = .ok (.iload 4, 2) := by decide +kernel
theorem dX7_goOnFrom_44 : decode cX7_goOnFrom 44 = .ok (.ior, 1) := by decide +kernel
theorem dX7_goOnFrom_45 : decode cX7_goOnFrom 45 = .ok (.iload_n 1, 1) := by decide +kernel
theorem dX7_goOnFrom_46 : decode cX7_goOnFrom 46 = .ok (.iload_n 3, 1) := by decide +kernel
theorem dX7_goOnFrom_47 : decode cX7_goOnFrom 47 = .ok (.invokevirtual 34, 3) := by decide +kernel
theorem dX7_goOnFrom_50 : decode cX7_goOnFrom 50 = .ok (.iinc 3 1, 3) := by decide +kernel
theorem dX7_goOnFrom_53 : decode cX7_goOnFrom 53 = .ok (.goto (-33), 3) := by decide +kernel
theorem dX7_goOnFrom_56 : decode cX7_goOnFrom 56 = .ok (.return_, 1) := by decide +kernel
theorem dX7_meet_0 : decode cX7_meet 0 = .ok (.aload_n 0, 1) := by decide +kernel
theorem dX7_meet_1 : decode cX7_meet 1 = .ok (.getfield 15, 3) := by decide +kernel
theorem dX7_meet_4 : decode cX7_meet 4 = .ok (.iload_n 1, 1) := by decide +kernel
theorem dX7_meet_5 : decode cX7_meet 5 = .ok (.iaload, 1) := by decide +kernel
theorem dX7_meet_6 : decode cX7_meet 6 = .ok (.iconst (-1), 1) := by decide +kernel
theorem dX7_meet_7 : decode cX7_meet 7 = .ok (.if_icmp .ne 47, 3) := by decide +kernel
theorem dX7_meet_10 : decode cX7_meet 10 = .ok (.aload_n 0, 1) := by decide +kernel
theorem dX7_meet_11 : decode cX7_meet 11 = .ok (.getfield 30, 3) := by decide +kernel
theorem dX7_meet_14 : decode cX7_meet 14 = .ok (.sipush 1024, 3) := by decide +kernel
theorem dX7_meet_17 : decode cX7_meet 17 = .ok (.if_icmp .ge 37, 3) := by decide +kernel
theorem dX7_meet_20 : decode cX7_meet 20 = .ok (.aload_n 0, 1) := by decide +kernel
theorem dX7_meet_21 : decode cX7_meet 21 = .ok (.getfield 15, 3) := by decide +kernel
theorem dX7_meet_24 : decode cX7_meet 24 = .ok (.iload_n 1, 1) := by decide +kernel
theorem dX7_meet_25 : decode cX7_meet 25 = .ok (.iload_n 2, 1) := by decide +kernel
theorem dX7_meet_26 : decode cX7_meet 26 = .ok (.iastore, 1) := by decide +kernel
theorem dX7_meet_27 : decode cX7_meet 27 = .ok (.aload_n 0, 1) := by decide +kernel
theorem dX7_meet_28 : decode cX7_meet 28 = .ok (.getfield 18, 3) := by decide +kernel
theorem dX7_meet_31 : decode cX7_meet 31 = .ok (.iload_n 1, 1) := by decide +kernel
theorem dX7_meet_32 : decode cX7_meet 32 = .ok (.iload_n 3, 1) := by decide +kernel
theorem dX7_meet_33 : decode cX7_meet 33 = .ok (.iastore, 1) := by decide +kernel
theorem dX7_meet_34 : decode cX7_meet 34 = .ok (.aload_n 0, 1) := by decide +kernel
theorem dX7_meet_35 : decode cX7_meet 35 = .ok (.getfield 11, 3) := by decide +kernel
theorem dX7_meet_38 : decode cX7_meet 38 = .ok (.aload_n 0, 1) := by decide +kernel
theorem dX7_meet_39 : decode cX7_meet 39 = .ok (.getfield 30, 3) := by decide +kernel
theorem dX7_meet_42 : decode cX7_meet 42 = .ok (.iload_n 1, 1) := by decide +kernel
theorem dX7_meet_43 : decode cX7_meet 43 = .ok (.iastore, 1) := by decide +kernel
theorem dX7_meet_44 : decode cX7_meet 44 = .ok (.aload_n 0, 1) := by decide +kernel
theorem dX7_meet_45 : decode cX7_meet 45 = .ok (.dup, 1) := by decide +kernel
theorem dX7_meet_46 : decode cX7_meet 46 = .ok (.getfield 30, 3) := by decide +kernel
theorem dX7_meet_49 : decode cX7_meet 49 = .ok (.iconst 1, 1) := by decide +kernel
theorem dX7_meet_50 : decode cX7_meet 50 = .ok (.iadd, 1) := by decide +kernel
theorem dX7_meet_51 : decode cX7_meet 51 = .ok (.putfield 30, 3) := by decide +kernel
theorem dX7_meet_54 : decode cX7_meet 54 = .ok (.return_, 1) := by decide +kernel
set_option maxHeartbeats 4000000 in
set_option maxRecDepth 100000 in
theorem S_meet {l : Launch} {D : va_G} {ids : List Nat} {ad : Nat → Nat} {ca : Nat → ClassId} {σ : HS} {x1 x2 x3 : Int32} (hid : ∀ i, i < 277 → i ∈ ids) (hG : GIc σ) (hQ : QR σ) (h1 : 0 ≤ x1.toInt ∧ x1.toInt ≤ 1023) (h2 : 0 ≤ x2.toInt ∧ x2.toInt ≤ 1023) (hb : RCH σ x2.toInt.toNat ∨ x2.toInt = x1.toInt) : Kv l D ids ad ca yX7_meet cX7_meet 4 0 0 [.ref (ad 17), .int x1, .int x2, .int x3] σ (fun σ1 => GIc σ1 ∧ ony [17, 18, 19, 20] σ σ1 ∧ QR σ1 ∧ RM σ σ1) := by
  refine Kv.of (by decide) (Nat.le_of_ble_eq_true rfl) 0 (fun Γ C Rt => ?_)
  show AW ids ad ca Γ 0 [some (.ref (ad 17)), some (.int x1), some (.int x2), some (.int x3)] [] σ
  have ht := bF_17_1 hG
  refine a_aload_n C dX7_meet_0 (i := 0) rfl rfl ?_
  refine a_get C fl_RX7_15 (i := 17) kd_17 (hid 17 (by decide)) (v := .ref (ad 19)) rfl dX7_meet_1 ?_
  refine a_iload_n C dX7_meet_4 (i := 1) rfl rfl ?_
  refine s_iald C (i := 19) kd_19 (hid 19 (by decide)) al_19 (by omega) (by omega) dX7_meet_5 (fun n0 e0 => ?_)
  refine s_iconst C dX7_meet_6 (-1) (by decide) (fun z6 hz6 => ?_)
  refine s_ic_ne C dX7_meet_7 (tgt := 54) rfl (fun _ => ?_) (fun _ => ?_)
  · exact a_vret Rt dX7_meet_54 ⟨hG, ony.rf, hQ, RM.rf⟩
  refine a_aload_n C dX7_meet_10 (i := 0) rfl rfl ?_
  refine a_get C fl_RX7_30 (i := 17) kd_17 (hid 17 (by decide)) (v := .int (σ.1 17 1)) rfl dX7_meet_11 ?_
  refine s_sipush C dX7_meet_14 (1024) (by decide) (fun z14 hz14 => ?_)
  refine s_ic_ge C dX7_meet_17 (tgt := 54) rfl (fun _ => ?_) (fun c2 => ?_)
  · exact a_vret Rt dX7_meet_54 ⟨hG, ony.rf, hQ, RM.rf⟩
  refine a_aload_n C dX7_meet_20 (i := 0) rfl rfl ?_
  refine a_get C fl_RX7_15 (i := 17) kd_17 (hid 17 (by decide)) (v := .ref (ad 19)) rfl dX7_meet_21 ?_
  refine a_iload_n C dX7_meet_24 (i := 1) rfl rfl ?_
  refine a_iload_n C dX7_meet_25 (i := 2) rfl rfl ?_
  refine s_iast C (i := 19) kd_19 (hid 19 (by decide)) al_19 (by omega) (by omega) dX7_meet_26 (fun n1 e1 => ?_)
  have g1 := wA_19 (v := x2) (j := n1) hG (by omega) (by omega)
  refine a_aload_n C dX7_meet_27 (i := 0) rfl rfl ?_
  refine a_get C fl_RX7_18 (i := 17) kd_17 (hid 17 (by decide)) (v := .ref (ad 20)) rfl dX7_meet_28 ?_
  refine a_iload_n C dX7_meet_31 (i := 1) rfl rfl ?_
  refine a_iload_n C dX7_meet_32 (i := 3) rfl rfl ?_
  refine s_iast C (i := 20) kd_20 (hid 20 (by decide)) al_20 (by omega) (by omega) dX7_meet_33 (fun n2 e2 => ?_)
  have g2 := wA_20 (v := x3) (j := n2) g1
  refine a_aload_n C dX7_meet_34 (i := 0) rfl rfl ?_
  refine a_get C fl_RX7_11 (i := 17) kd_17 (hid 17 (by decide)) (v := .ref (ad 18)) rfl dX7_meet_35 ?_
  refine a_aload_n C dX7_meet_38 (i := 0) rfl rfl ?_
  refine a_get C fl_RX7_30 (i := 17) kd_17 (hid 17 (by decide)) (v := .int (σ.1 17 1)) rfl dX7_meet_39 ?_
  refine a_iload_n C dX7_meet_42 (i := 1) rfl rfl ?_
  refine s_iast C (i := 18) kd_18 (hid 18 (by decide)) al_18 (by omega) (by omega) dX7_meet_43 (fun n3 e3 => ?_)
  have g3 := wA_18 (v := x1) (j := n3) g2 (by omega) (by omega)
  refine a_aload_n C dX7_meet_44 (i := 0) rfl rfl ?_
  refine a_dup C dX7_meet_45 rfl ?_
  refine a_get C fl_RX7_30 (i := 17) kd_17 (hid 17 (by decide)) (v := .int (σ.1 17 1)) rfl dX7_meet_46 ?_
  refine s_iconst C dX7_meet_49 (1) (by decide) (fun z49 hz49 => ?_)
  refine s_iadd C dX7_meet_50 (by omega) (fun z ez => ?_)
  refine a_put C fp_RX7_30 (i := 17) kd_17 (hid 17 (by decide)) rfl rfl dX7_meet_51 ?_
  have g4 := wF_17_1 (v := z) g3 (by omega) (by omega)
  obtain ⟨q1, q2⟩ := meet_QR (n2 := n2) (x3 := x3) (z := z) hQ e1 h2 hb e3 (by omega)
  exact a_vret Rt dX7_meet_54 ⟨g4, ony.I (ony.I (ony.I (ony.I ony.rf (by decide)) (by decide)) (by decide)) (by decide), q1, q2⟩
set_option maxHeartbeats 4000000 in
set_option maxRecDepth 100000 in
theorem S_goOnFrom {l : Launch} {D : va_G} {ids : List Nat} {ad : Nat → Nat} {ca : Nat → ClassId} {σ : HS} {x1 : Int32} (hid : ∀ i, i < 277 → i ∈ ids) (hG : GIc σ) (hQ : QR σ) (h1 : 0 ≤ x1.toInt ∧ x1.toInt ≤ 1023) (hb : RCH σ x1.toInt.toNat) : Kv l D ids ad ca yX7_goOnFrom cX7_goOnFrom 5 1 23 [.ref (ad 17), .int x1] σ (fun σ1 => GIc σ1 ∧ ony [17, 18, 19, 20] σ σ1 ∧ QR σ1 ∧ RM σ σ1) := by
  refine Kv.of (by decide) (Nat.le_of_ble_eq_true rfl) 3 (fun Γ C Rt => ?_)
  show AW ids ad ca Γ 0 [some (.ref (ad 17)), some (.int x1), none, none, none] [] σ
  refine a_iload_n C dX7_goOnFrom_0 (i := 1) rfl rfl ?_
  refine s_iconst C dX7_goOnFrom_1 (1) (by decide) (fun z1 hz1 => ?_)
  refine a_ishr C dX7_goOnFrom_2 ?_
  refine s_val (fun nx ex => ?_)
  have hnx : nx.toInt = x1.toInt / 2 := by rw [← ex]; exact i32_shr1 (by omega) hz1
  refine a_istore_n C dX7_goOnFrom_3 (i := 2) rfl (by decide) rfl (vs1 := [some (.ref (ad 17)), some (.int x1), some (.int nx), none, none]) rfl ?_
  refine a_iload_n C dX7_goOnFrom_4 (i := 1) rfl rfl ?_
  refine s_iconst C dX7_goOnFrom_5 (1) (by decide) (fun z5 hz5 => ?_)
  refine s_iand C dX7_goOnFrom_6 (by omega) (fun b0 hb0 => ?_)
  refine s_if_ne C dX7_goOnFrom_7 (tgt := 18) rfl (fun _ => ?_) (fun _ => ?_)
  ·
    refine s_iconst C dX7_goOnFrom_18 (1) (by decide) (fun z18 hz18 => ?_)
    refine a_istore_n C dX7_goOnFrom_19 (i := 3) rfl (by decide) rfl (vs1 := [some (.ref (ad 17)), some (.int x1), some (.int nx), some (.int z18), none]) rfl ?_
    have loop : ∀ (d : Nat) (σ2 : HS) (h : Int32), 10 - h.toInt < d → 1 ≤ h.toInt ∧ h.toInt ≤ 10 → GIc σ2 → ony [17, 18, 19, 20] σ σ2 → QR σ2 → RM σ σ2 → AW ids ad ca Γ 20 [some (.ref (ad 17)), some (.int x1), some (.int nx), some (.int h), none] [] σ2 := by
      intro d
      induction d with
      | zero => intro σ2 h hd hh; exfalso; omega
      | succ d ih =>
        intro σ2 h hd hh hG2 ho2 hQ2 hM2
        refine a_iload_n C dX7_goOnFrom_20 (i := 3) rfl rfl ?_
        refine s_bipush C dX7_goOnFrom_21 (9) (by decide) (fun z21 hz21 => ?_)
        refine s_ic_gt C dX7_goOnFrom_23 (tgt := 56) rfl (fun _ => ?_) (fun c3 => ?_)
        · exact a_vret Rt dX7_goOnFrom_56 ⟨hG2, ho2, hQ2, hM2⟩
        refine s_iconst C dX7_goOnFrom_26 (1) (by decide) (fun z26 hz26 => ?_)
        refine a_iload_n C dX7_goOnFrom_27 (i := 3) rfl rfl ?_
        refine s_iconst C dX7_goOnFrom_28 (1) (by decide) (fun z28 hz28 => ?_)
        refine s_isub C dX7_goOnFrom_29 (by omega) (fun e9 he9 => ?_)
        refine a_ishl C dX7_goOnFrom_30 ?_
        refine s_val (fun bt ebt => ?_)
        have hbt : 1 ≤ bt.toInt ∧ bt.toInt ≤ 256 := by rw [← ebt]; exact i32_shl1 hz26 (by omega)
        refine a_istore C dX7_goOnFrom_31 (by decide) rfl (vs1 := [some (.ref (ad 17)), some (.int x1), some (.int nx), some (.int h), some (.int bt)]) rfl ?_
        refine a_iload_n C dX7_goOnFrom_33 (i := 2) rfl rfl ?_
        refine a_iload C dX7_goOnFrom_34 rfl ?_
        refine s_iandU C dX7_goOnFrom_36 (fun b1 => ?_)
        have back : ∀ (σ3 : HS), GIc σ3 → ony [17, 18, 19, 20] σ σ3 → QR σ3 → RM σ σ3 → AW ids ad ca Γ 50 [some (.ref (ad 17)), some (.int x1), some (.int nx), some (.int h), some (.int bt)] [] σ3 := by
          intro σ3 a1 a2 a3 a4
          refine s_iinc C dX7_goOnFrom_50 rfl (1) (by decide) (by omega) (by decide) rfl (fun h2 eh2 => ?_)
          show AW ids ad ca Γ 53 [some (.ref (ad 17)), some (.int x1), some (.int nx), some (.int h2), some (.int bt)] _ _
          refine a_goto C dX7_goOnFrom_53 (tgt := 20) rfl ?_
          refine AW.sub (vs' := [some (.ref (ad 17)), some (.int x1), some (.int nx), some (.int h2), none]) (lsub_of (by simp [lsubB])) ?_
          exact ih σ3 h2 (by omega) (by omega) a1 a2 a3 a4
        refine s_if_ne C dX7_goOnFrom_37 (tgt := 50) rfl (fun _ => back σ2 hG2 ho2 hQ2 hM2) (fun _ => ?_)
        refine a_aload_n C dX7_goOnFrom_40 (i := 0) rfl rfl ?_
        refine a_iload_n C dX7_goOnFrom_41 (i := 2) rfl rfl ?_
        refine a_iload C dX7_goOnFrom_42 rfl ?_
        refine s_ior C dX7_goOnFrom_44 9 (by decide) (by omega) (by omega) (fun w hw => ?_)
        refine a_iload_n C dX7_goOnFrom_45 (i := 1) rfl rfl ?_
        refine a_iload_n C dX7_goOnFrom_46 (i := 3) rfl rfl ?_
        have hw2 : w.toInt < 512 := by have := hw.2; omega
        refine a_callVv C (i := 17) kd_17 (hid 17 (by decide)) ⟨_, _, rfl⟩ (by decide) (S_meet hid hG2 hQ2 (by omega) (by omega) (Or.inl (hM2.1 _ hb))) mi_X7_meet ml_RX7_34 rfl rfl (Nat.le_of_ble_eq_true rfl) (Nat.le_of_ble_eq_true rfl) (Nat.le_of_ble_eq_true rfl) dX7_goOnFrom_47 (fun σ3 q3 => ?_)
        exact back σ3 q3.1 (ony.tr ho2 q3.2.1) q3.2.2.1 (RM.tr hM2 q3.2.2.2)
    exact loop 100 σ z18 (by omega) (by omega) hG ony.rf hQ RM.rf
  ·
    refine a_aload_n C dX7_goOnFrom_10 (i := 0) rfl rfl ?_
    refine a_iload_n C dX7_goOnFrom_11 (i := 2) rfl rfl ?_
    refine a_iload_n C dX7_goOnFrom_12 (i := 1) rfl rfl ?_
    refine s_iconst C dX7_goOnFrom_13 (0) (by decide) (fun z13 hz13 => ?_)
    refine a_callVv C (i := 17) kd_17 (hid 17 (by decide)) ⟨_, _, rfl⟩ (by decide) (S_meet hid hG hQ (by omega) (by omega) (Or.inl hb)) mi_X7_meet ml_RX7_34 rfl rfl (Nat.le_of_ble_eq_true rfl) (Nat.le_of_ble_eq_true rfl) (Nat.le_of_ble_eq_true rfl) dX7_goOnFrom_14 (fun σ3 q3 => ?_)
    exact a_vret Rt dX7_goOnFrom_17 q3
set_option maxHeartbeats 4000000 in
set_option maxRecDepth 100000 in
theorem S_fill19 {l : Launch} {D : va_G} {ids : List Nat} {ad : Nat → Nat} {ca : Nat → ClassId} {σ : HS} {x2 : Int32} (hid : ∀ i, i < 277 → i ∈ ids) (hG : GIc σ) (hx : x2.toInt = -1) : Kv l D ids ad ca yJ7_fill_53178 cJ7_fill_53178 4 0 0 [.ref (ad 19), .int x2] σ (fun σ1 => GIc σ1 ∧ ony [19] σ σ1 ∧ ∀ j : Nat, j < 1024 → σ1.1 19 j = x2) := by
  refine Kv.of (by decide) (Nat.le_of_ble_eq_true rfl) 2 (fun Γ C Rt => ?_)
  show AW ids ad ca Γ 0 [some (.ref (ad 19)), some (.int x2), none, none] [] σ
  refine s_iconst C dJ7_fill_53178_0 (0) (by decide) (fun z0 hz0 => ?_)
  refine a_istore_n C dJ7_fill_53178_1 (i := 2) rfl (by decide) rfl (vs1 := [some (.ref (ad 19)), some (.int x2), some (.int z0), none]) rfl ?_
  refine a_aload_n C dJ7_fill_53178_2 (i := 0) rfl rfl ?_
  refine s_alen C (by rw [kd_19]; decide) (hid 19 (by decide)) al_19 (by decide) dJ7_fill_53178_3 (fun ln hln => ?_)
  refine a_istore_n C dJ7_fill_53178_4 (i := 3) rfl (by decide) rfl (vs1 := [some (.ref (ad 19)), some (.int x2), some (.int z0), some (.int ln)]) rfl ?_
  have loop : ∀ (d : Nat) (σ2 : HS) (i : Int32), 1024 - i.toInt < d → 0 ≤ i.toInt ∧ i.toInt ≤ 1024 → GIc σ2 → ony [19] σ σ2 → (∀ j : Nat, (j : Int) < i.toInt → σ2.1 19 j = x2) → AW ids ad ca Γ 5 [some (.ref (ad 19)), some (.int x2), some (.int i), some (.int ln)] [] σ2 := by
    intro d
    induction d with
    | zero => intro σ2 i hd hi; exfalso; omega
    | succ d ih =>
      intro σ2 i hd hi hG2 ho2 hf2
      refine a_iload_n C dJ7_fill_53178_5 (i := 2) rfl rfl ?_
      refine a_iload_n C dJ7_fill_53178_6 (i := 3) rfl rfl ?_
      refine s_ic_ge C dJ7_fill_53178_7 (tgt := 20) rfl (fun c => ?_) (fun c => ?_)
      · exact a_vret Rt dJ7_fill_53178_20 ⟨hG2, ho2, fun j hj => hf2 j (by omega)⟩
      refine a_aload_n C dJ7_fill_53178_10 (i := 0) rfl rfl ?_
      refine a_iload_n C dJ7_fill_53178_11 (i := 2) rfl rfl ?_
      refine a_iload_n C dJ7_fill_53178_12 (i := 1) rfl rfl ?_
      refine s_iast C (i := 19) kd_19 (hid 19 (by decide)) al_19 (by omega) (by omega) dJ7_fill_53178_13 (fun n1 e1 => ?_)
      have g1 := wA_19 (v := x2) (j := n1) hG2 (by omega) (by omega)
      refine s_iinc C dJ7_fill_53178_14 rfl (1) (by decide) (by omega) (by decide) rfl (fun i2 ei2 => ?_)
      show AW ids ad ca Γ 17 [some (.ref (ad 19)), some (.int x2), some (.int i2), some (.int ln)] _ _
      refine a_goto C dJ7_fill_53178_17 (tgt := 5) rfl ?_
      refine ih _ i2 (by omega) (by omega) g1 (ony.I ho2 (by decide)) (fun j hj => ?_)
      by_cases e : j = n1
      · rw [e]; exact hI_s
      · rw [hI_n e]; exact hf2 j (by omega)
  exact loop 5000 σ z0 (by omega) (by omega) hG ony.rf (fun j hj => by omega)
set_option maxHeartbeats 4000000 in
set_option maxRecDepth 100000 in
theorem S_X7_find_17 {l : Launch} {D : va_G} {ids : List Nat} {ad : Nat → Nat} {ca : Nat → ClassId} {σ : HS} {x1 x2 : Int32} (hid : ∀ i, i < 277 → i ∈ ids) (hG : GIc σ) : Ki l D ids ad ca yX7_find cX7_find 6 .boolean 2 47 [.ref (ad 17), .int x1, .int x2] σ (fun r σ1 => (GIc σ1) ∧ (ony [17, 18, 19, 20, 21] σ σ1) ∧ (0 ≤ r.toInt ∧ r.toInt ≤ 1)) := by
  refine Ki.of (by decide) (Nat.le_of_ble_eq_true rfl) 3 (fun Γ C Rt => ?_)
  show AW ids ad ca Γ 0 [some (.ref (ad 17)), some (.int x1), some (.int x2), none, none, none] [] σ
  have no : AW ids ad ca Γ 22 [some (.ref (ad 17)), some (.int x1), some (.int x2), none, none, none] [] σ := by
    refine s_iconst C dX7_find_22 (0) (by decide) (fun z22 hz22 => ?_)
    exact a_iret Rt dX7_find_23 (nar_z (by omega)).1 ⟨hG, ony.rf, by omega⟩
  refine a_iload_n C dX7_find_0 (i := 1) rfl rfl ?_
  refine s_if_lt C dX7_find_1 (tgt := 22) rfl (fun _ => no) (fun c1 => ?_)
  refine a_iload_n C dX7_find_4 (i := 1) rfl rfl ?_
  refine s_sipush C dX7_find_5 (1024) (by decide) (fun z5 hz5 => ?_)
  refine s_ic_ge C dX7_find_8 (tgt := 22) rfl (fun _ => no) (fun c2 => ?_)
  refine a_iload_n C dX7_find_11 (i := 2) rfl rfl ?_
  refine s_if_lt C dX7_find_12 (tgt := 22) rfl (fun _ => no) (fun c3 => ?_)
  refine a_iload_n C dX7_find_15 (i := 2) rfl rfl ?_
  refine s_sipush C dX7_find_16 (1024) (by decide) (fun z16 hz16 => ?_)
  refine s_ic_lt C dX7_find_19 (tgt := 24) rfl (fun c4 => ?_) (fun _ => no)
  refine a_aload_n C dX7_find_24 (i := 0) rfl rfl ?_
  refine a_get C fl_RX7_15 (i := 17) kd_17 (hid 17 (by decide)) (v := .ref (ad 19)) rfl dX7_find_25 ?_
  refine s_iconst C dX7_find_28 (-1) (by decide) (fun z28 hz28 => ?_)
  refine a_callSv C (S_fill19 hid hG hz28) ms_J7_fill_53178 ml_RX7_24 rfl rfl (Nat.le_of_ble_eq_true rfl) (Nat.le_of_ble_eq_true rfl) (Nat.le_of_ble_eq_true rfl) dX7_find_29 (fun σa qa => ?_)
  obtain ⟨ga, oa, fa⟩ := qa
  refine a_aload_n C dX7_find_32 (i := 0) rfl rfl ?_
  refine s_iconst C dX7_find_33 (0) (by decide) (fun z33 hz33 => ?_)
  refine a_put C fp_RX7_30 (i := 17) kd_17 (hid 17 (by decide)) rfl rfl dX7_find_34 ?_
  have gb := wF_17_1 (v := z33) ga (by omega) (by omega)
  have qb : QR (hI σa 17 1 z33) := ⟨fun s hs hr => absurd (show (σa.1 19 s).toInt = -1 by rw [fa s hs]; exact hz28) hr, fun q hq => by
    have : (q : Int) < z33.toInt := hq
    omega⟩
  refine a_aload_n C dX7_find_37 (i := 0) rfl rfl ?_
  refine a_iload_n C dX7_find_38 (i := 1) rfl rfl ?_
  refine a_iload_n C dX7_find_39 (i := 1) rfl rfl ?_
  refine s_iconst C dX7_find_40 (0) (by decide) (fun z40 hz40 => ?_)
  refine a_callVv C (i := 17) kd_17 (hid 17 (by decide)) ⟨_, _, rfl⟩ (by decide) (S_meet hid gb qb (by omega) (by omega) (Or.inr rfl)) mi_X7_meet ml_RX7_34 rfl rfl (Nat.le_of_ble_eq_true rfl) (Nat.le_of_ble_eq_true rfl) (Nat.le_of_ble_eq_true rfl) dX7_find_41 (fun σc qc => ?_)
  obtain ⟨gc, oc, qc, mc⟩ := qc
  have oc2 : ony [17, 18, 19, 20, 21] σ σc := ony.tr (ony.I (ony.mono oa (by decide)) (by decide)) (ony.mono oc (by decide))
  refine s_iconst C dX7_find_44 (0) (by decide) (fun z44 hz44 => ?_)
  refine a_istore_n C dX7_find_45 (i := 3) rfl (by decide) rfl (vs1 := [some (.ref (ad 17)), some (.int x1), some (.int x2), some (.int z44), none, none]) rfl ?_
  refine a_aload_n C dX7_find_46 (i := 0) rfl rfl ?_
  refine s_iconst C dX7_find_47 (0) (by decide) (fun z47 hz47 => ?_)
  refine a_put C fp_RX7_38 (i := 17) kd_17 (hid 17 (by decide)) rfl rfl dX7_find_48 ?_
  have gd := wF_17_5 (v := z47) gc (by omega) (by omega)
  have qd : QR (hI σc 17 5 z47) := qc
  have back : ∀ (d : Nat) (σ2 : HS) (s i h e : Int32), i.toInt + 1 < d → 0 ≤ s.toInt ∧ s.toInt ≤ 1023 → -1 ≤ i.toInt ∧ i.toInt ≤ 11 → RCH σ2 s.toInt.toNat → GIc σ2 → ony [17, 18, 19, 20, 21] σ σ2 → QR σ2 → AW ids ad ca Γ 134 [some (.ref (ad 17)), some (.int x1), some (.int x2), some (.int h), some (.int s), some (.int i)] [] σ2 := by
    intro d
    induction d with
    | zero => intro σ2 s i h e hd hs hi; exfalso; omega
    | succ d ih =>
      intro σ2 s i h e hd hs hi hr hG2 ho2 hQ2
      refine a_iload C dX7_find_134 rfl ?_
      refine s_if_lt C dX7_find_136 (tgt := 168) rfl (fun _ => ?_) (fun c => ?_)
      ·
        refine s_iconst C dX7_find_168 (1) (by decide) (fun z168 hz168 => ?_)
        exact a_iret Rt dX7_find_169 (nar_z (by omega)).1 ⟨hG2, ho2, by omega⟩
      refine a_aload_n C dX7_find_139 (i := 0) rfl rfl ?_
      refine a_get C fl_RX7_21 (i := 17) kd_17 (hid 17 (by decide)) (v := .ref (ad 21)) rfl dX7_find_140 ?_
      refine a_iload C dX7_find_143 rfl ?_
      refine a_aload_n C dX7_find_145 (i := 0) rfl rfl ?_
      refine a_get C fl_RX7_18 (i := 17) kd_17 (hid 17 (by decide)) (v := .ref (ad 20)) rfl dX7_find_146 ?_
      refine a_iload C dX7_find_149 rfl ?_
      refine s_iald C (i := 20) kd_20 (hid 20 (by decide)) al_20 (by omega) (by omega) dX7_find_151 (fun n0 e0 => ?_)
      refine s_val (fun v0 ev0 => ?_)
      refine s_iast C (i := 21) kd_21 (hid 21 (by decide)) al_21 (by omega) (by omega) dX7_find_152 (fun n1 e1 => ?_)
      have g1 := wA_21 (v := v0) (j := n1) hG2
      refine s_gen (fun t => GIc t ∧ ony [17, 18, 19, 20, 21] σ t ∧ QR t ∧ RCH t s.toInt.toNat ∧ RCH t (t.1 19 s.toInt.toNat).toInt.toNat) ⟨g1, ony.I ho2 (by decide), hQ2, hr, hQ2.1 _ (by omega) hr⟩ (fun σ3 w3 => ?_)
      obtain ⟨g3, o3, q3, r3, r4⟩ := w3
      refine a_aload_n C dX7_find_153 (i := 0) rfl rfl ?_
      refine a_get C fl_RX7_15 (i := 17) kd_17 (hid 17 (by decide)) (v := .ref (ad 19)) rfl dX7_find_154 ?_
      refine a_iload C dX7_find_157 rfl ?_
      refine s_iald C (i := 19) kd_19 (hid 19 (by decide)) al_19 (by omega) (by omega) dX7_find_159 (fun n2 e2 => ?_)
      refine s_val (fun v2 ev2 => ?_)
      have b2 := bA_19 g3 n2
      rw [ev2] at b2
      have hn2 : s.toInt.toNat = n2 := by omega
      rw [hn2, ev2] at r4
      rw [hn2] at r3
      unfold RCH at r3
      rw [ev2] at r3
      refine a_istore C dX7_find_160 (by decide) rfl (vs1 := [some (.ref (ad 17)), some (.int x1), some (.int x2), some (.int h), some (.int v2), some (.int i)]) rfl ?_
      refine s_iinc C dX7_find_162 rfl (-1) (by decide) (by omega) (by decide) rfl (fun i2 ei2 => ?_)
      show AW ids ad ca Γ 165 [some (.ref (ad 17)), some (.int x1), some (.int x2), some (.int h), some (.int v2), some (.int i2)] _ _
      refine a_goto C dX7_find_165 (tgt := 134) rfl ?_
      exact ih σ3 v2 i2 h e (by omega) (by omega) (by omega) r4 g3 o3 q3
  have loop : ∀ (d : Nat) (σ2 : HS) (h : Int32) (e : Option Value), 12 - (σ2.1 17 5).toInt < d → 0 ≤ h.toInt ∧ h.toInt ≤ 1024 → GIc σ2 → ony [17, 18, 19, 20, 21] σ σ2 → QR σ2 → AW ids ad ca Γ 51 [some (.ref (ad 17)), some (.int x1), some (.int x2), some (.int h), none, none] [] σ2 := by
    intro d
    induction d with
    | zero =>
      intro σ2 h e hd hh hG2
      have := bF_17_5 hG2
      exfalso
      omega
    | succ d ih =>
      intro σ2 h e hd hh hG2 ho2 hQ2
      have b5 := bF_17_5 hG2
      have b1 := bF_17_1 hG2
      have out : AW ids ad ca Γ 111 [some (.ref (ad 17)), some (.int x1), some (.int x2), some (.int h), none, none] [] σ2 := by
        refine a_aload_n C dX7_find_111 (i := 0) rfl rfl ?_
        refine a_get C fl_RX7_15 (i := 17) kd_17 (hid 17 (by decide)) (v := .ref (ad 19)) rfl dX7_find_112 ?_
        refine a_iload_n C dX7_find_115 (i := 2) rfl rfl ?_
        refine s_iald C (i := 19) kd_19 (hid 19 (by decide)) al_19 (by omega) (by omega) dX7_find_116 (fun n0 e0 => ?_)
        refine s_val (fun v0 ev0 => ?_)
        refine s_iconst C dX7_find_117 (-1) (by decide) (fun z117 hz117 => ?_)
        refine s_ic_ne C dX7_find_118 (tgt := 123) rfl (fun c9 => ?_) (fun _ => ?_)
        ·
          refine a_iload_n C dX7_find_123 (i := 2) rfl rfl ?_
          refine a_istore C dX7_find_124 (by decide) rfl (vs1 := [some (.ref (ad 17)), some (.int x1), some (.int x2), some (.int h), some (.int x2), none]) rfl ?_
          refine a_aload_n C dX7_find_126 (i := 0) rfl rfl ?_
          refine a_get C fl_RX7_38 (i := 17) kd_17 (hid 17 (by decide)) (v := .int (σ2.1 17 5)) rfl dX7_find_127 ?_
          refine s_iconst C dX7_find_130 (1) (by decide) (fun z130 hz130 => ?_)
          refine s_isub C dX7_find_131 (by omega) (fun i0 ei0 => ?_)
          refine a_istore C dX7_find_132 (by decide) rfl (vs1 := [some (.ref (ad 17)), some (.int x1), some (.int x2), some (.int h), some (.int x2), some (.int i0)]) rfl ?_
          refine back 100 σ2 x2 i0 h h (by omega) (by omega) (by omega) ?_ hG2 ho2 hQ2
          show (σ2.1 19 x2.toInt.toNat).toInt ≠ -1
          rw [show x2.toInt.toNat = n0 by omega, ev0]
          omega
        ·
          refine s_iconst C dX7_find_121 (0) (by decide) (fun z121 hz121 => ?_)
          exact a_iret Rt dX7_find_122 (nar_z (by omega)).1 ⟨hG2, ho2, by omega⟩
      refine a_aload_n C dX7_find_51 (i := 0) rfl rfl ?_
      refine a_get C fl_RX7_38 (i := 17) kd_17 (hid 17 (by decide)) (v := .int (σ2.1 17 5)) rfl dX7_find_52 ?_
      refine s_bipush C dX7_find_55 (12) (by decide) (fun z55 hz55 => ?_)
      refine s_ic_ge C dX7_find_57 (tgt := 111) rfl (fun _ => out) (fun c5 => ?_)
      refine a_aload_n C dX7_find_60 (i := 0) rfl rfl ?_
      refine a_get C fl_RX7_15 (i := 17) kd_17 (hid 17 (by decide)) (v := .ref (ad 19)) rfl dX7_find_61 ?_
      refine a_iload_n C dX7_find_64 (i := 2) rfl rfl ?_
      refine s_iald C (i := 19) kd_19 (hid 19 (by decide)) al_19 (by omega) (by omega) dX7_find_65 (fun n0 e0 => ?_)
      refine s_iconst C dX7_find_66 (-1) (by decide) (fun z66 hz66 => ?_)
      refine s_ic_ne C dX7_find_67 (tgt := 111) rfl (fun _ => out) (fun _ => ?_)
      refine a_aload_n C dX7_find_70 (i := 0) rfl rfl ?_
      refine a_get C fl_RX7_30 (i := 17) kd_17 (hid 17 (by decide)) (v := .int (σ2.1 17 1)) rfl dX7_find_71 ?_
      refine a_istore C dX7_find_74 (by decide) rfl (vs1 := [some (.ref (ad 17)), some (.int x1), some (.int x2), some (.int h), some (.int (σ2.1 17 1)), none]) rfl ?_
      have inner : ∀ (d2 : Nat) (σ3 : HS) (h3 : Int32), 1024 - h3.toInt < d2 → 0 ≤ h3.toInt ∧ h3.toInt ≤ 1024 → GIc σ3 → ony [17, 18, 19, 20, 21] σ σ3 → QR σ3 → RM σ2 σ3 → AW ids ad ca Γ 76 [some (.ref (ad 17)), some (.int x1), some (.int x2), some (.int h3), some (.int (σ2.1 17 1)), none] [] σ3 := by
        intro d2
        induction d2 with
        | zero => intro σ3 h3 hd3 hh3; exfalso; omega
        | succ d2 ih2 =>
          intro σ3 h3 hd3 hh3 hG3 ho3 hQ3 hM3
          have m1 := hM3.2.1
          have m2 := hM3.2.2
          refine a_iload_n C dX7_find_76 (i := 3) rfl rfl ?_
          refine a_iload C dX7_find_77 rfl ?_
          refine s_ic_ge C dX7_find_79 (tgt := 98) rfl (fun _ => ?_) (fun c6 => ?_)
          ·
            refine a_aload_n C dX7_find_98 (i := 0) rfl rfl ?_
            refine a_dup C dX7_find_99 rfl ?_
            refine a_get C fl_RX7_38 (i := 17) kd_17 (hid 17 (by decide)) (v := .int (σ3.1 17 5)) rfl dX7_find_100 ?_
            refine s_iconst C dX7_find_103 (1) (by decide) (fun z103 hz103 => ?_)
            refine s_iadd C dX7_find_104 (by omega) (fun s5 es5 => ?_)
            refine a_put C fp_RX7_38 (i := 17) kd_17 (hid 17 (by decide)) rfl rfl dX7_find_105 ?_
            have g5 := wF_17_5 (v := s5) hG3 (by omega) (by omega)
            refine a_goto C dX7_find_108 (tgt := 51) rfl ?_
            refine AW.sub (vs' := [some (.ref (ad 17)), some (.int x1), some (.int x2), some (.int h3), none, none]) (lsub_of (by simp [lsubB])) ?_
            refine ih _ h3 none ?_ hh3 g5 (ony.I ho3 (by decide)) hQ3
            show 12 - s5.toInt < d
            omega
          refine a_aload_n C dX7_find_82 (i := 0) rfl rfl ?_
          refine a_aload_n C dX7_find_83 (i := 0) rfl rfl ?_
          refine a_get C fl_RX7_11 (i := 17) kd_17 (hid 17 (by decide)) (v := .ref (ad 18)) rfl dX7_find_84 ?_
          refine a_iload_n C dX7_find_87 (i := 3) rfl rfl ?_
          refine s_iald C (i := 18) kd_18 (hid 18 (by decide)) al_18 (by omega) (by omega) dX7_find_88 (fun n7 e7 => ?_)
          refine s_val (fun v7 ev7 => ?_)
          have b7 := bA_18 hG3 n7
          rw [ev7] at b7
          have r7 := hQ3.2 n7 (by omega)
          rw [ev7] at r7
          refine a_callVv C (i := 17) kd_17 (hid 17 (by decide)) ⟨_, _, rfl⟩ (by decide) (S_goOnFrom hid hG3 hQ3 (by omega) r7) mi_X7_goOnFrom ml_RX7_41 rfl rfl (Nat.le_of_ble_eq_true rfl) (Nat.le_of_ble_eq_true rfl) (Nat.le_of_ble_eq_true rfl) dX7_find_89 (fun σ4 q4 => ?_)
          refine s_iinc C dX7_find_92 rfl (1) (by decide) (by omega) (by decide) rfl (fun h4 eh4 => ?_)
          show AW ids ad ca Γ 95 [some (.ref (ad 17)), some (.int x1), some (.int x2), some (.int h4), some (.int (σ2.1 17 1)), none] _ _
          refine a_goto C dX7_find_95 (tgt := 76) rfl ?_
          exact ih2 σ4 h4 (by omega) (by omega) q4.1 (ony.tr ho3 (ony.mono q4.2.1 (by decide))) q4.2.2.1 (RM.tr hM3 q4.2.2.2)
      exact inner 5000 σ2 h (by omega) (by omega) hG2 ho2 hQ2 RM.rf
  refine loop 100 _ z44 none ?_ (by omega) gd (ony.I oc2 (by decide)) qd
  show 12 - z47.toInt < (100 : Nat)
  omega

/-! ways, class and reference -/
theorem m1_lt {n : Nat} (h : n < 2 ^ 31) : (-1 : Int32) < nI n := i32_m1 (nI_pos h)
theorem m1_ne {n : Nat} (h : n < 2 ^ 31) : ¬ nI n = -1 := fun e => absurd (e ▸ m1_lt h) (by decide)
theorem kpm2 : ∀ k, k ≤ 7 → ¬ (-2 : Int32) = nI k := by decide
def kpI (o : Option Nat) : Int32 := match o with
  | none => -2
  | some x => nI x
theorem kpI_eq {o : Option Nat} {k : Nat} (hx : ∀ x, o = some x → x ≤ 40) (hk : k ≤ 7) : kpI o = nI k ↔ o = some k := by
  cases o with
  | none =>
    constructor
    · intro h; exact absurd h (kpm2 k hk)
    · intro h; cases h
  | some x =>
    have h1 := hx x rfl
    constructor
    · intro h
      have : x = k := (nI_eq (by omega) (by omega)).mp h
      rw [this]
    · intro h
      cases h
      rfl
theorem sum_le (c : Nat) : ∀ r : List Nat, (∀ x ∈ r, x ≤ c) → r.sum ≤ c * r.length
  | [], _ => by simp
  | h :: r, hx => by
    rw [List.sum_cons, List.length_cons, Nat.mul_succ]
    have h1 := hx h List.mem_cons_self
    have h2 := sum_le c r (fun x hx' => hx x (List.mem_cons_of_mem _ hx'))
    omega
theorem kp_le {p : Nat} {r : List Nat} (h5 : p ≤ 5) (hr : r.length = p) (hx : ∀ x ∈ r, x ≤ 7) : ∀ x, kpF p 0 0 0 r = some x → x ≤ 40 := by
  intro x h
  rw [kpF_eq] at h
  split at h
  · have h := Option.some.inj h
    have h1 := sum_le 7 r hx
    rw [hr] at h1
    have h2 := Nat.div_le_self (0 + r.sum) p
    omega
  · cases h
theorem dg_get (b : Nat) : ∀ d w j, j < d → (dg b d w).getD j 0 = w / b ^ (d - 1 - j) % b
  | d + 1, w, 0, _ => rfl
  | d + 1, w, j + 1, h => by
    show (dg b d w).getD j 0 = _
    rw [dg_get b d w j (by omega), show d + 1 - 1 - (j + 1) = d - 1 - j by omega]
theorem dg_lt {b : Nat} (hb : 0 < b) : ∀ d w, ∀ x ∈ dg b d w, x < b
  | 0, w, x, h => by simp [dg] at h
  | d + 1, w, x, h => by
    rcases List.mem_cons.mp (show x ∈ w / b ^ d % b :: dg b d w from h) with e | h
    · rw [e]; exact Nat.mod_lt _ hb
    · exact dg_lt hb d w x h
theorem drop_at {r : List Nat} {i : Nat} (h : i < r.length) : r.drop i = r.getD i 0 :: r.drop (i + 1) := by
  rw [List.drop_eq_getElem_cons h]
  congr 1
  simp [List.getD, List.getElem?_eq_getElem h]
theorem v9 {p c : Nat} (h : c < p) : nI (p - c) + (-1) = nI (p - c - 1) := by
  obtain ⟨q, hq⟩ : ∃ q, p - c = q + 1 := ⟨p - c - 1, by omega⟩
  rw [hq]
  exact pk_m1 q
theorem in_lt {p0 p3 : Int32} (b : ¬ p0 < 1) (t : ¬ 5 < p0) (h : ¬ (p0 - 1) < p3) : p3 < p0 := by
  obtain ⟨p, hp, rfl⟩ := i32_nI (n := 5) (a := 5) (by decide) (i32_one b) t
  have h1 : 1 ≤ p := nI_one b (by omega)
  have ep : nI p - 1 = nI (p - 1) := pk_sub (b := 1) h1
  rw [ep, Int32.lt_iff_toInt_lt, nI_toInt (by omega)] at h
  rw [Int32.lt_iff_toInt_lt, nI_toInt (by omega)]
  omega
theorem dX11_ways_0 : decode cX11_ways 0 = .ok (.iload_n 1, 1) := by decide +kernel
theorem dX11_ways_1 : decode cX11_ways 1 = .ok (.iconst 1, 1) := by decide +kernel
theorem dX11_ways_2 : decode cX11_ways 2 = .ok (.if_icmp .lt 41, 3) := by decide +kernel
theorem dX11_ways_5 : decode cX11_ways 5 = .ok (.iload_n 1, 1) := by decide +kernel
theorem dX11_ways_6 : decode cX11_ways 6 = .ok (.iconst 5, 1) := by decide +kernel
theorem dX11_ways_7 : decode cX11_ways 7 = .ok (.if_icmp .gt 36, 3) := by decide +kernel
theorem dX11_ways_10 : decode cX11_ways 10 = .ok (.iload_n 2, 1) := by decide +kernel
theorem dX11_ways_11 : decode cX11_ways 11 = .ok (.iconst 1, 1) := by decide +kernel
theorem dX11_ways_12 : decode cX11_ways 12 = .ok (.if_icmp .lt 31, 3) := by decide +kernel
theorem dX11_ways_15 : decode cX11_ways 15 = .ok (.iload_n 2, 1) := by decide +kernel
theorem dX11_ways_16 : decode cX11_ways 16 = .ok (.bipush 7, 2) := by decide +kernel
theorem dX11_ways_18 : decode cX11_ways 18 = .ok (.if_icmp .gt 25, 3) := by decide +kernel
theorem dX11_ways_21 : decode cX11_ways 21 = .ok (.iload_n 3, 1) := by decide +kernel
theorem dX11_ways_22 : decode cX11_ways 22 = .ok (.ifCond .lt 21, 3) := by decide +kernel
theorem dX11_ways_25 : decode cX11_ways 25 = .ok (.iload_n 3, 1) := by decide +kernel
theorem dX11_ways_26 : decode cX11_ways 26 = .ok (.bipush 7, 2) := by decide +kernel
theorem dX11_ways_28 : decode cX11_ways 28 = .ok (.if_icmp .gt 15, 3) := by decide +kernel
theorem dX11_ways_31 : decode cX11_ways 31 = .ok (.iload 4, 2) := by decide +kernel
theorem dX11_ways_33 : decode cX11_ways 33 = .ok (.iconst (-1), 1) := by decide +kernel
theorem dX11_ways_34 : decode cX11_ways 34 = .ok (.if_icmp .lt 9, 3) := by decide +kernel
theorem dX11_ways_37 : decode cX11_ways 37 = .ok (.iload 4, 2) := by decide +kernel
theorem dX11_ways_39 : decode cX11_ways 39 = .ok (.iload_n 1, 1) := by decide +kernel
theorem dX11_ways_40 : decode cX11_ways 40 = .ok (.if_icmp .lt 5, 3) := by decide +kernel
theorem dX11_ways_43 : decode cX11_ways 43 = .ok (.iconst (-1), 1) := by decide +kernel
theorem dX11_ways_44 : decode cX11_ways 44 = .ok (.ireturn, 1) := by decide +kernel
theorem dX11_ways_45 : decode cX11_ways 45 = .ok (.aload_n 0, 1) := by decide +kernel
theorem dX11_ways_46 : decode cX11_ways 46 = .ok (.getfield 47, 3) := by decide +kernel
theorem dX11_ways_49 : decode cX11_ways 49 = .ok (.iload_n 1, 1) := by decide +kernel
theorem dX11_ways_50 : decode cX11_ways 50 = .ok (.iload_n 2, 1) := by decide +kernel
theorem dX11_ways_51 : decode cX11_ways 51 = .ok (.iload_n 3, 1) := by decide +kernel
theorem dX11_ways_52 : decode cX11_ways 52 = .ok (.invokevirtual 266, 3) := by decide +kernel
theorem dX11_ways_55 : decode cX11_ways 55 = .ok (.iload 4, 2) := by decide +kernel
theorem dX11_ways_57 : decode cX11_ways 57 = .ok (.iconst (-1), 1) := by decide +kernel
theorem dX11_ways_58 : decode cX11_ways 58 = .ok (.if_icmp .ne 11, 3) := by decide +kernel
theorem dX11_ways_61 : decode cX11_ways 61 = .ok (.aload_n 0, 1) := by decide +kernel
theorem dX11_ways_62 : decode cX11_ways 62 = .ok (.getfield 47, 3) := by decide +kernel
theorem dX11_ways_65 : decode cX11_ways 65 = .ok (.getfield 270, 3) := by decide +kernel
theorem dX11_ways_68 : decode cX11_ways 68 = .ok (.ireturn, 1) := by decide +kernel
theorem dX11_ways_69 : decode cX11_ways 69 = .ok (.aload_n 0, 1) := by decide +kernel
theorem dX11_ways_70 : decode cX11_ways 70 = .ok (.getfield 47, 3) := by decide +kernel
theorem dX11_ways_73 : decode cX11_ways 73 = .ok (.getfield 270, 3) := by decide +kernel
theorem dX11_ways_76 : decode cX11_ways 76 = .ok (.ifCond .ne 8, 3) := by decide +kernel
theorem dX11_ways_79 : decode cX11_ways 79 = .ok (.bipush (-2), 2) := by decide +kernel
theorem dX11_ways_81 : decode cX11_ways 81 = .ok (.goto 13, 3) := by decide +kernel
theorem dX11_ways_84 : decode cX11_ways 84 = .ok (.aload_n 0, 1) := by decide +kernel
theorem dX11_ways_85 : decode cX11_ways 85 = .ok (.getfield 47, 3) := by decide +kernel
theorem dX11_ways_88 : decode cX11_ways 88 = .ok (.getfield 273, 3) := by decide +kernel
theorem dX11_ways_91 : decode cX11_ways 91 = .ok (.iload 4, 2) := by decide +kernel
theorem dX11_ways_93 : decode cX11_ways 93 = .ok (.iaload, 1) := by decide +kernel
theorem dX11_ways_94 : decode cX11_ways 94 = .ok (.ireturn, 1) := by decide +kernel
theorem dX12_keeps_0 : decode cX12_keeps 0 = .ok (.iconst 0, 1) := by decide +kernel
theorem dX12_keeps_1 : decode cX12_keeps 1 = .ok (.istore_n 1, 1) := by decide +kernel
theorem dX12_keeps_2 : decode cX12_keeps 2 = .ok (.iconst 0, 1) := by decide +kernel
theorem dX12_keeps_3 : decode cX12_keeps 3 = .ok (.istore_n 2, 1) := by decide +kernel
theorem dX12_keeps_4 : decode cX12_keeps 4 = .ok (.iconst 0, 1) := by decide +kernel
theorem dX12_keeps_5 : decode cX12_keeps 5 = .ok (.istore_n 3, 1) := by decide +kernel
theorem dX12_keeps_6 : decode cX12_keeps 6 = .ok (.iload_n 3, 1) := by decide +kernel
theorem dX12_keeps_7 : decode cX12_keeps 7 = .ok (.aload_n 0, 1) := by decide +kernel
theorem dX12_keeps_8 : decode cX12_keeps 8 = .ok (.getfield 408, 3) := by decide +kernel
theorem dX12_keeps_11 : decode cX12_keeps 11 = .ok (.if_icmp .ge 53, 3) := by decide +kernel
theorem dX12_keeps_14 : decode cX12_keeps 14 = .ok (.iload_n 3, 1) := by decide +kernel
theorem dX12_keeps_15 : decode cX12_keeps 15 = .ok (.aload_n 0, 1) := by decide +kernel
theorem dX12_keeps_16 : decode cX12_keeps 16 = .ok (.getfield 116, 3) := by decide +kernel
theorem dX12_keeps_19 : decode cX12_keeps 19 = .ok (.iload_n 3, 1) := by decide +kernel
theorem dX12_keeps_20 : decode cX12_keeps 20 = .ok (.iaload, 1) := by decide +kernel
theorem dX12_keeps_21 : decode cX12_keeps 21 = .ok (.iadd, 1) := by decide +kernel
theorem dX12_keeps_22 : decode cX12_keeps 22 = .ok (.aload_n 0, 1) := by decide +kernel
theorem dX12_keeps_23 : decode cX12_keeps 23 = .ok (.getfield 408, 3) := by decide +kernel
theorem dX12_keeps_26 : decode cX12_keeps 26 = .ok (.irem, 1) := by decide +kernel
theorem dX12_keeps_27 : decode cX12_keeps 27 = .ok (.istore 4, 2) := by decide +kernel
theorem dX12_keeps_29 : decode cX12_keeps 29 = .ok (.iload_n 1, 1) := by decide +kernel
theorem dX12_keeps_30 : decode cX12_keeps 30 = .ok (.iload 4, 2) := by decide +kernel
theorem dX12_keeps_32 : decode cX12_keeps 32 = .ok (.ishr, 1) := by decide +kernel
theorem dX12_keeps_33 : decode cX12_keeps 33 = .ok (.iconst 1, 1) := by decide +kernel
theorem dX12_keeps_34 : decode cX12_keeps 34 = .ok (.iand, 1) := by decide +kernel
theorem dX12_keeps_35 : decode cX12_keeps 35 = .ok (.iconst 1, 1) := by decide +kernel
theorem dX12_keeps_36 : decode cX12_keeps 36 = .ok (.if_icmp .ne 6, 3) := by decide +kernel
theorem dX12_keeps_39 : decode cX12_keeps 39 = .ok (.bipush (-2), 2) := by decide +kernel
theorem dX12_keeps_41 : decode cX12_keeps 41 = .ok (.ireturn, 1) := by decide +kernel
theorem dX12_keeps_42 : decode cX12_keeps 42 = .ok (.iload_n 1, 1) := by decide +kernel
theorem dX12_keeps_43 : decode cX12_keeps 43 = .ok (.iconst 1, 1) := by decide +kernel
theorem dX12_keeps_44 : decode cX12_keeps 44 = .ok (.iload 4, 2) := by decide +kernel
theorem dX12_keeps_46 : decode cX12_keeps 46 = .ok (.ishl, 1) := by decide +kernel
theorem dX12_keeps_47 : decode cX12_keeps 47 = .ok (.ior, 1) := by decide +kernel
theorem dX12_keeps_48 : decode cX12_keeps 48 = .ok (.istore_n 1, 1) := by decide +kernel
theorem dX12_keeps_49 : decode cX12_keeps 49 = .ok (.iload_n 2, 1) := by decide +kernel
theorem dX12_keeps_50 : decode cX12_keeps 50 = .ok (.aload_n 0, 1) := by decide +kernel
theorem dX12_keeps_51 : decode cX12_keeps 51 = .ok (.getfield 116, 3) := by decide +kernel
theorem dX12_keeps_54 : decode cX12_keeps 54 = .ok (.iload_n 3, 1) := by decide +kernel
theorem dX12_keeps_55 : decode cX12_keeps 55 = .ok (.iaload, 1) := by decide +kernel
theorem dX12_keeps_56 : decode cX12_keeps 56 = .ok (.iadd, 1) := by decide +kernel
theorem dX12_keeps_57 : decode cX12_keeps 57 = .ok (.istore_n 2, 1) := by decide +kernel
theorem dX12_keeps_58 : decode cX12_keeps 58 = .ok (.iinc 3 1, 3) := by decide +kernel
theorem dX12_keeps_61 : decode cX12_keeps 61 = .ok (.goto (-55), 3) := by decide +kernel
theorem dX12_keeps_64 : decode cX12_keeps 64 = .ok (.iload_n 2, 1) := by decide +kernel
theorem dX12_keeps_65 : decode cX12_keeps 65 = .ok (.aload_n 0, 1) := by decide +kernel
theorem dX12_keeps_66 : decode cX12_keeps 66 = .ok (.getfield 408, 3) := by decide +kernel
theorem dX12_keeps_69 : decode cX12_keeps 69 = .ok (.idiv, 1) := by decide +kernel
theorem dX12_keeps_70 : decode cX12_keeps 70 = .ok (.ireturn, 1) := by decide +kernel
theorem dX12_ways_0 : decode cX12_ways 0 = .ok (.iload_n 1, 1) := by decide +kernel
theorem dX12_ways_1 : decode cX12_ways 1 = .ok (.iconst 1, 1) := by decide +kernel
theorem dX12_ways_2 : decode cX12_ways 2 = .ok (.iconst 5, 1) := by decide +kernel
theorem dX12_ways_3 : decode cX12_ways 3 = .ok (.invokestatic 301, 3) := by decide +kernel
theorem dX12_ways_6 : decode cX12_ways 6 = .ok (.ifCond .eq 35, 3) := by decide +kernel
theorem dX12_ways_9 : decode cX12_ways 9 = .ok (.iload_n 2, 1) := by decide +kernel
theorem dX12_ways_10 : decode cX12_ways 10 = .ok (.iconst 1, 1) := by decide +kernel
theorem dX12_ways_11 : decode cX12_ways 11 = .ok (.bipush 7, 2) := by decide +kernel
theorem dX12_ways_13 : decode cX12_ways 13 = .ok (.invokestatic 301, 3) := by decide +kernel
theorem dX12_ways_16 : decode cX12_ways 16 = .ok (.ifCond .eq 25, 3) := by decide +kernel
theorem dX12_ways_19 : decode cX12_ways 19 = .ok (.iload_n 3, 1) := by decide +kernel
theorem dX12_ways_20 : decode cX12_ways 20 = .ok (.iconst 0, 1) := by decide +kernel
theorem dX12_ways_21 : decode cX12_ways 21 = .ok (.bipush 7, 2) := by decide +kernel
theorem dX12_ways_23 : decode cX12_ways 23 = .ok (.invokestatic 301, 3) := by decide +kernel
theorem dX12_ways_26 : decode cX12_ways 26 = .ok (.ifCond .eq 15, 3) := by decide +kernel
theorem dX12_ways_29 : decode cX12_ways 29 = .ok (.iload 4, 2) := by decide +kernel
theorem dX12_ways_31 : decode cX12_ways 31 = .ok (.iconst (-1), 1) := by decide +kernel
theorem dX12_ways_32 : decode cX12_ways 32 = .ok (.iload_n 1, 1) := by decide +kernel
theorem dX12_ways_33 : decode cX12_ways 33 = .ok (.iconst 1, 1) := by decide +kernel
theorem dX12_ways_34 : decode cX12_ways 34 = .ok (.isub, 1) := by decide +kernel
theorem dX12_ways_35 : decode cX12_ways 35 = .ok (.invokestatic 301, 3) := by decide +kernel
theorem dX12_ways_38 : decode cX12_ways 38 = .ok (.ifCond .ne 5, 3) := by decide +kernel
theorem dX12_ways_41 : decode cX12_ways 41 = .ok (.iconst (-1), 1) := by decide +kernel
theorem dX12_ways_42 : decode cX12_ways 42 = .ok (.ireturn, 1) := by decide +kernel
theorem dX12_ways_43 : decode cX12_ways 43 = .ok (.iconst 1, 1) := by decide +kernel
theorem dX12_ways_44 : decode cX12_ways 44 = .ok (.istore 5, 2) := by decide +kernel
theorem dX12_ways_46 : decode cX12_ways 46 = .ok (.iconst 0, 1) := by decide +kernel
theorem dX12_ways_47 : decode cX12_ways 47 = .ok (.istore 6, 2) := by decide +kernel
theorem dX12_ways_49 : decode cX12_ways 49 = .ok (.iload 6, 2) := by decide +kernel
theorem dX12_ways_51 : decode cX12_ways 51 = .ok (.iload_n 1, 1) := by decide +kernel
theorem dX12_ways_52 : decode cX12_ways 52 = .ok (.if_icmp .ge 17, 3) := by decide +kernel
theorem dX12_ways_55 : decode cX12_ways 55 = .ok (.iload 5, 2) := by decide +kernel
theorem dX12_ways_57 : decode cX12_ways 57 = .ok (.iload_n 2, 1) := by decide +kernel
theorem dX12_ways_58 : decode cX12_ways 58 = .ok (.iconst 1, 1) := by decide +kernel
theorem dX12_ways_59 : decode cX12_ways 59 = .ok (.iadd, 1) := by decide +kernel
theorem dX12_ways_60 : decode cX12_ways 60 = .ok (.imul, 1) := by decide +kernel
theorem dX12_ways_61 : decode cX12_ways 61 = .ok (.istore 5, 2) := by decide +kernel
theorem dX12_ways_63 : decode cX12_ways 63 = .ok (.iinc 6 1, 3) := by decide +kernel
theorem dX12_ways_66 : decode cX12_ways 66 = .ok (.goto (-17), 3) := by decide +kernel
theorem dX12_ways_69 : decode cX12_ways 69 = .ok (.aload_n 0, 1) := by decide +kernel
theorem dX12_ways_70 : decode cX12_ways 70 = .ok (.iload_n 1, 1) := by decide +kernel
theorem dX12_ways_71 : decode cX12_ways 71 = .ok (.putfield 408, 3) := by decide +kernel
theorem dX12_ways_74 : decode cX12_ways 74 = .ok (.iconst 0, 1) := by decide +kernel
theorem dX12_ways_75 : decode cX12_ways 75 = .ok (.istore 6, 2) := by decide +kernel
theorem dX12_ways_77 : decode cX12_ways 77 = .ok (.iconst 0, 1) := by decide +kernel
theorem dX12_ways_78 : decode cX12_ways 78 = .ok (.istore 7, 2) := by decide +kernel
theorem dX12_ways_80 : decode cX12_ways 80 = .ok (.iload 7, 2) := by decide +kernel
theorem dX12_ways_82 : decode cX12_ways 82 = .ok (.iload 5, 2) := by decide +kernel
theorem dX12_ways_84 : decode cX12_ways 84 = .ok (.if_icmp .ge 77, 3) := by decide +kernel
theorem dX12_ways_87 : decode cX12_ways 87 = .ok (.iload 7, 2) := by decide +kernel
theorem dX12_ways_89 : decode cX12_ways 89 = .ok (.istore 8, 2) := by decide +kernel
theorem dX12_ways_91 : decode cX12_ways 91 = .ok (.iload_n 1, 1) := by decide +kernel
theorem dX12_ways_92 : decode cX12_ways 92 = .ok (.iconst 1, 1) := by decide +kernel
theorem dX12_ways_93 : decode cX12_ways 93 = .ok (.isub, 1) := by decide +kernel
theorem dX12_ways_94 : decode cX12_ways 94 = .ok (.istore 9, 2) := by decide +kernel
theorem dX12_ways_96 : decode cX12_ways 96 = .ok (.iload 9, 2) := by decide +kernel
theorem dX12_ways_98 : decode cX12_ways 98 = .ok (.ifCond .lt 30, 3) := by decide +kernel
theorem dX12_ways_101 : decode cX12_ways 101 = .ok (.aload_n 0, 1) := by decide +kernel
theorem dX12_ways_102 : decode cX12_ways 102 = .ok (.getfield 116, 3) := by decide +kernel
theorem dX12_ways_105 : decode cX12_ways 105 = .ok (.iload 9, 2) := by decide +kernel
theorem dX12_ways_107 : decode cX12_ways 107 = .ok (.iload 8, 2) := by decide +kernel
theorem dX12_ways_109 : decode cX12_ways 109 = .ok (.iload_n 2, 1) := by decide +kernel
theorem dX12_ways_110 : decode cX12_ways 110 = .ok (.iconst 1, 1) := by decide +kernel
theorem dX12_ways_111 : decode cX12_ways 111 = .ok (.iadd, 1) := by decide +kernel
theorem dX12_ways_112 : decode cX12_ways 112 = .ok (.irem, 1) := by decide +kernel
theorem dX12_ways_113 : decode cX12_ways 113 = .ok (.iastore, 1) := by decide +kernel
theorem dX12_ways_114 : decode cX12_ways 114 = .ok (.iload 8, 2) := by decide +kernel
theorem dX12_ways_116 : decode cX12_ways 116 = .ok (.iload_n 2, 1) := by decide +kernel
theorem dX12_ways_117 : decode cX12_ways 117 = .ok (.iconst 1, 1) := by decide +kernel
theorem dX12_ways_118 : decode cX12_ways 118 = .ok (.iadd, 1) := by decide +kernel
theorem dX12_ways_119 : decode cX12_ways 119 = .ok (.idiv, 1) := by decide +kernel
theorem dX12_ways_120 : decode cX12_ways 120 = .ok (.istore 8, 2) := by decide +kernel
theorem dX12_ways_122 : decode cX12_ways 122 = .ok (.iinc 9 (-1), 3) := by decide +kernel
theorem dX12_ways_125 : decode cX12_ways 125 = .ok (.goto (-29), 3) := by decide +kernel
theorem dX12_ways_128 : decode cX12_ways 128 = .ok (.aload_n 0, 1) := by decide +kernel
theorem dX12_ways_129 : decode cX12_ways 129 = .ok (.invokevirtual 414, 3) := by decide +kernel
theorem dX12_ways_132 : decode cX12_ways 132 = .ok (.iload_n 3, 1) := by decide +kernel
theorem dX12_ways_133 : decode cX12_ways 133 = .ok (.if_icmp .eq 6, 3) := by decide +kernel
theorem dX12_ways_136 : decode cX12_ways 136 = .ok (.goto 19, 3) := by decide +kernel
theorem dX12_ways_139 : decode cX12_ways 139 = .ok (.iload 4, 2) := by decide +kernel
theorem dX12_ways_141 : decode cX12_ways 141 = .ok (.ifCond .lt 11, 3) := by decide +kernel
theorem dX12_ways_144 : decode cX12_ways 144 = .ok (.aload_n 0, 1) := by decide +kernel
theorem dX12_ways_145 : decode cX12_ways 145 = .ok (.getfield 116, 3) := by decide +kernel
theorem dX12_ways_148 : decode cX12_ways 148 = .ok (.iload 4, 2) := by decide +kernel
theorem dX12_ways_150 : decode cX12_ways 150 = .ok (.iaload, 1) := by decide +kernel
theorem dX12_ways_151 : decode cX12_ways 151 = .ok (.ireturn, 1) := by decide +kernel
theorem dX12_ways_152 : decode cX12_ways 152 = .ok (.iinc 6 1, 3) := by decide +kernel
theorem dX12_ways_155 : decode cX12_ways 155 = .ok (.iinc 7 1, 3) := by decide +kernel
theorem dX12_ways_158 : decode cX12_ways 158 = .ok (.goto (-78), 3) := by decide +kernel
theorem dX12_ways_161 : decode cX12_ways 161 = .ok (.iload 4, 2) := by decide +kernel
theorem dX12_ways_163 : decode cX12_ways 163 = .ok (.iconst (-1), 1) := by decide +kernel
theorem dX12_ways_164 : decode cX12_ways 164 = .ok (.if_icmp .ne 8, 3) := by decide +kernel
theorem dX12_ways_167 : decode cX12_ways 167 = .ok (.iload 6, 2) := by decide +kernel
theorem dX12_ways_169 : decode cX12_ways 169 = .ok (.goto 5, 3) := by decide +kernel
theorem dX12_ways_172 : decode cX12_ways 172 = .ok (.bipush (-2), 2) := by decide +kernel
theorem dX12_ways_174 : decode cX12_ways 174 = .ok (.ireturn, 1) := by decide +kernel
set_option maxHeartbeats 4000000 in
set_option maxRecDepth 100000 in
theorem p_ways_all {l : Launch} {D : va_G} {ids : List Nat} {ad : Nat → Nat} {ca : Nat → ClassId} {σ : HS} {p m k : Nat} (hid : ∀ i, i < 277 → i ∈ ids) (h1 : 1 ≤ p) (h5 : p ≤ 5) (m1 : 1 ≤ m) (m7 : m ≤ 7) (k7 : k ≤ 7) : Ki l D ids ad ca yX11_ways cX11_ways 5 .int 9 253 [.ref (ad 0), .int (nI p), .int (nI m), .int (nI k), .int (-1)] σ (fun r σ1 => r = resW (rwC p m p 0 0 (p * k)) (none) ∧ keepM σ σ1) := by
  refine Ki.of (by decide) (Nat.le_of_ble_eq_true rfl) 0 (fun Γ C Rt => ?_)
  show AW ids ad ca Γ 0 [some (.ref (ad 0)), some (.int (nI p)), some (.int (nI m)), some (.int (nI k)), some (.int (-1))] [] σ
  refine a_iload_n C dX11_ways_0 (i := 1) rfl rfl ?_
  refine a_iconst C dX11_ways_1 (v := 1) rfl ?_
  refine a_ic_lt C dX11_ways_2 (tgt := 43) rfl (fun c => absurd c (show ¬ nI p < nI 1 from nI_nlt (by omega) (by omega))) (fun _ => ?_)
  refine a_iload_n C dX11_ways_5 (i := 1) rfl rfl ?_
  refine a_iconst C dX11_ways_6 (v := 5) rfl ?_
  refine a_ic_gt C dX11_ways_7 (tgt := 43) rfl (fun c => absurd c (show ¬ nI 5 < nI p from nI_nlt (by omega) (by omega))) (fun _ => ?_)
  refine a_iload_n C dX11_ways_10 (i := 2) rfl rfl ?_
  refine a_iconst C dX11_ways_11 (v := 1) rfl ?_
  refine a_ic_lt C dX11_ways_12 (tgt := 43) rfl (fun c => absurd c (show ¬ nI m < nI 1 from nI_nlt (by omega) (by omega))) (fun _ => ?_)
  refine a_iload_n C dX11_ways_15 (i := 2) rfl rfl ?_
  refine a_bipush C dX11_ways_16 (v := 7) rfl ?_
  refine a_ic_gt C dX11_ways_18 (tgt := 43) rfl (fun c => absurd c (show ¬ nI 7 < nI m from nI_nlt (by omega) (by omega))) (fun _ => ?_)
  refine a_iload_n C dX11_ways_21 (i := 3) rfl rfl ?_
  refine a_if_lt C dX11_ways_22 (tgt := 43) rfl (fun c => absurd c (nI_pos (by omega))) (fun _ => ?_)
  refine a_iload_n C dX11_ways_25 (i := 3) rfl rfl ?_
  refine a_bipush C dX11_ways_26 (v := 7) rfl ?_
  refine a_ic_gt C dX11_ways_28 (tgt := 43) rfl (fun c => absurd c (show ¬ nI 7 < nI k from nI_nlt (by omega) (by omega))) (fun _ => ?_)
  refine a_iload C dX11_ways_31 rfl ?_
  refine a_iconst C dX11_ways_33 (v := (-1)) rfl ?_
  refine a_ic_lt C dX11_ways_34 (tgt := 43) rfl (fun c => absurd c (by decide)) (fun _ => ?_)
  refine a_iload C dX11_ways_37 rfl ?_
  refine a_iload_n C dX11_ways_39 (i := 1) rfl rfl ?_
  refine a_ic_lt C dX11_ways_40 (tgt := 45) rfl (fun _ => ?_) (fun c => absurd (m1_lt (by omega)) c)
  refine a_aload_n C dX11_ways_45 (i := 0) rfl rfl ?_
  refine a_get C fl_RX11_47 (i := 0) kd_0 (hid 0 (by decide)) (v := .ref (ad 22)) rfl dX11_ways_46 ?_
  refine a_iload_n C dX11_ways_49 (i := 1) rfl rfl ?_
  refine a_iload_n C dX11_ways_50 (i := 2) rfl rfl ?_
  refine a_iload_n C dX11_ways_51 (i := 3) rfl rfl ?_
  refine a_callVv C (i := 22) kd_22 (hid 22 (by decide)) ⟨_, _, rfl⟩ (by decide) (k_find hid h1 h5 m7 k7) mi_X8_find ml_RX11_266 rfl rfl (by omega) (by omega) (Nat.le_of_ble_eq_true rfl) dX11_ways_52 (fun σ1 q1 => ?_)
  have hkp : keepM σ σ1 := only.keepM q1.1 (by decide)
  refine a_iload C dX11_ways_55 rfl ?_
  refine a_iconst C dX11_ways_57 (v := (-1)) rfl ?_
  refine a_ic_ne C dX11_ways_58 (tgt := 69) rfl (fun c => absurd rfl c) (fun _ => ?_)
  refine a_aload_n C dX11_ways_61 (i := 0) rfl rfl ?_
  refine a_get C fl_RX11_47 (i := 0) kd_0 (hid 0 (by decide)) (v := .ref (ad 22)) rfl dX11_ways_62 ?_
  refine a_get C fl_RX11_270 (i := 22) kd_22 (hid 22 (by decide)) (v := .int (σ1.1 22 2)) rfl dX11_ways_65 ?_
  exact a_iret Rt dX11_ways_68 rfl ⟨q1.2.1, hkp⟩
set_option maxHeartbeats 4000000 in
set_option maxRecDepth 100000 in
theorem p_ways_one {l : Launch} {D : va_G} {ids : List Nat} {ad : Nat → Nat} {ca : Nat → ClassId} {σ : HS} {p m k n : Nat} (hid : ∀ i, i < 277 → i ∈ ids) (h1 : 1 ≤ p) (h5 : p ≤ 5) (m1 : 1 ≤ m) (m7 : m ≤ 7) (k7 : k ≤ 7) (hn : n < p) : Ki l D ids ad ca yX11_ways cX11_ways 5 .int 9 253 [.ref (ad 0), .int (nI p), .int (nI m), .int (nI k), .int (nI n)] σ (fun r σ1 => r = resW (rwC p m p 0 0 (p * k)) (some n) ∧ keepM σ σ1) := by
  refine Ki.of (by decide) (Nat.le_of_ble_eq_true rfl) 0 (fun Γ C Rt => ?_)
  show AW ids ad ca Γ 0 [some (.ref (ad 0)), some (.int (nI p)), some (.int (nI m)), some (.int (nI k)), some (.int (nI n))] [] σ
  refine a_iload_n C dX11_ways_0 (i := 1) rfl rfl ?_
  refine a_iconst C dX11_ways_1 (v := 1) rfl ?_
  refine a_ic_lt C dX11_ways_2 (tgt := 43) rfl (fun c => absurd c (show ¬ nI p < nI 1 from nI_nlt (by omega) (by omega))) (fun _ => ?_)
  refine a_iload_n C dX11_ways_5 (i := 1) rfl rfl ?_
  refine a_iconst C dX11_ways_6 (v := 5) rfl ?_
  refine a_ic_gt C dX11_ways_7 (tgt := 43) rfl (fun c => absurd c (show ¬ nI 5 < nI p from nI_nlt (by omega) (by omega))) (fun _ => ?_)
  refine a_iload_n C dX11_ways_10 (i := 2) rfl rfl ?_
  refine a_iconst C dX11_ways_11 (v := 1) rfl ?_
  refine a_ic_lt C dX11_ways_12 (tgt := 43) rfl (fun c => absurd c (show ¬ nI m < nI 1 from nI_nlt (by omega) (by omega))) (fun _ => ?_)
  refine a_iload_n C dX11_ways_15 (i := 2) rfl rfl ?_
  refine a_bipush C dX11_ways_16 (v := 7) rfl ?_
  refine a_ic_gt C dX11_ways_18 (tgt := 43) rfl (fun c => absurd c (show ¬ nI 7 < nI m from nI_nlt (by omega) (by omega))) (fun _ => ?_)
  refine a_iload_n C dX11_ways_21 (i := 3) rfl rfl ?_
  refine a_if_lt C dX11_ways_22 (tgt := 43) rfl (fun c => absurd c (nI_pos (by omega))) (fun _ => ?_)
  refine a_iload_n C dX11_ways_25 (i := 3) rfl rfl ?_
  refine a_bipush C dX11_ways_26 (v := 7) rfl ?_
  refine a_ic_gt C dX11_ways_28 (tgt := 43) rfl (fun c => absurd c (show ¬ nI 7 < nI k from nI_nlt (by omega) (by omega))) (fun _ => ?_)
  refine a_iload C dX11_ways_31 rfl ?_
  refine a_iconst C dX11_ways_33 (v := (-1)) rfl ?_
  refine a_ic_lt C dX11_ways_34 (tgt := 43) rfl (fun c => absurd c (Int32.not_lt.mpr (Int32.le_of_lt (m1_lt (by omega))))) (fun _ => ?_)
  refine a_iload C dX11_ways_37 rfl ?_
  refine a_iload_n C dX11_ways_39 (i := 1) rfl rfl ?_
  refine a_ic_lt C dX11_ways_40 (tgt := 45) rfl (fun _ => ?_) (fun c => absurd (nI_lt hn (by omega)) c)
  refine a_aload_n C dX11_ways_45 (i := 0) rfl rfl ?_
  refine a_get C fl_RX11_47 (i := 0) kd_0 (hid 0 (by decide)) (v := .ref (ad 22)) rfl dX11_ways_46 ?_
  refine a_iload_n C dX11_ways_49 (i := 1) rfl rfl ?_
  refine a_iload_n C dX11_ways_50 (i := 2) rfl rfl ?_
  refine a_iload_n C dX11_ways_51 (i := 3) rfl rfl ?_
  refine a_callVv C (i := 22) kd_22 (hid 22 (by decide)) ⟨_, _, rfl⟩ (by decide) (k_find hid h1 h5 m7 k7) mi_X8_find ml_RX11_266 rfl rfl (by omega) (by omega) (Nat.le_of_ble_eq_true rfl) dX11_ways_52 (fun σ1 q1 => ?_)
  have hkp : keepM σ σ1 := only.keepM q1.1 (by decide)
  refine a_iload C dX11_ways_55 rfl ?_
  refine a_iconst C dX11_ways_57 (v := (-1)) rfl ?_
  refine a_ic_ne C dX11_ways_58 (tgt := 69) rfl (fun _ => ?_) (fun c => absurd c (m1_ne (by omega)))
  refine a_aload_n C dX11_ways_69 (i := 0) rfl rfl ?_
  refine a_get C fl_RX11_47 (i := 0) kd_0 (hid 0 (by decide)) (v := .ref (ad 22)) rfl dX11_ways_70 ?_
  refine a_get C fl_RX11_270 (i := 22) kd_22 (hid 22 (by decide)) (v := .int (σ1.1 22 2)) rfl dX11_ways_73 ?_
  have hlen := rows_len (p := p) (m := m) (k := k) h1 h5 m7
  refine a_if_ne C dX11_ways_76 (tgt := 84) rfl (fun c => ?_) (fun c => ?_)
  ·
    refine a_aload_n C dX11_ways_84 (i := 0) rfl rfl ?_
    refine a_get C fl_RX11_47 (i := 0) kd_0 (hid 0 (by decide)) (v := .ref (ad 22)) rfl dX11_ways_85 ?_
    refine a_get C fl_RX11_273 (i := 22) kd_22 (hid 22 (by decide)) (v := .ref (ad 24)) rfl dX11_ways_88 ?_
    refine a_iload C dX11_ways_91 rfl ?_
    refine a_iald C (i := 24) n kd_24 (hid 24 (by decide)) (nI_pos (by omega)) (nI_clamp (by omega)) (by rw [al_24]; omega) dX11_ways_93 (v := σ1.1 24 n) rfl ?_
    refine a_iret Rt dX11_ways_94 rfl ⟨?_, hkp⟩
    cases hR : rwC p m p 0 0 (p * k) with
    | nil => exact absurd (by rw [q1.2.1, hR]; rfl) c
    | cons r R => exact q1.2.2 r (by rw [hR]; rfl) n hn
  · have h0 : rwC p m p 0 0 (p * k) = [] := by
      have h2 : nI (rwC p m p 0 0 (p * k)).length = nI 0 := by rw [← q1.2.1, c]; rfl
      exact List.eq_nil_of_length_eq_zero ((nI_eq (by omega) (by omega)).mp h2)
    refine a_bipush C dX11_ways_79 (v := (-2)) rfl ?_
    refine a_goto C dX11_ways_81 (tgt := 94) rfl ?_
    exact a_iret Rt dX11_ways_94 rfl ⟨by rw [h0]; rfl, hkp⟩
set_option maxHeartbeats 4000000 in
set_option maxRecDepth 100000 in
theorem p_ways_out {l : Launch} {D : va_G} {ids : List Nat} {ad : Nat → Nat} {ca : Nat → ClassId} {σ : HS} {p0 p1 p2 p3 : Int32} (hid : ∀ i, i < 277 → i ∈ ids) (ho : ¬ ((¬ p0 < 1 ∧ ¬ 5 < p0) ∧ (¬ p1 < 1 ∧ ¬ 7 < p1) ∧ (¬ p2 < 0 ∧ ¬ 7 < p2) ∧ (¬ p3 < -1 ∧ p3 < p0))) : Ki l D ids ad ca yX11_ways cX11_ways 5 .int 0 0 [.ref (ad 0), .int p0, .int p1, .int p2, .int p3] σ (fun r σ1 => r = (-1) ∧ keepM σ σ1) := by
  refine Ki.of (by decide) (Nat.le_of_ble_eq_true rfl) 0 (fun Γ C Rt => ?_)
  show AW ids ad ca Γ 0 [some (.ref (ad 0)), some (.int p0), some (.int p1), some (.int p2), some (.int p3)] [] σ
  have ret : AW ids ad ca Γ 43 [some (.ref (ad 0)), some (.int p0), some (.int p1), some (.int p2), some (.int p3)] [] σ := by
    refine a_iconst C dX11_ways_43 (v := (-1)) rfl ?_
    exact a_iret Rt dX11_ways_44 rfl ⟨rfl, keepM.rf⟩
  refine a_iload_n C dX11_ways_0 (i := 1) rfl rfl ?_
  refine a_iconst C dX11_ways_1 (v := 1) rfl ?_
  refine a_ic_lt C dX11_ways_2 (tgt := 43) rfl (fun _ => ret) (fun c1 => ?_)
  refine a_iload_n C dX11_ways_5 (i := 1) rfl rfl ?_
  refine a_iconst C dX11_ways_6 (v := 5) rfl ?_
  refine a_ic_gt C dX11_ways_7 (tgt := 43) rfl (fun _ => ret) (fun c2 => ?_)
  refine a_iload_n C dX11_ways_10 (i := 2) rfl rfl ?_
  refine a_iconst C dX11_ways_11 (v := 1) rfl ?_
  refine a_ic_lt C dX11_ways_12 (tgt := 43) rfl (fun _ => ret) (fun c3 => ?_)
  refine a_iload_n C dX11_ways_15 (i := 2) rfl rfl ?_
  refine a_bipush C dX11_ways_16 (v := 7) rfl ?_
  refine a_ic_gt C dX11_ways_18 (tgt := 43) rfl (fun _ => ret) (fun c4 => ?_)
  refine a_iload_n C dX11_ways_21 (i := 3) rfl rfl ?_
  refine a_if_lt C dX11_ways_22 (tgt := 43) rfl (fun _ => ret) (fun c5 => ?_)
  refine a_iload_n C dX11_ways_25 (i := 3) rfl rfl ?_
  refine a_bipush C dX11_ways_26 (v := 7) rfl ?_
  refine a_ic_gt C dX11_ways_28 (tgt := 43) rfl (fun _ => ret) (fun c6 => ?_)
  refine a_iload C dX11_ways_31 rfl ?_
  refine a_iconst C dX11_ways_33 (v := (-1)) rfl ?_
  refine a_ic_lt C dX11_ways_34 (tgt := 43) rfl (fun _ => ret) (fun c7 => ?_)
  refine a_iload C dX11_ways_37 rfl ?_
  refine a_iload_n C dX11_ways_39 (i := 1) rfl rfl ?_
  exact a_ic_lt C dX11_ways_40 (tgt := 45) rfl (fun c8 => absurd ⟨⟨c1, c2⟩, ⟨c3, c4⟩, ⟨c5, c6⟩, c7, c8⟩ ho) (fun _ => ret)
set_option maxHeartbeats 4000000 in
set_option maxRecDepth 100000 in
theorem m_keepsR {l : Launch} {D : va_G} {ids : List Nat} {ad : Nat → Nat} {ca : Nat → ClassId} {σ : HS} {p : Nat} {r : List Nat} (hid : ∀ i, i < 277 → i ∈ ids) (h1 : 1 ≤ p) (h5 : p ≤ 5) (hr : r.length = p) (hx : ∀ x ∈ r, x ≤ 7) (hp : σ.1 236 57 = nI p) (ht : ∀ j, j < p → σ.1 269 j = nI (r.getD j 0)) : Ki l D ids ad ca yX12_keeps cX12_keeps 5 .int 0 0 [.ref (ad 236)] σ (fun x σ1 => x = kpI (kpF p 0 0 0 r) ∧ σ1 = σ) := by
  refine Ki.of (by decide) (Nat.le_of_ble_eq_true rfl) 4 (fun Γ C Rt => ?_)
  show AW ids ad ca Γ 0 [some (.ref (ad 236)), none, none, none, none] [] σ
  refine a_iconst C dX12_keeps_0 (v := 0) rfl ?_
  refine a_topi nI_0.symm ?_
  refine a_istore_n C dX12_keeps_1 (i := 1) rfl (by decide) rfl (vs1 := [some (.ref (ad 236)), some (.int (nI 0)), none, none, none]) rfl ?_
  refine a_iconst C dX12_keeps_2 (v := 0) rfl ?_
  refine a_topi nI_0.symm ?_
  refine a_istore_n C dX12_keeps_3 (i := 2) rfl (by decide) rfl (vs1 := [some (.ref (ad 236)), some (.int (nI 0)), some (.int (nI 0)), none, none]) rfl ?_
  refine a_iconst C dX12_keeps_4 (v := 0) rfl ?_
  refine a_topi nI_0.symm ?_
  refine a_istore_n C dX12_keeps_5 (i := 3) rfl (by decide) rfl (vs1 := [some (.ref (ad 236)), some (.int (nI 0)), some (.int (nI 0)), some (.int (nI 0)), none]) rfl ?_
  have loop : ∀ (e i t s : Nat), i + e = p → t < 32 → s ≤ 7 * i → kpF p i t s (r.drop i) = kpF p 0 0 0 r → AW ids ad ca Γ 6 [some (.ref (ad 236)), some (.int (nI t)), some (.int (nI s)), some (.int (nI i)), none] [] σ := by
    intro e
    induction e with
    | zero =>
      intro i t s hi ht2 hs hk
      refine a_iload_n C dX12_keeps_6 (i := 3) rfl rfl ?_
      refine a_aload_n C dX12_keeps_7 (i := 0) rfl rfl ?_
      refine a_get C fl_RX12_408 (i := 236) kd_236 (hid 236 (by decide)) (v := .int (nI p)) (congrArg (fun z => some (Value.int z)) hp) dX12_keeps_8 ?_
      refine a_ic_ge C dX12_keeps_11 (tgt := 64) rfl (fun _ => ?_) (fun c => absurd (nI_le (by omega) (by omega)) c)
      refine a_iload_n C dX12_keeps_64 (i := 2) rfl rfl ?_
      refine a_aload_n C dX12_keeps_65 (i := 0) rfl rfl ?_
      refine a_get C fl_RX12_408 (i := 236) kd_236 (hid 236 (by decide)) (v := .int (nI p)) (congrArg (fun z => some (Value.int z)) hp) dX12_keeps_66 ?_
      refine a_idiv C dX12_keeps_69 (nI_ne0 (by omega) (by omega)) ?_
      refine a_topi (pk_div (by omega) (by omega) (by omega)) ?_
      refine a_iret Rt dX12_keeps_70 rfl ⟨?_, rfl⟩
      rw [← hk, List.drop_of_length_le (by omega)]
      rfl
    | succ e ih =>
      intro i t s hi ht2 hs hk
      have hir : i < r.length := by omega
      rw [drop_at hir] at hk
      obtain ⟨h, hh⟩ : ∃ h, h = r.getD i 0 := ⟨_, rfl⟩
      have hh7 : h ≤ 7 := by
        rw [hh]
        refine hx _ ?_
        simp [List.getD, List.getElem?_eq_getElem hir]
      have hti : σ.1 269 i = nI h := by rw [hh]; exact ht i (by omega)
      rw [← hh] at hk
      obtain ⟨q, hq⟩ : ∃ q, q = (i + h) % p := ⟨_, rfl⟩
      have hq5 : q < 5 := by
        have := Nat.mod_lt (i + h) h1
        omega
      refine a_iload_n C dX12_keeps_6 (i := 3) rfl rfl ?_
      refine a_aload_n C dX12_keeps_7 (i := 0) rfl rfl ?_
      refine a_get C fl_RX12_408 (i := 236) kd_236 (hid 236 (by decide)) (v := .int (nI p)) (congrArg (fun z => some (Value.int z)) hp) dX12_keeps_8 ?_
      refine a_ic_ge C dX12_keeps_11 (tgt := 64) rfl (fun c => absurd c (nI_ge (by omega) (by omega))) (fun _ => ?_)
      refine a_iload_n C dX12_keeps_14 (i := 3) rfl rfl ?_
      refine a_aload_n C dX12_keeps_15 (i := 0) rfl rfl ?_
      refine a_get C fl_RX12_116 (i := 236) kd_236 (hid 236 (by decide)) (v := .ref (ad 269)) rfl dX12_keeps_16 ?_
      refine a_iload_n C dX12_keeps_19 (i := 3) rfl rfl ?_
      refine a_iald C (i := 269) i kd_269 (hid 269 (by decide)) (nI_pos (by omega)) (nI_clamp (by omega)) (by rw [al_269]; omega) dX12_keeps_20 (v := nI h) hti ?_
      refine a_iadd C dX12_keeps_21 ?_
      refine a_topi (nI_add i h) ?_
      refine a_aload_n C dX12_keeps_22 (i := 0) rfl rfl ?_
      refine a_get C fl_RX12_408 (i := 236) kd_236 (hid 236 (by decide)) (v := .int (nI p)) (congrArg (fun z => some (Value.int z)) hp) dX12_keeps_23 ?_
      refine a_irem C dX12_keeps_26 (nI_ne0 (by omega) (by omega)) ?_
      refine a_topi ((pk_rem (by omega) (by omega) (by omega)).trans (congrArg nI hq.symm)) ?_
      refine a_istore C dX12_keeps_27 (by decide) rfl (vs1 := [some (.ref (ad 236)), some (.int (nI t)), some (.int (nI s)), some (.int (nI i)), some (.int (nI q))]) rfl ?_
      refine a_iload_n C dX12_keeps_29 (i := 1) rfl rfl ?_
      refine a_iload C dX12_keeps_30 rfl ?_
      refine a_ishr C dX12_keeps_32 ?_
      refine a_iconst C dX12_keeps_33 (v := 1) rfl ?_
      refine a_iand C dX12_keeps_34 ?_
      refine a_topi (bt_and t ht2 q hq5) ?_
      refine a_iconst C dX12_keeps_35 (v := 1) rfl ?_
      refine a_ic_ne C dX12_keeps_36 (tgt := 42) rfl (fun c => ?_) (fun c => ?_)
      · have hf : ffree t q = true := by
          unfold ffree
          rw [beq_iff_eq]
          have h2 := Nat.mod_lt (t / 2 ^ q) (show 0 < 2 by decide)
          by_cases e1 : t / 2 ^ q % 2 = 1
          · exact absurd (by rw [e1]; rfl) c
          · omega
        have hk2 : kpF p (i + 1) (t ||| 2 ^ q) (s + h) (r.drop (i + 1)) = kpF p 0 0 0 r := by
          rw [← hk, hq]
          exact (if_pos (by rw [← hq]; exact hf)).symm
        refine a_iload_n C dX12_keeps_42 (i := 1) rfl rfl ?_
        refine a_iconst C dX12_keeps_43 (v := 1) rfl ?_
        refine a_iload C dX12_keeps_44 rfl ?_
        refine a_ishl C dX12_keeps_46 ?_
        refine a_ior C dX12_keeps_47 ?_
        refine a_topi (bt_or t ht2 q hq5).1 ?_
        refine a_istore_n C dX12_keeps_48 (i := 1) rfl (by decide) rfl (vs1 := [some (.ref (ad 236)), some (.int (nI (t ||| 2 ^ q))), some (.int (nI s)), some (.int (nI i)), some (.int (nI q))]) rfl ?_
        refine a_iload_n C dX12_keeps_49 (i := 2) rfl rfl ?_
        refine a_aload_n C dX12_keeps_50 (i := 0) rfl rfl ?_
        refine a_get C fl_RX12_116 (i := 236) kd_236 (hid 236 (by decide)) (v := .ref (ad 269)) rfl dX12_keeps_51 ?_
        refine a_iload_n C dX12_keeps_54 (i := 3) rfl rfl ?_
        refine a_iald C (i := 269) i kd_269 (hid 269 (by decide)) (nI_pos (by omega)) (nI_clamp (by omega)) (by rw [al_269]; omega) dX12_keeps_55 (v := nI h) hti ?_
        refine a_iadd C dX12_keeps_56 ?_
        refine a_topi (nI_add s h) ?_
        refine a_istore_n C dX12_keeps_57 (i := 2) rfl (by decide) rfl (vs1 := [some (.ref (ad 236)), some (.int (nI (t ||| 2 ^ q))), some (.int (nI (s + h))), some (.int (nI i)), some (.int (nI q))]) rfl ?_
        refine a_iinc C dX12_keeps_58 rfl (v := nI (i + 1)) (nI_1 i) (by decide) rfl (vs1 := [some (.ref (ad 236)), some (.int (nI (t ||| 2 ^ q))), some (.int (nI (s + h))), some (.int (nI (i + 1))), some (.int (nI q))]) rfl ?_
        refine a_goto C dX12_keeps_61 (tgt := 6) rfl ?_
        refine AW.sub (vs' := [some (.ref (ad 236)), some (.int (nI (t ||| 2 ^ q))), some (.int (nI (s + h))), some (.int (nI (i + 1))), none]) (fun k v hv => ?_) (ih (i + 1) (t ||| 2 ^ q) (s + h) (by omega) (bt_or t ht2 q hq5).2 (by omega) hk2)
        match k, hv with
        | 0, hv => exact hv
        | 1, hv => exact hv
        | 2, hv => exact hv
        | 3, hv => exact hv
        | 4, hv => simp at hv
        | k + 5, hv => simp at hv
      · have hf : ¬ ffree t q = true := fun f => by
          unfold ffree at f
          rw [beq_iff_eq] at f
          rw [f] at c
          exact absurd c (by decide)
        have hk2 : kpF p 0 0 0 r = none := by
          rw [← hk]
          exact if_neg (fun f => hf (by rw [hq]; exact f))
        refine a_bipush C dX12_keeps_39 (v := (-2)) rfl ?_
        exact a_iret Rt dX12_keeps_41 rfl ⟨by rw [hk2]; rfl, rfl⟩
  exact loop p 0 0 0 (by omega) (by omega) (by omega) rfl
set_option maxHeartbeats 4000000 in
set_option maxRecDepth 100000 in
theorem q_ways_all {l : Launch} {D : va_G} {ids : List Nat} {ad : Nat → Nat} {ca : Nat → ClassId} {σ : HS} {p m k : Nat} (hid : ∀ i, i < 277 → i ∈ ids) (h1 : 1 ≤ p) (h5 : p ≤ 5) (m1 : 1 ≤ m) (m7 : m ≤ 7) (k7 : k ≤ 7) : Ki l D ids ad ca yX12_ways cX12_ways 10 .int 1 24 [.ref (ad 236), .int (nI p), .int (nI m), .int (nI k), .int (-1)] σ (fun r _ => r = resW ((allR m p).filter (fun r => kpF p 0 0 0 r == some k)) (none)) := by
  refine Ki.of (by decide) (Nat.le_of_ble_eq_true rfl) 5 (fun Γ C Rt => ?_)
  show AW ids ad ca Γ 0 [some (.ref (ad 236)), some (.int (nI p)), some (.int (nI m)), some (.int (nI k)), some (.int (-1)), none, none, none, none, none] [] σ
  have ep : nI p - 1 = nI (p - 1) := pk_sub (b := 1) h1
  obtain ⟨L, hLd⟩ : ∃ L, L = (allR m p).filter (fun r => kpF p 0 0 0 r == some k) := ⟨_, rfl⟩
  rw [← hLd] at Rt
  have hL0 : ((List.range' 0 ((m + 1) ^ p)).map (dg (m + 1) p)).filter (fun r => kpF p 0 0 0 r == some k) = L := by rw [hLd, all_dg]
  have hpw := pow_le (p := p) m7 h5
  refine a_iload_n C dX12_ways_0 (i := 1) rfl rfl ?_
  refine a_iconst C dX12_ways_1 (v := 1) rfl ?_
  refine a_iconst C dX12_ways_2 (v := 5) rfl ?_
  refine a_callSi C (m_in_yes hid (show ¬ nI p < nI 1 from nI_nlt (by omega) (by omega)) (show nI p ≤ nI 5 from nI_le (by omega) (by omega))) ms_X12_in ml_RX12_301 rfl rfl (Nat.le_of_ble_eq_true rfl) (Nat.le_of_ble_eq_true rfl) (Nat.le_of_ble_eq_true rfl) dX12_ways_3 (fun r3 σ3 q3 => ?_)
  obtain ⟨rfl, q3⟩ := q3
  rw [q3]
  refine a_if_eq C dX12_ways_6 (tgt := 41) rfl (fun c => absurd c (by decide)) (fun _ => ?_)
  refine a_iload_n C dX12_ways_9 (i := 2) rfl rfl ?_
  refine a_iconst C dX12_ways_10 (v := 1) rfl ?_
  refine a_bipush C dX12_ways_11 (v := 7) rfl ?_
  refine a_callSi C (m_in_yes hid (show ¬ nI m < nI 1 from nI_nlt (by omega) (by omega)) (show nI m ≤ nI 7 from nI_le (by omega) (by omega))) ms_X12_in ml_RX12_301 rfl rfl (Nat.le_of_ble_eq_true rfl) (Nat.le_of_ble_eq_true rfl) (Nat.le_of_ble_eq_true rfl) dX12_ways_13 (fun r13 σ13 q13 => ?_)
  obtain ⟨rfl, q13⟩ := q13
  rw [q13]
  refine a_if_eq C dX12_ways_16 (tgt := 41) rfl (fun c => absurd c (by decide)) (fun _ => ?_)
  refine a_iload_n C dX12_ways_19 (i := 3) rfl rfl ?_
  refine a_iconst C dX12_ways_20 (v := 0) rfl ?_
  refine a_bipush C dX12_ways_21 (v := 7) rfl ?_
  refine a_callSi C (m_in_yes hid (show ¬ nI k < nI 0 from nI_nlt (by omega) (by omega)) (show nI k ≤ nI 7 from nI_le (by omega) (by omega))) ms_X12_in ml_RX12_301 rfl rfl (Nat.le_of_ble_eq_true rfl) (Nat.le_of_ble_eq_true rfl) (Nat.le_of_ble_eq_true rfl) dX12_ways_23 (fun r23 σ23 q23 => ?_)
  obtain ⟨rfl, q23⟩ := q23
  rw [q23]
  refine a_if_eq C dX12_ways_26 (tgt := 41) rfl (fun c => absurd c (by decide)) (fun _ => ?_)
  refine a_iload C dX12_ways_29 rfl ?_
  refine a_iconst C dX12_ways_31 (v := (-1)) rfl ?_
  refine a_iload_n C dX12_ways_32 (i := 1) rfl rfl ?_
  refine a_iconst C dX12_ways_33 (v := 1) rfl ?_
  refine a_isub C dX12_ways_34 ?_
  refine a_topi ep ?_
  refine a_callSi C (m_in_yes hid ((by decide)) (Int32.le_of_lt (m1_lt (by omega)))) ms_X12_in ml_RX12_301 rfl rfl (Nat.le_of_ble_eq_true rfl) (Nat.le_of_ble_eq_true rfl) (Nat.le_of_ble_eq_true rfl) dX12_ways_35 (fun r35 σ35 q35 => ?_)
  obtain ⟨rfl, q35⟩ := q35
  rw [q35]
  refine a_if_ne C dX12_ways_38 (tgt := 43) rfl (fun _ => ?_) (fun c => absurd c (by decide))
  refine a_iconst C dX12_ways_43 (v := 1) rfl ?_
  refine a_topi (show (1 : Int32) = nI ((m + 1) ^ 0) from rfl) ?_
  refine a_istore C dX12_ways_44 (by decide) rfl (vs1 := [some (.ref (ad 236)), some (.int (nI p)), some (.int (nI m)), some (.int (nI k)), some (.int (-1)), some (.int (nI ((m + 1) ^ 0))), none, none, none, none]) rfl ?_
  refine a_iconst C dX12_ways_46 (v := 0) rfl ?_
  refine a_topi nI_0.symm ?_
  refine a_istore C dX12_ways_47 (by decide) rfl (vs1 := [some (.ref (ad 236)), some (.int (nI p)), some (.int (nI m)), some (.int (nI k)), some (.int (-1)), some (.int (nI ((m + 1) ^ 0))), some (.int (nI 0)), none, none, none]) rfl ?_
  have main : AW ids ad ca Γ 69 [some (.ref (ad 236)), some (.int (nI p)), some (.int (nI m)), some (.int (nI k)), some (.int (-1)), some (.int (nI ((m + 1) ^ p))), some (.int (nI p)), none, none, none] [] σ := by
    refine a_aload_n C dX12_ways_69 (i := 0) rfl rfl ?_
    refine a_iload_n C dX12_ways_70 (i := 1) rfl rfl ?_
    refine a_put C fp_RX12_408 (i := 236) kd_236 (hid 236 (by decide)) rfl rfl dX12_ways_71 ?_
    refine a_iconst C dX12_ways_74 (v := 0) rfl ?_
    refine a_topi nI_0.symm ?_
    refine a_istore C dX12_ways_75 (by decide) rfl (vs1 := [some (.ref (ad 236)), some (.int (nI p)), some (.int (nI m)), some (.int (nI k)), some (.int (-1)), some (.int (nI ((m + 1) ^ p))), some (.int (nI 0)), none, none, none]) rfl ?_
    refine a_iconst C dX12_ways_77 (v := 0) rfl ?_
    refine a_topi nI_0.symm ?_
    refine a_istore C dX12_ways_78 (by decide) rfl (vs1 := [some (.ref (ad 236)), some (.int (nI p)), some (.int (nI m)), some (.int (nI k)), some (.int (-1)), some (.int (nI ((m + 1) ^ p))), some (.int (nI 0)), some (.int (nI 0)), none, none]) rfl ?_
    have loop : ∀ (e w : Nat) (σ2 : HS) (G : List (List Nat)), w + e = (m + 1) ^ p → σ2.1 236 57 = nI p → G ++ ((List.range' w e).map (dg (m + 1) p)).filter (fun r => kpF p 0 0 0 r == some k) = L → AW ids ad ca Γ 80 [some (.ref (ad 236)), some (.int (nI p)), some (.int (nI m)), some (.int (nI k)), some (.int (-1)), some (.int (nI ((m + 1) ^ p))), some (.int (nI G.length)), some (.int (nI w)), none, none] [] σ2 := by
      intro e
      induction e with
      | zero =>
        intro w σ2 G hw hp hG
        refine a_iload C dX12_ways_80 rfl ?_
        refine a_iload C dX12_ways_82 rfl ?_
        refine a_ic_ge C dX12_ways_84 (tgt := 161) rfl (fun _ => ?_) (fun c => absurd (nI_le (by omega) (by omega)) c)
        refine a_iload C dX12_ways_161 rfl ?_
        refine a_iconst C dX12_ways_163 (v := (-1)) rfl ?_
        refine a_ic_ne C dX12_ways_164 (tgt := 172) rfl (fun c => absurd rfl c) (fun _ => ?_)
        refine a_iload C dX12_ways_167 rfl ?_
        refine a_goto C dX12_ways_169 (tgt := 174) rfl ?_
        refine a_iret Rt dX12_ways_174 rfl ?_
        have hG : G ++ [] = L := hG
        rw [← hG, List.append_nil]
        rfl
      | succ e ih =>
        intro w σ2 G hw hp hG
        obtain ⟨row, hrow⟩ : ∃ row, row = dg (m + 1) p w := ⟨_, rfl⟩
        have hrl : row.length = p := by rw [hrow]; exact dg_len _ _ _
        have hr7 : ∀ x ∈ row, x ≤ 7 := fun x hx => by
          rw [hrow] at hx
          have := dg_lt (Nat.succ_pos m) p w x hx
          omega
        have hstep : ((List.range' w (e + 1)).map (dg (m + 1) p)).filter (fun r => kpF p 0 0 0 r == some k) = (if (kpF p 0 0 0 row == some k) = true then [row] else []) ++ ((List.range' (w + 1) e).map (dg (m + 1) p)).filter (fun r => kpF p 0 0 0 r == some k) := by
          rw [List.range'_succ, List.map_cons, List.filter_cons, ← hrow]
          by_cases c : (kpF p 0 0 0 row == some k) = true
          · rw [if_pos c, if_pos c]; rfl
          · rw [if_neg c, if_neg c]; rfl
        refine a_iload C dX12_ways_80 rfl ?_
        refine a_iload C dX12_ways_82 rfl ?_
        refine a_ic_ge C dX12_ways_84 (tgt := 161) rfl (fun c => absurd c (nI_ge (by omega) (by omega))) (fun _ => ?_)
        have next : ∀ σ4 : HS, σ4.1 236 57 = nI p → (∀ j, j < p → σ4.1 269 j = nI (row.getD j 0)) → AW ids ad ca Γ 128 [some (.ref (ad 236)), some (.int (nI p)), some (.int (nI m)), some (.int (nI k)), some (.int (-1)), some (.int (nI ((m + 1) ^ p))), some (.int (nI G.length)), some (.int (nI w)), none, none] [] σ4 := by
          intro σ4 hp4 ht4
          have again : ∀ (G2 : List (List Nat)), G2 ++ ((List.range' (w + 1) e).map (dg (m + 1) p)).filter (fun r => kpF p 0 0 0 r == some k) = L → AW ids ad ca Γ 155 [some (.ref (ad 236)), some (.int (nI p)), some (.int (nI m)), some (.int (nI k)), some (.int (-1)), some (.int (nI ((m + 1) ^ p))), some (.int (nI G2.length)), some (.int (nI w)), none, none] [] σ4 := by
            intro G2 hG2
            refine a_iinc C dX12_ways_155 rfl (v := nI (w + 1)) (nI_1 w) (by decide) rfl (vs1 := [some (.ref (ad 236)), some (.int (nI p)), some (.int (nI m)), some (.int (nI k)), some (.int (-1)), some (.int (nI ((m + 1) ^ p))), some (.int (nI G2.length)), some (.int (nI (w + 1))), none, none]) rfl ?_
            refine a_goto C dX12_ways_158 (tgt := 80) rfl ?_
            exact ih (w + 1) σ4 G2 (by omega) hp4 hG2
          refine a_aload_n C dX12_ways_128 (i := 0) rfl rfl ?_
          refine a_callVi C (i := 236) kd_236 (hid 236 (by decide)) ⟨_, _, rfl⟩ (by decide) (m_keepsR hid h1 h5 hrl hr7 hp4 ht4) mi_X12_keeps ml_RX12_414 rfl rfl (Nat.le_of_ble_eq_true rfl) (Nat.le_of_ble_eq_true rfl) (Nat.le_of_ble_eq_true rfl) dX12_ways_129 (fun r5 σ5 q5 => ?_)
          obtain ⟨rfl, q5⟩ := q5
          rw [q5]
          refine a_iload_n C dX12_ways_132 (i := 3) rfl rfl ?_
          refine a_ic_eq C dX12_ways_133 (tgt := 139) rfl (fun c => ?_) (fun c => ?_)
          · have hk := (kpI_eq (kp_le h5 hrl hr7) k7).mp c
            have hb : (kpF p 0 0 0 row == some k) = true := by rw [hk]; exact beq_self_eq_true _
            rw [hstep, if_pos hb] at hG
            refine a_iload C dX12_ways_139 rfl ?_
            refine a_if_lt C dX12_ways_141 (tgt := 152) rfl (fun _ => ?_) (fun c => absurd (by decide) c)
            refine a_iinc C dX12_ways_152 rfl (v := nI (G ++ [row]).length) ((nI_1 _).trans (by rw [List.length_append]; rfl)) (by decide) rfl (vs1 := [some (.ref (ad 236)), some (.int (nI p)), some (.int (nI m)), some (.int (nI k)), some (.int (-1)), some (.int (nI ((m + 1) ^ p))), some (.int (nI (G ++ [row]).length)), some (.int (nI w)), none, none]) rfl ?_
            exact again (G ++ [row]) (by rw [List.append_assoc]; exact hG)
          · have hb : ¬ (kpF p 0 0 0 row == some k) = true := fun q => c ((kpI_eq (kp_le h5 hrl hr7) k7).mpr (eq_of_beq q))
            rw [hstep, if_neg hb, List.nil_append] at hG
            refine a_goto C dX12_ways_136 (tgt := 155) rfl ?_
            exact again G hG
        have digits : ∀ (f c : Nat) (σ3 : HS), c + f = p → σ3.1 236 57 = nI p → (∀ j, p - c ≤ j → j < p → σ3.1 269 j = nI (row.getD j 0)) → AW ids ad ca Γ 96 [some (.ref (ad 236)), some (.int (nI p)), some (.int (nI m)), some (.int (nI k)), some (.int (-1)), some (.int (nI ((m + 1) ^ p))), some (.int (nI G.length)), some (.int (nI w)), some (.int (nI (w / (m + 1) ^ c))), some (.int (nI (p - c) + (-1)))] [] σ3 := by
          intro f
          induction f with
          | zero =>
            intro c σ3 hc hp3 ht3
            have e0 : nI (p - c) + (-1) = -1 := by
              rw [show p - c = 0 by omega]
              rfl
            refine a_iload C dX12_ways_96 rfl ?_
            refine a_topi e0 ?_
            refine a_if_lt C dX12_ways_98 (tgt := 128) rfl (fun _ => ?_) (fun c => absurd (by decide) c)
            refine AW.sub (vs' := [some (.ref (ad 236)), some (.int (nI p)), some (.int (nI m)), some (.int (nI k)), some (.int (-1)), some (.int (nI ((m + 1) ^ p))), some (.int (nI G.length)), some (.int (nI w)), none, none]) (fun k v hv => ?_) (next σ3 hp3 (fun j hj => ht3 j (by omega) hj))
            match k, hv with
            | 0, hv => exact hv
            | 1, hv => exact hv
            | 2, hv => exact hv
            | 3, hv => exact hv
            | 4, hv => exact hv
            | 5, hv => exact hv
            | 6, hv => exact hv
            | 7, hv => exact hv
            | 8, hv => simp at hv
            | 9, hv => simp at hv
            | k + 10, hv => simp at hv
          | succ f ihf =>
            intro c σ3 hc hp3 ht3
            have e0 : nI (p - c) + (-1) = nI (p - c - 1) := v9 (by omega)
            have hwb : w / (m + 1) ^ c ≤ w := Nat.div_le_self _ _
            have hdig : row.getD (p - c - 1) 0 = w / (m + 1) ^ c % (m + 1) := by
              rw [hrow, dg_get _ _ _ _ (by omega), show p - 1 - (p - c - 1) = c by omega]
            refine a_iload C dX12_ways_96 rfl ?_
            refine a_topi e0 ?_
            refine a_if_lt C dX12_ways_98 (tgt := 128) rfl (fun c => absurd c (nI_pos (by omega))) (fun _ => ?_)
            refine a_aload_n C dX12_ways_101 (i := 0) rfl rfl ?_
            refine a_get C fl_RX12_116 (i := 236) kd_236 (hid 236 (by decide)) (v := .ref (ad 269)) rfl dX12_ways_102 ?_
            refine a_iload C dX12_ways_105 rfl ?_
            refine a_topi e0 ?_
            refine a_iload C dX12_ways_107 rfl ?_
            refine a_iload_n C dX12_ways_109 (i := 2) rfl rfl ?_
            refine a_iconst C dX12_ways_110 (v := 1) rfl ?_
            refine a_iadd C dX12_ways_111 ?_
            refine a_topi (nI_1 m) ?_
            refine a_irem C dX12_ways_112 (nI_ne0 (by omega) (by omega)) ?_
            refine a_topi (pk_rem (by omega) (by omega) (by omega)) ?_
            refine a_iast C (i := 269) (p - c - 1) kd_269 (hid 269 (by decide)) (nI_pos (by omega)) (nI_clamp (by omega)) (by rw [al_269]; omega) dX12_ways_113 ?_
            refine a_iload C dX12_ways_114 rfl ?_
            refine a_iload_n C dX12_ways_116 (i := 2) rfl rfl ?_
            refine a_iconst C dX12_ways_117 (v := 1) rfl ?_
            refine a_iadd C dX12_ways_118 ?_
            refine a_topi (nI_1 m) ?_
            refine a_idiv C dX12_ways_119 (nI_ne0 (by omega) (by omega)) ?_
            refine a_topi ((pk_div (by omega) (by omega) (by omega)).trans (congrArg nI (by rw [Nat.div_div_eq_div_mul, ← Nat.pow_succ]))) ?_
            refine a_istore C dX12_ways_120 (by decide) rfl (vs1 := [some (.ref (ad 236)), some (.int (nI p)), some (.int (nI m)), some (.int (nI k)), some (.int (-1)), some (.int (nI ((m + 1) ^ p))), some (.int (nI G.length)), some (.int (nI w)), some (.int (nI (w / (m + 1) ^ (c + 1)))), some (.int (nI (p - c) + (-1)))]) rfl ?_
            refine a_iinc C dX12_ways_122 rfl (v := nI (p - (c + 1)) + (-1)) (by rw [e0]; rfl) (by decide) rfl (vs1 := [some (.ref (ad 236)), some (.int (nI p)), some (.int (nI m)), some (.int (nI k)), some (.int (-1)), some (.int (nI ((m + 1) ^ p))), some (.int (nI G.length)), some (.int (nI w)), some (.int (nI (w / (m + 1) ^ (c + 1)))), some (.int (nI (p - (c + 1)) + (-1)))]) rfl ?_
            refine a_goto C dX12_ways_125 (tgt := 96) rfl ?_
            refine ihf (c + 1) _ (by omega) ((congrFun (hI_o (by decide)) 57).trans hp3) (fun j hj1 hj2 => ?_)
            by_cases ej : j = p - c - 1
            · rw [ej, hI_s, hdig]
            · rw [hI_n ej]
              exact ht3 j (by omega) hj2
        refine a_iload C dX12_ways_87 rfl ?_
        refine a_topi (congrArg nI (show w = w / (m + 1) ^ 0 by rw [Nat.pow_zero, Nat.div_one])) ?_
        refine a_istore C dX12_ways_89 (by decide) rfl (vs1 := [some (.ref (ad 236)), some (.int (nI p)), some (.int (nI m)), some (.int (nI k)), some (.int (-1)), some (.int (nI ((m + 1) ^ p))), some (.int (nI G.length)), some (.int (nI w)), some (.int (nI (w / (m + 1) ^ 0))), none]) rfl ?_
        refine a_iload_n C dX12_ways_91 (i := 1) rfl rfl ?_
        refine a_iconst C dX12_ways_92 (v := 1) rfl ?_
        refine a_isub C dX12_ways_93 ?_
        refine a_topi (ep.trans (v9 (c := 0) (by omega)).symm) ?_
        refine a_istore C dX12_ways_94 (by decide) rfl (vs1 := [some (.ref (ad 236)), some (.int (nI p)), some (.int (nI m)), some (.int (nI k)), some (.int (-1)), some (.int (nI ((m + 1) ^ p))), some (.int (nI G.length)), some (.int (nI w)), some (.int (nI (w / (m + 1) ^ 0))), some (.int (nI (p - 0) + (-1)))]) rfl ?_
        exact digits p 0 σ2 (by omega) hp (fun j hj1 hj2 => by omega)
    exact loop ((m + 1) ^ p) 0 _ [] (by omega) hI_s hL0
  have loopA : ∀ (e j : Nat), j + e = p → AW ids ad ca Γ 49 [some (.ref (ad 236)), some (.int (nI p)), some (.int (nI m)), some (.int (nI k)), some (.int (-1)), some (.int (nI ((m + 1) ^ j))), some (.int (nI j)), none, none, none] [] σ := by
    intro e
    induction e with
    | zero =>
      intro j hj
      obtain rfl : j = p := by omega
      refine a_iload C dX12_ways_49 rfl ?_
      refine a_iload_n C dX12_ways_51 (i := 1) rfl rfl ?_
      exact a_ic_ge C dX12_ways_52 (tgt := 69) rfl (fun _ => main) (fun c => absurd (nI_le (Nat.le_refl _) (by omega)) c)
    | succ e ih =>
      intro j hj
      refine a_iload C dX12_ways_49 rfl ?_
      refine a_iload_n C dX12_ways_51 (i := 1) rfl rfl ?_
      refine a_ic_ge C dX12_ways_52 (tgt := 69) rfl (fun c => absurd c (nI_ge (by omega) (by omega))) (fun _ => ?_)
      refine a_iload C dX12_ways_55 rfl ?_
      refine a_iload_n C dX12_ways_57 (i := 2) rfl rfl ?_
      refine a_iconst C dX12_ways_58 (v := 1) rfl ?_
      refine a_iadd C dX12_ways_59 ?_
      refine a_topi (nI_1 m) ?_
      refine a_imul C dX12_ways_60 ?_
      refine a_topi ((pk_mul _ _).trans (congrArg nI (Nat.pow_succ ..).symm)) ?_
      refine a_istore C dX12_ways_61 (by decide) rfl (vs1 := [some (.ref (ad 236)), some (.int (nI p)), some (.int (nI m)), some (.int (nI k)), some (.int (-1)), some (.int (nI ((m + 1) ^ (j + 1)))), some (.int (nI j)), none, none, none]) rfl ?_
      refine a_iinc C dX12_ways_63 rfl (v := nI (j + 1)) (nI_1 j) (by decide) rfl (vs1 := [some (.ref (ad 236)), some (.int (nI p)), some (.int (nI m)), some (.int (nI k)), some (.int (-1)), some (.int (nI ((m + 1) ^ (j + 1)))), some (.int (nI (j + 1))), none, none, none]) rfl ?_
      refine a_goto C dX12_ways_66 (tgt := 49) rfl ?_
      exact ih (j + 1) (by omega)
  exact loopA p 0 (by omega)
set_option maxHeartbeats 4000000 in
set_option maxRecDepth 100000 in
theorem q_ways_one {l : Launch} {D : va_G} {ids : List Nat} {ad : Nat → Nat} {ca : Nat → ClassId} {σ : HS} {p m k n : Nat} (hid : ∀ i, i < 277 → i ∈ ids) (h1 : 1 ≤ p) (h5 : p ≤ 5) (m1 : 1 ≤ m) (m7 : m ≤ 7) (k7 : k ≤ 7) (hn : n < p) : Ki l D ids ad ca yX12_ways cX12_ways 10 .int 1 24 [.ref (ad 236), .int (nI p), .int (nI m), .int (nI k), .int (nI n)] σ (fun r _ => r = resW ((allR m p).filter (fun r => kpF p 0 0 0 r == some k)) (some n)) := by
  refine Ki.of (by decide) (Nat.le_of_ble_eq_true rfl) 5 (fun Γ C Rt => ?_)
  show AW ids ad ca Γ 0 [some (.ref (ad 236)), some (.int (nI p)), some (.int (nI m)), some (.int (nI k)), some (.int (nI n)), none, none, none, none, none] [] σ
  have ep : nI p - 1 = nI (p - 1) := pk_sub (b := 1) h1
  obtain ⟨L, hLd⟩ : ∃ L, L = (allR m p).filter (fun r => kpF p 0 0 0 r == some k) := ⟨_, rfl⟩
  rw [← hLd] at Rt
  have hL0 : ((List.range' 0 ((m + 1) ^ p)).map (dg (m + 1) p)).filter (fun r => kpF p 0 0 0 r == some k) = L := by rw [hLd, all_dg]
  have hpw := pow_le (p := p) m7 h5
  refine a_iload_n C dX12_ways_0 (i := 1) rfl rfl ?_
  refine a_iconst C dX12_ways_1 (v := 1) rfl ?_
  refine a_iconst C dX12_ways_2 (v := 5) rfl ?_
  refine a_callSi C (m_in_yes hid (show ¬ nI p < nI 1 from nI_nlt (by omega) (by omega)) (show nI p ≤ nI 5 from nI_le (by omega) (by omega))) ms_X12_in ml_RX12_301 rfl rfl (Nat.le_of_ble_eq_true rfl) (Nat.le_of_ble_eq_true rfl) (Nat.le_of_ble_eq_true rfl) dX12_ways_3 (fun r3 σ3 q3 => ?_)
  obtain ⟨rfl, q3⟩ := q3
  rw [q3]
  refine a_if_eq C dX12_ways_6 (tgt := 41) rfl (fun c => absurd c (by decide)) (fun _ => ?_)
  refine a_iload_n C dX12_ways_9 (i := 2) rfl rfl ?_
  refine a_iconst C dX12_ways_10 (v := 1) rfl ?_
  refine a_bipush C dX12_ways_11 (v := 7) rfl ?_
  refine a_callSi C (m_in_yes hid (show ¬ nI m < nI 1 from nI_nlt (by omega) (by omega)) (show nI m ≤ nI 7 from nI_le (by omega) (by omega))) ms_X12_in ml_RX12_301 rfl rfl (Nat.le_of_ble_eq_true rfl) (Nat.le_of_ble_eq_true rfl) (Nat.le_of_ble_eq_true rfl) dX12_ways_13 (fun r13 σ13 q13 => ?_)
  obtain ⟨rfl, q13⟩ := q13
  rw [q13]
  refine a_if_eq C dX12_ways_16 (tgt := 41) rfl (fun c => absurd c (by decide)) (fun _ => ?_)
  refine a_iload_n C dX12_ways_19 (i := 3) rfl rfl ?_
  refine a_iconst C dX12_ways_20 (v := 0) rfl ?_
  refine a_bipush C dX12_ways_21 (v := 7) rfl ?_
  refine a_callSi C (m_in_yes hid (show ¬ nI k < nI 0 from nI_nlt (by omega) (by omega)) (show nI k ≤ nI 7 from nI_le (by omega) (by omega))) ms_X12_in ml_RX12_301 rfl rfl (Nat.le_of_ble_eq_true rfl) (Nat.le_of_ble_eq_true rfl) (Nat.le_of_ble_eq_true rfl) dX12_ways_23 (fun r23 σ23 q23 => ?_)
  obtain ⟨rfl, q23⟩ := q23
  rw [q23]
  refine a_if_eq C dX12_ways_26 (tgt := 41) rfl (fun c => absurd c (by decide)) (fun _ => ?_)
  refine a_iload C dX12_ways_29 rfl ?_
  refine a_iconst C dX12_ways_31 (v := (-1)) rfl ?_
  refine a_iload_n C dX12_ways_32 (i := 1) rfl rfl ?_
  refine a_iconst C dX12_ways_33 (v := 1) rfl ?_
  refine a_isub C dX12_ways_34 ?_
  refine a_topi ep ?_
  refine a_callSi C (m_in_yes hid (Int32.not_lt.mpr (Int32.le_of_lt (m1_lt (by omega)))) (nI_le (by omega) (by omega))) ms_X12_in ml_RX12_301 rfl rfl (Nat.le_of_ble_eq_true rfl) (Nat.le_of_ble_eq_true rfl) (Nat.le_of_ble_eq_true rfl) dX12_ways_35 (fun r35 σ35 q35 => ?_)
  obtain ⟨rfl, q35⟩ := q35
  rw [q35]
  refine a_if_ne C dX12_ways_38 (tgt := 43) rfl (fun _ => ?_) (fun c => absurd c (by decide))
  refine a_iconst C dX12_ways_43 (v := 1) rfl ?_
  refine a_topi (show (1 : Int32) = nI ((m + 1) ^ 0) from rfl) ?_
  refine a_istore C dX12_ways_44 (by decide) rfl (vs1 := [some (.ref (ad 236)), some (.int (nI p)), some (.int (nI m)), some (.int (nI k)), some (.int (nI n)), some (.int (nI ((m + 1) ^ 0))), none, none, none, none]) rfl ?_
  refine a_iconst C dX12_ways_46 (v := 0) rfl ?_
  refine a_topi nI_0.symm ?_
  refine a_istore C dX12_ways_47 (by decide) rfl (vs1 := [some (.ref (ad 236)), some (.int (nI p)), some (.int (nI m)), some (.int (nI k)), some (.int (nI n)), some (.int (nI ((m + 1) ^ 0))), some (.int (nI 0)), none, none, none]) rfl ?_
  have main : AW ids ad ca Γ 69 [some (.ref (ad 236)), some (.int (nI p)), some (.int (nI m)), some (.int (nI k)), some (.int (nI n)), some (.int (nI ((m + 1) ^ p))), some (.int (nI p)), none, none, none] [] σ := by
    refine a_aload_n C dX12_ways_69 (i := 0) rfl rfl ?_
    refine a_iload_n C dX12_ways_70 (i := 1) rfl rfl ?_
    refine a_put C fp_RX12_408 (i := 236) kd_236 (hid 236 (by decide)) rfl rfl dX12_ways_71 ?_
    refine a_iconst C dX12_ways_74 (v := 0) rfl ?_
    refine a_topi nI_0.symm ?_
    refine a_istore C dX12_ways_75 (by decide) rfl (vs1 := [some (.ref (ad 236)), some (.int (nI p)), some (.int (nI m)), some (.int (nI k)), some (.int (nI n)), some (.int (nI ((m + 1) ^ p))), some (.int (nI 0)), none, none, none]) rfl ?_
    refine a_iconst C dX12_ways_77 (v := 0) rfl ?_
    refine a_topi nI_0.symm ?_
    refine a_istore C dX12_ways_78 (by decide) rfl (vs1 := [some (.ref (ad 236)), some (.int (nI p)), some (.int (nI m)), some (.int (nI k)), some (.int (nI n)), some (.int (nI ((m + 1) ^ p))), some (.int (nI 0)), some (.int (nI 0)), none, none]) rfl ?_
    have loop : ∀ (e w : Nat) (σ2 : HS), w + e = (m + 1) ^ p → σ2.1 236 57 = nI p → ((List.range' w e).map (dg (m + 1) p)).filter (fun r => kpF p 0 0 0 r == some k) = L → AW ids ad ca Γ 80 [some (.ref (ad 236)), some (.int (nI p)), some (.int (nI m)), some (.int (nI k)), some (.int (nI n)), some (.int (nI ((m + 1) ^ p))), some (.int (nI 0)), some (.int (nI w)), none, none] [] σ2 := by
      intro e
      induction e with
      | zero =>
        intro w σ2 hw hp hG
        refine a_iload C dX12_ways_80 rfl ?_
        refine a_iload C dX12_ways_82 rfl ?_
        refine a_ic_ge C dX12_ways_84 (tgt := 161) rfl (fun _ => ?_) (fun c => absurd (nI_le (by omega) (by omega)) c)
        refine a_iload C dX12_ways_161 rfl ?_
        refine a_iconst C dX12_ways_163 (v := (-1)) rfl ?_
        refine a_ic_ne C dX12_ways_164 (tgt := 172) rfl (fun _ => ?_) (fun c => absurd c (m1_ne (by omega)))
        refine a_bipush C dX12_ways_172 (v := (-2)) rfl ?_
        refine a_iret Rt dX12_ways_174 rfl ?_
        have hG : [] = L := hG
        rw [← hG]
        rfl
      | succ e ih =>
        intro w σ2 hw hp hG
        obtain ⟨row, hrow⟩ : ∃ row, row = dg (m + 1) p w := ⟨_, rfl⟩
        have hrl : row.length = p := by rw [hrow]; exact dg_len _ _ _
        have hr7 : ∀ x ∈ row, x ≤ 7 := fun x hx => by
          rw [hrow] at hx
          have := dg_lt (Nat.succ_pos m) p w x hx
          omega
        have hstep : ((List.range' w (e + 1)).map (dg (m + 1) p)).filter (fun r => kpF p 0 0 0 r == some k) = (if (kpF p 0 0 0 row == some k) = true then [row] else []) ++ ((List.range' (w + 1) e).map (dg (m + 1) p)).filter (fun r => kpF p 0 0 0 r == some k) := by
          rw [List.range'_succ, List.map_cons, List.filter_cons, ← hrow]
          by_cases c : (kpF p 0 0 0 row == some k) = true
          · rw [if_pos c, if_pos c]; rfl
          · rw [if_neg c, if_neg c]; rfl
        refine a_iload C dX12_ways_80 rfl ?_
        refine a_iload C dX12_ways_82 rfl ?_
        refine a_ic_ge C dX12_ways_84 (tgt := 161) rfl (fun c => absurd c (nI_ge (by omega) (by omega))) (fun _ => ?_)
        have next : ∀ σ4 : HS, σ4.1 236 57 = nI p → (∀ j, j < p → σ4.1 269 j = nI (row.getD j 0)) → AW ids ad ca Γ 128 [some (.ref (ad 236)), some (.int (nI p)), some (.int (nI m)), some (.int (nI k)), some (.int (nI n)), some (.int (nI ((m + 1) ^ p))), some (.int (nI 0)), some (.int (nI w)), none, none] [] σ4 := by
          intro σ4 hp4 ht4
          have again : ((List.range' (w + 1) e).map (dg (m + 1) p)).filter (fun r => kpF p 0 0 0 r == some k) = L → AW ids ad ca Γ 155 [some (.ref (ad 236)), some (.int (nI p)), some (.int (nI m)), some (.int (nI k)), some (.int (nI n)), some (.int (nI ((m + 1) ^ p))), some (.int (nI 0)), some (.int (nI w)), none, none] [] σ4 := by
            intro hG2
            refine a_iinc C dX12_ways_155 rfl (v := nI (w + 1)) (nI_1 w) (by decide) rfl (vs1 := [some (.ref (ad 236)), some (.int (nI p)), some (.int (nI m)), some (.int (nI k)), some (.int (nI n)), some (.int (nI ((m + 1) ^ p))), some (.int (nI 0)), some (.int (nI (w + 1))), none, none]) rfl ?_
            refine a_goto C dX12_ways_158 (tgt := 80) rfl ?_
            exact ih (w + 1) σ4 (by omega) hp4 hG2
          refine a_aload_n C dX12_ways_128 (i := 0) rfl rfl ?_
          refine a_callVi C (i := 236) kd_236 (hid 236 (by decide)) ⟨_, _, rfl⟩ (by decide) (m_keepsR hid h1 h5 hrl hr7 hp4 ht4) mi_X12_keeps ml_RX12_414 rfl rfl (Nat.le_of_ble_eq_true rfl) (Nat.le_of_ble_eq_true rfl) (Nat.le_of_ble_eq_true rfl) dX12_ways_129 (fun r5 σ5 q5 => ?_)
          obtain ⟨rfl, q5⟩ := q5
          rw [q5]
          refine a_iload_n C dX12_ways_132 (i := 3) rfl rfl ?_
          refine a_ic_eq C dX12_ways_133 (tgt := 139) rfl (fun c => ?_) (fun c => ?_)
          · have hk := (kpI_eq (kp_le h5 hrl hr7) k7).mp c
            have hb : (kpF p 0 0 0 row == some k) = true := by rw [hk]; exact beq_self_eq_true _
            rw [hstep, if_pos hb] at hG
            refine a_iload C dX12_ways_139 rfl ?_
            refine a_if_lt C dX12_ways_141 (tgt := 152) rfl (fun c => absurd c (nI_pos (by omega))) (fun _ => ?_)
            refine a_aload_n C dX12_ways_144 (i := 0) rfl rfl ?_
            refine a_get C fl_RX12_116 (i := 236) kd_236 (hid 236 (by decide)) (v := .ref (ad 269)) rfl dX12_ways_145 ?_
            refine a_iload C dX12_ways_148 rfl ?_
            refine a_iald C (i := 269) n kd_269 (hid 269 (by decide)) (nI_pos (by omega)) (nI_clamp (by omega)) (by rw [al_269]; omega) dX12_ways_150 (v := nI (row.getD n 0)) (ht4 n hn) ?_
            refine a_iret Rt dX12_ways_151 rfl ?_
            rw [← hG]
            rfl
          · have hb : ¬ (kpF p 0 0 0 row == some k) = true := fun q => c ((kpI_eq (kp_le h5 hrl hr7) k7).mpr (eq_of_beq q))
            rw [hstep, if_neg hb, List.nil_append] at hG
            refine a_goto C dX12_ways_136 (tgt := 155) rfl ?_
            exact again hG
        have digits : ∀ (f c : Nat) (σ3 : HS), c + f = p → σ3.1 236 57 = nI p → (∀ j, p - c ≤ j → j < p → σ3.1 269 j = nI (row.getD j 0)) → AW ids ad ca Γ 96 [some (.ref (ad 236)), some (.int (nI p)), some (.int (nI m)), some (.int (nI k)), some (.int (nI n)), some (.int (nI ((m + 1) ^ p))), some (.int (nI 0)), some (.int (nI w)), some (.int (nI (w / (m + 1) ^ c))), some (.int (nI (p - c) + (-1)))] [] σ3 := by
          intro f
          induction f with
          | zero =>
            intro c σ3 hc hp3 ht3
            have e0 : nI (p - c) + (-1) = -1 := by
              rw [show p - c = 0 by omega]
              rfl
            refine a_iload C dX12_ways_96 rfl ?_
            refine a_topi e0 ?_
            refine a_if_lt C dX12_ways_98 (tgt := 128) rfl (fun _ => ?_) (fun c => absurd (by decide) c)
            refine AW.sub (vs' := [some (.ref (ad 236)), some (.int (nI p)), some (.int (nI m)), some (.int (nI k)), some (.int (nI n)), some (.int (nI ((m + 1) ^ p))), some (.int (nI 0)), some (.int (nI w)), none, none]) (fun k v hv => ?_) (next σ3 hp3 (fun j hj => ht3 j (by omega) hj))
            match k, hv with
            | 0, hv => exact hv
            | 1, hv => exact hv
            | 2, hv => exact hv
            | 3, hv => exact hv
            | 4, hv => exact hv
            | 5, hv => exact hv
            | 6, hv => exact hv
            | 7, hv => exact hv
            | 8, hv => simp at hv
            | 9, hv => simp at hv
            | k + 10, hv => simp at hv
          | succ f ihf =>
            intro c σ3 hc hp3 ht3
            have e0 : nI (p - c) + (-1) = nI (p - c - 1) := v9 (by omega)
            have hwb : w / (m + 1) ^ c ≤ w := Nat.div_le_self _ _
            have hdig : row.getD (p - c - 1) 0 = w / (m + 1) ^ c % (m + 1) := by
              rw [hrow, dg_get _ _ _ _ (by omega), show p - 1 - (p - c - 1) = c by omega]
            refine a_iload C dX12_ways_96 rfl ?_
            refine a_topi e0 ?_
            refine a_if_lt C dX12_ways_98 (tgt := 128) rfl (fun c => absurd c (nI_pos (by omega))) (fun _ => ?_)
            refine a_aload_n C dX12_ways_101 (i := 0) rfl rfl ?_
            refine a_get C fl_RX12_116 (i := 236) kd_236 (hid 236 (by decide)) (v := .ref (ad 269)) rfl dX12_ways_102 ?_
            refine a_iload C dX12_ways_105 rfl ?_
            refine a_topi e0 ?_
            refine a_iload C dX12_ways_107 rfl ?_
            refine a_iload_n C dX12_ways_109 (i := 2) rfl rfl ?_
            refine a_iconst C dX12_ways_110 (v := 1) rfl ?_
            refine a_iadd C dX12_ways_111 ?_
            refine a_topi (nI_1 m) ?_
            refine a_irem C dX12_ways_112 (nI_ne0 (by omega) (by omega)) ?_
            refine a_topi (pk_rem (by omega) (by omega) (by omega)) ?_
            refine a_iast C (i := 269) (p - c - 1) kd_269 (hid 269 (by decide)) (nI_pos (by omega)) (nI_clamp (by omega)) (by rw [al_269]; omega) dX12_ways_113 ?_
            refine a_iload C dX12_ways_114 rfl ?_
            refine a_iload_n C dX12_ways_116 (i := 2) rfl rfl ?_
            refine a_iconst C dX12_ways_117 (v := 1) rfl ?_
            refine a_iadd C dX12_ways_118 ?_
            refine a_topi (nI_1 m) ?_
            refine a_idiv C dX12_ways_119 (nI_ne0 (by omega) (by omega)) ?_
            refine a_topi ((pk_div (by omega) (by omega) (by omega)).trans (congrArg nI (by rw [Nat.div_div_eq_div_mul, ← Nat.pow_succ]))) ?_
            refine a_istore C dX12_ways_120 (by decide) rfl (vs1 := [some (.ref (ad 236)), some (.int (nI p)), some (.int (nI m)), some (.int (nI k)), some (.int (nI n)), some (.int (nI ((m + 1) ^ p))), some (.int (nI 0)), some (.int (nI w)), some (.int (nI (w / (m + 1) ^ (c + 1)))), some (.int (nI (p - c) + (-1)))]) rfl ?_
            refine a_iinc C dX12_ways_122 rfl (v := nI (p - (c + 1)) + (-1)) (by rw [e0]; rfl) (by decide) rfl (vs1 := [some (.ref (ad 236)), some (.int (nI p)), some (.int (nI m)), some (.int (nI k)), some (.int (nI n)), some (.int (nI ((m + 1) ^ p))), some (.int (nI 0)), some (.int (nI w)), some (.int (nI (w / (m + 1) ^ (c + 1)))), some (.int (nI (p - (c + 1)) + (-1)))]) rfl ?_
            refine a_goto C dX12_ways_125 (tgt := 96) rfl ?_
            refine ihf (c + 1) _ (by omega) ((congrFun (hI_o (by decide)) 57).trans hp3) (fun j hj1 hj2 => ?_)
            by_cases ej : j = p - c - 1
            · rw [ej, hI_s, hdig]
            · rw [hI_n ej]
              exact ht3 j (by omega) hj2
        refine a_iload C dX12_ways_87 rfl ?_
        refine a_topi (congrArg nI (show w = w / (m + 1) ^ 0 by rw [Nat.pow_zero, Nat.div_one])) ?_
        refine a_istore C dX12_ways_89 (by decide) rfl (vs1 := [some (.ref (ad 236)), some (.int (nI p)), some (.int (nI m)), some (.int (nI k)), some (.int (nI n)), some (.int (nI ((m + 1) ^ p))), some (.int (nI 0)), some (.int (nI w)), some (.int (nI (w / (m + 1) ^ 0))), none]) rfl ?_
        refine a_iload_n C dX12_ways_91 (i := 1) rfl rfl ?_
        refine a_iconst C dX12_ways_92 (v := 1) rfl ?_
        refine a_isub C dX12_ways_93 ?_
        refine a_topi (ep.trans (v9 (c := 0) (by omega)).symm) ?_
        refine a_istore C dX12_ways_94 (by decide) rfl (vs1 := [some (.ref (ad 236)), some (.int (nI p)), some (.int (nI m)), some (.int (nI k)), some (.int (nI n)), some (.int (nI ((m + 1) ^ p))), some (.int (nI 0)), some (.int (nI w)), some (.int (nI (w / (m + 1) ^ 0))), some (.int (nI (p - 0) + (-1)))]) rfl ?_
        exact digits p 0 σ2 (by omega) hp (fun j hj1 hj2 => by omega)
    exact loop ((m + 1) ^ p) 0 _ (by omega) hI_s hL0
  have loopA : ∀ (e j : Nat), j + e = p → AW ids ad ca Γ 49 [some (.ref (ad 236)), some (.int (nI p)), some (.int (nI m)), some (.int (nI k)), some (.int (nI n)), some (.int (nI ((m + 1) ^ j))), some (.int (nI j)), none, none, none] [] σ := by
    intro e
    induction e with
    | zero =>
      intro j hj
      obtain rfl : j = p := by omega
      refine a_iload C dX12_ways_49 rfl ?_
      refine a_iload_n C dX12_ways_51 (i := 1) rfl rfl ?_
      exact a_ic_ge C dX12_ways_52 (tgt := 69) rfl (fun _ => main) (fun c => absurd (nI_le (Nat.le_refl _) (by omega)) c)
    | succ e ih =>
      intro j hj
      refine a_iload C dX12_ways_49 rfl ?_
      refine a_iload_n C dX12_ways_51 (i := 1) rfl rfl ?_
      refine a_ic_ge C dX12_ways_52 (tgt := 69) rfl (fun c => absurd c (nI_ge (by omega) (by omega))) (fun _ => ?_)
      refine a_iload C dX12_ways_55 rfl ?_
      refine a_iload_n C dX12_ways_57 (i := 2) rfl rfl ?_
      refine a_iconst C dX12_ways_58 (v := 1) rfl ?_
      refine a_iadd C dX12_ways_59 ?_
      refine a_topi (nI_1 m) ?_
      refine a_imul C dX12_ways_60 ?_
      refine a_topi ((pk_mul _ _).trans (congrArg nI (Nat.pow_succ ..).symm)) ?_
      refine a_istore C dX12_ways_61 (by decide) rfl (vs1 := [some (.ref (ad 236)), some (.int (nI p)), some (.int (nI m)), some (.int (nI k)), some (.int (nI n)), some (.int (nI ((m + 1) ^ (j + 1)))), some (.int (nI j)), none, none, none]) rfl ?_
      refine a_iinc C dX12_ways_63 rfl (v := nI (j + 1)) (nI_1 j) (by decide) rfl (vs1 := [some (.ref (ad 236)), some (.int (nI p)), some (.int (nI m)), some (.int (nI k)), some (.int (nI n)), some (.int (nI ((m + 1) ^ (j + 1)))), some (.int (nI (j + 1))), none, none, none]) rfl ?_
      refine a_goto C dX12_ways_66 (tgt := 49) rfl ?_
      exact ih (j + 1) (by omega)
  exact loopA p 0 (by omega)
set_option maxHeartbeats 4000000 in
set_option maxRecDepth 100000 in
theorem q_ways_out {l : Launch} {D : va_G} {ids : List Nat} {ad : Nat → Nat} {ca : Nat → ClassId} {σ : HS} {p0 p1 p2 p3 : Int32} (hid : ∀ i, i < 277 → i ∈ ids) (ho : ¬ ((¬ p0 < 1 ∧ ¬ 5 < p0) ∧ (¬ p1 < 1 ∧ ¬ 7 < p1) ∧ (¬ p2 < 0 ∧ ¬ 7 < p2) ∧ (¬ p3 < -1 ∧ p3 < p0))) : Ki l D ids ad ca yX12_ways cX12_ways 10 .int 1 24 [.ref (ad 236), .int p0, .int p1, .int p2, .int p3] σ (fun r _ => r = (-1)) := by
  refine Ki.of (by decide) (Nat.le_of_ble_eq_true rfl) 5 (fun Γ C Rt => ?_)
  show AW ids ad ca Γ 0 [some (.ref (ad 236)), some (.int p0), some (.int p1), some (.int p2), some (.int p3), none, none, none, none, none] [] σ
  have ret : AW ids ad ca Γ 41 [some (.ref (ad 236)), some (.int p0), some (.int p1), some (.int p2), some (.int p3), none, none, none, none, none] [] σ := by
    refine a_iconst C dX12_ways_41 (v := (-1)) rfl ?_
    exact a_iret Rt dX12_ways_42 rfl rfl
  refine a_iload_n C dX12_ways_0 (i := 1) rfl rfl ?_
  refine a_iconst C dX12_ways_1 (v := 1) rfl ?_
  refine a_iconst C dX12_ways_2 (v := 5) rfl ?_
  by_cases b1 : p0 < 1
  ·
    refine a_callSi C (m_in_no hid (Or.inl b1)) ms_X12_in ml_RX12_301 rfl rfl (Nat.le_of_ble_eq_true rfl) (Nat.le_of_ble_eq_true rfl) (Nat.le_of_ble_eq_true rfl) dX12_ways_3 (fun r3 σ3 q3 => ?_)
    obtain ⟨rfl, q3⟩ := q3
    rw [q3]
    refine a_if_eq C dX12_ways_6 (tgt := 41) rfl (fun _ => ret) (fun c => absurd rfl c)
  by_cases t1 : 5 < p0
  ·
    refine a_callSi C (m_in_no hid (Or.inr t1)) ms_X12_in ml_RX12_301 rfl rfl (Nat.le_of_ble_eq_true rfl) (Nat.le_of_ble_eq_true rfl) (Nat.le_of_ble_eq_true rfl) dX12_ways_3 (fun r3 σ3 q3 => ?_)
    obtain ⟨rfl, q3⟩ := q3
    rw [q3]
    refine a_if_eq C dX12_ways_6 (tgt := 41) rfl (fun _ => ret) (fun c => absurd rfl c)
  refine a_callSi C (m_in_yes hid b1 (Int32.not_lt.mp t1)) ms_X12_in ml_RX12_301 rfl rfl (Nat.le_of_ble_eq_true rfl) (Nat.le_of_ble_eq_true rfl) (Nat.le_of_ble_eq_true rfl) dX12_ways_3 (fun r3 σ3 q3 => ?_)
  obtain ⟨rfl, q3⟩ := q3
  rw [q3]
  refine a_if_eq C dX12_ways_6 (tgt := 41) rfl (fun c => absurd c (by decide)) (fun _ => ?_)
  refine a_iload_n C dX12_ways_9 (i := 2) rfl rfl ?_
  refine a_iconst C dX12_ways_10 (v := 1) rfl ?_
  refine a_bipush C dX12_ways_11 (v := 7) rfl ?_
  by_cases b2 : p1 < 1
  ·
    refine a_callSi C (m_in_no hid (Or.inl b2)) ms_X12_in ml_RX12_301 rfl rfl (Nat.le_of_ble_eq_true rfl) (Nat.le_of_ble_eq_true rfl) (Nat.le_of_ble_eq_true rfl) dX12_ways_13 (fun r13 σ13 q13 => ?_)
    obtain ⟨rfl, q13⟩ := q13
    rw [q13]
    refine a_if_eq C dX12_ways_16 (tgt := 41) rfl (fun _ => ret) (fun c => absurd rfl c)
  by_cases t2 : 7 < p1
  ·
    refine a_callSi C (m_in_no hid (Or.inr t2)) ms_X12_in ml_RX12_301 rfl rfl (Nat.le_of_ble_eq_true rfl) (Nat.le_of_ble_eq_true rfl) (Nat.le_of_ble_eq_true rfl) dX12_ways_13 (fun r13 σ13 q13 => ?_)
    obtain ⟨rfl, q13⟩ := q13
    rw [q13]
    refine a_if_eq C dX12_ways_16 (tgt := 41) rfl (fun _ => ret) (fun c => absurd rfl c)
  refine a_callSi C (m_in_yes hid b2 (Int32.not_lt.mp t2)) ms_X12_in ml_RX12_301 rfl rfl (Nat.le_of_ble_eq_true rfl) (Nat.le_of_ble_eq_true rfl) (Nat.le_of_ble_eq_true rfl) dX12_ways_13 (fun r13 σ13 q13 => ?_)
  obtain ⟨rfl, q13⟩ := q13
  rw [q13]
  refine a_if_eq C dX12_ways_16 (tgt := 41) rfl (fun c => absurd c (by decide)) (fun _ => ?_)
  refine a_iload_n C dX12_ways_19 (i := 3) rfl rfl ?_
  refine a_iconst C dX12_ways_20 (v := 0) rfl ?_
  refine a_bipush C dX12_ways_21 (v := 7) rfl ?_
  by_cases b3 : p2 < 0
  ·
    refine a_callSi C (m_in_no hid (Or.inl b3)) ms_X12_in ml_RX12_301 rfl rfl (Nat.le_of_ble_eq_true rfl) (Nat.le_of_ble_eq_true rfl) (Nat.le_of_ble_eq_true rfl) dX12_ways_23 (fun r23 σ23 q23 => ?_)
    obtain ⟨rfl, q23⟩ := q23
    rw [q23]
    refine a_if_eq C dX12_ways_26 (tgt := 41) rfl (fun _ => ret) (fun c => absurd rfl c)
  by_cases t3 : 7 < p2
  ·
    refine a_callSi C (m_in_no hid (Or.inr t3)) ms_X12_in ml_RX12_301 rfl rfl (Nat.le_of_ble_eq_true rfl) (Nat.le_of_ble_eq_true rfl) (Nat.le_of_ble_eq_true rfl) dX12_ways_23 (fun r23 σ23 q23 => ?_)
    obtain ⟨rfl, q23⟩ := q23
    rw [q23]
    refine a_if_eq C dX12_ways_26 (tgt := 41) rfl (fun _ => ret) (fun c => absurd rfl c)
  refine a_callSi C (m_in_yes hid b3 (Int32.not_lt.mp t3)) ms_X12_in ml_RX12_301 rfl rfl (Nat.le_of_ble_eq_true rfl) (Nat.le_of_ble_eq_true rfl) (Nat.le_of_ble_eq_true rfl) dX12_ways_23 (fun r23 σ23 q23 => ?_)
  obtain ⟨rfl, q23⟩ := q23
  rw [q23]
  refine a_if_eq C dX12_ways_26 (tgt := 41) rfl (fun c => absurd c (by decide)) (fun _ => ?_)
  refine a_iload C dX12_ways_29 rfl ?_
  refine a_iconst C dX12_ways_31 (v := (-1)) rfl ?_
  refine a_iload_n C dX12_ways_32 (i := 1) rfl rfl ?_
  refine a_iconst C dX12_ways_33 (v := 1) rfl ?_
  refine a_isub C dX12_ways_34 ?_
  by_cases b4 : p3 < -1
  ·
    refine a_callSi C (m_in_no hid (Or.inl b4)) ms_X12_in ml_RX12_301 rfl rfl (Nat.le_of_ble_eq_true rfl) (Nat.le_of_ble_eq_true rfl) (Nat.le_of_ble_eq_true rfl) dX12_ways_35 (fun r35 σ35 q35 => ?_)
    obtain ⟨rfl, q35⟩ := q35
    rw [q35]
    refine a_if_ne C dX12_ways_38 (tgt := 43) rfl (fun c => absurd rfl c) (fun _ => ret)
  by_cases t4 : (p0 - 1) < p3
  ·
    refine a_callSi C (m_in_no hid (Or.inr t4)) ms_X12_in ml_RX12_301 rfl rfl (Nat.le_of_ble_eq_true rfl) (Nat.le_of_ble_eq_true rfl) (Nat.le_of_ble_eq_true rfl) dX12_ways_35 (fun r35 σ35 q35 => ?_)
    obtain ⟨rfl, q35⟩ := q35
    rw [q35]
    refine a_if_ne C dX12_ways_38 (tgt := 43) rfl (fun c => absurd rfl c) (fun _ => ret)
  exact absurd ⟨⟨b1, t1⟩, ⟨b2, t2⟩, ⟨b3, t3⟩, b4, in_lt b1 t1 t4⟩ ho
theorem b_ways {l : Launch} {D : va_G} {ids : List Nat} {ad : Nat → Nat} {ca : Nat → ClassId} {p0 p1 p2 p3 : Int32} (hid : ∀ i, i < 277 → i ∈ ids) : Both l D ids ad ca yX11_ways cX11_ways 5 yX12_ways cX12_ways 10 .int [.int p0, .int p1, .int p2, .int p3] := by
  by_cases R : (¬ p0 < 1 ∧ ¬ 5 < p0) ∧ (¬ p1 < 1 ∧ ¬ 7 < p1) ∧ (¬ p2 < 0 ∧ ¬ 7 < p2) ∧ (¬ p3 < -1 ∧ p3 < p0)
  · obtain ⟨⟨a1, a2⟩, ⟨b1, b2⟩, ⟨c1, c2⟩, d1, d2⟩ := R
    obtain ⟨p, h5, rfl⟩ := i32_nI (n := 5) (a := 5) (by decide) (i32_one a1) a2
    obtain ⟨m, m7, rfl⟩ := i32_nI (n := 7) (a := 7) (by decide) (i32_one b1) b2
    obtain ⟨k, k7, rfl⟩ := i32_nI (n := 7) (a := 7) (by decide) c1 c2
    have h1 : 1 ≤ p := nI_one a1 (by omega)
    have m1 : 1 ≤ m := nI_one b1 (by omega)
    by_cases e : p3 < 0
    · have e3 : p3 = -1 := by
        rw [← Int32.toInt_inj]
        rw [Int32.lt_iff_toInt_lt] at e d1
        have e0 : (0 : Int32).toInt = 0 := by decide
        have e1 : (-1 : Int32).toInt = -1 := by decide
        omega
      subst e3
      refine ⟨resW (rwC p m p 0 0 (p * k)) none, ⟨9, 253, by omega, by omega, p_ways_all hid h1 h5 m1 m7 k7⟩, fun σ hk => ⟨1, 24, by omega, by omega, ?_⟩⟩
      rw [rows_eq h1 h5]
      exact q_ways_all hid h1 h5 m1 m7 k7
    · obtain ⟨n, hn, rfl⟩ := nI_of e
      have hn : n < p := (nI_ltI hn (by omega)).mp d2
      refine ⟨resW (rwC p m p 0 0 (p * k)) (some n), ⟨9, 253, by omega, by omega, p_ways_one hid h1 h5 m1 m7 k7 hn⟩, fun σ hk => ⟨1, 24, by omega, by omega, ?_⟩⟩
      rw [rows_eq h1 h5]
      exact q_ways_one hid h1 h5 m1 m7 k7 hn
  · exact ⟨-1, ⟨0, 0, by omega, by omega, p_ways_out hid R⟩, fun σ hk => ⟨1, 24, by omega, by omega, q_ways_out hid R⟩⟩

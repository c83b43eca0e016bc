/-! rows by toInt: every int that is made is a number of its own -/
theorem i32_bm {n : Int} (h : -2147483648 ≤ n ∧ n ≤ 2147483647) : n.bmod (2 ^ 32) = n := by
  rw [Int.bmod_eq_of_le] <;> omega
theorem i32_add {x y : Int32} (h : -2147483648 ≤ x.toInt + y.toInt ∧ x.toInt + y.toInt ≤ 2147483647) : (x + y).toInt = x.toInt + y.toInt := by rw [Int32.toInt_add]; exact i32_bm h
theorem i32_sub {x y : Int32} (h : -2147483648 ≤ x.toInt - y.toInt ∧ x.toInt - y.toInt ≤ 2147483647) : (x - y).toInt = x.toInt - y.toInt := by rw [Int32.toInt_sub]; exact i32_bm h
theorem i32_mul {x y : Int32} (h : -2147483648 ≤ x.toInt * y.toInt ∧ x.toInt * y.toInt ≤ 2147483647) : (x * y).toInt = x.toInt * y.toInt := by rw [Int32.toInt_mul]; exact i32_bm h
theorem i32_nat {x : Int32} (h : 0 ≤ x.toInt) : ∃ n : Nat, n < 2 ^ 31 ∧ x = nI n ∧ x.toInt = n := by
  obtain ⟨n, hn, e⟩ := nI_of (x := x) (by rw [Int32.lt_iff_toInt_lt]; exact Int.not_lt.mpr h)
  exact ⟨n, hn, e, by rw [e]; exact nI_toInt hn⟩
theorem i32_rem {x y : Int32} (hx : 0 ≤ x.toInt) (hy : 0 < y.toInt) : (x - x / y * y).toInt = x.toInt % y.toInt := by
  obtain ⟨a, ha, e1, e2⟩ := i32_nat hx
  obtain ⟨b, hb, f1, f2⟩ := i32_nat (Int.le_of_lt hy)
  have h0 : 0 < b := by omega
  have hm : a % b < 2 ^ 31 := Nat.lt_of_le_of_lt (Nat.mod_le _ _) ha
  rw [e2, f2, e1, f1, pk_rem ha h0 hb, nI_toInt hm]
  exact Int.natCast_emod a b
theorem i32_ne0 {x : Int32} (h : x.toInt ≠ 0) : ¬ x = 0 := fun e => h (by rw [e]; rfl)
theorem i32_and {x y : Int32} (hy : 0 ≤ y.toInt) : 0 ≤ (x &&& y).toInt ∧ (x &&& y).toInt ≤ y.toInt := by
  obtain ⟨b, hb, f1, f2⟩ := i32_nat hy
  have e : (x &&& y).toBitVec.toNat = x.toBitVec.toNat &&& b := by
    rw [Int32.toBitVec_and, BitVec.toNat_and, f1, pk_tn (by omega)]
  have hle : x.toBitVec.toNat &&& b ≤ b := Nat.and_le_right
  have e2 : x &&& y = nI (x.toBitVec.toNat &&& b) := by
    apply Int32.toBitVec_inj.mp
    apply BitVec.eq_of_toNat_eq
    rw [e, pk_tn (by omega)]
  rw [e2, f2, nI_toInt (by omega)]
  omega
section SAFE
variable {ids : List Nat} {ad : Nat → Nat} {ca : Nat → ClassId} {Γ : GT} {cc : ByteArray} {own : String} {l0 : Launch} {D0 : va_G} {fr lo nL0 : Nat} {pc : Nat} {vs : List (Option Value)} {st : List Value} {σ : HS}
theorem s_iconst (C : CT ids ad ca Γ cc own l0 D0 fr lo nL0) {n : Int} (hd : decode cc pc = .ok (.iconst n, 1)) (c : Int) (hv : (Int32.ofInt n).toInt = c) (k : ∀ z : Int32, z.toInt = c → AW ids ad ca Γ (pc + 1) vs (.int z :: st) σ) : AW ids ad ca Γ pc vs st σ := a_iconst C hd rfl (k _ hv)
theorem s_bipush (C : CT ids ad ca Γ cc own l0 D0 fr lo nL0) {n : Int} (hd : decode cc pc = .ok (.bipush n, 2)) (c : Int) (hv : ((Int8.ofInt n).toInt32).toInt = c) (k : ∀ z : Int32, z.toInt = c → AW ids ad ca Γ (pc + 2) vs (.int z :: st) σ) : AW ids ad ca Γ pc vs st σ := a_bipush C hd rfl (k _ hv)
theorem s_iadd (C : CT ids ad ca Γ cc own l0 D0 fr lo nL0) {x y : Int32} (hd : decode cc pc = .ok (.iadd, 1)) (h : -2147483648 ≤ x.toInt + y.toInt ∧ x.toInt + y.toInt ≤ 2147483647) (k : ∀ z : Int32, z.toInt = x.toInt + y.toInt → AW ids ad ca Γ (pc + 1) vs (.int z :: st) σ) : AW ids ad ca Γ pc vs (.int y :: .int x :: st) σ := a_iadd C hd (k _ (i32_add h))
theorem s_isub (C : CT ids ad ca Γ cc own l0 D0 fr lo nL0) {x y : Int32} (hd : decode cc pc = .ok (.isub, 1)) (h : -2147483648 ≤ x.toInt - y.toInt ∧ x.toInt - y.toInt ≤ 2147483647) (k : ∀ z : Int32, z.toInt = x.toInt - y.toInt → AW ids ad ca Γ (pc + 1) vs (.int z :: st) σ) : AW ids ad ca Γ pc vs (.int y :: .int x :: st) σ := a_isub C hd (k _ (i32_sub h))
theorem s_iand (C : CT ids ad ca Γ cc own l0 D0 fr lo nL0) {x y : Int32} (hd : decode cc pc = .ok (.iand, 1)) (h : 0 ≤ y.toInt) (k : ∀ z : Int32, 0 ≤ z.toInt ∧ z.toInt ≤ y.toInt → AW ids ad ca Γ (pc + 1) vs (.int z :: st) σ) : AW ids ad ca Γ pc vs (.int y :: .int x :: st) σ := a_iand C hd (k _ (i32_and h))
theorem s_iinc (C : CT ids ad ca Γ cc own l0 D0 fr lo nL0) {i : Nat} {n : Int} {x : Int32} (hd : decode cc pc = .ok (.iinc i n, 3)) (hv : vs[i]? = some (some (.int x))) (c : Int) (hc : (Int32.ofInt n).toInt = c) (h : -2147483648 ≤ x.toInt + c ∧ x.toInt + c ≤ 2147483647) (hn : i < nL0) (ho : catOk vs i = true) (k : ∀ z : Int32, z.toInt = x.toInt + c → AW ids ad ca Γ (pc + 3) (vs.set i (some (.int z))) st σ) : AW ids ad ca Γ pc vs st σ := a_iinc C hd hv rfl hn ho rfl (k _ (by rw [i32_add (by rw [hc]; exact h), hc]))
theorem t0_eq {x : Int32} : x = 0 ↔ x.toInt = 0 := by
  have := Int32.toInt_inj (x := x) (y := 0)
  exact this.symm
theorem t0_lt {x : Int32} : x < 0 ↔ x.toInt < 0 := Int32.lt_iff_toInt_lt
theorem t0_le {x : Int32} : x ≤ 0 ↔ x.toInt ≤ 0 := Int32.le_iff_toInt_le
theorem t0_gt {x : Int32} : 0 < x ↔ 0 < x.toInt := Int32.lt_iff_toInt_lt
theorem t0_ge {x : Int32} : 0 ≤ x ↔ 0 ≤ x.toInt := Int32.le_iff_toInt_le
theorem s_if_eq (C : CT ids ad ca Γ cc own l0 D0 fr lo nL0) {x : Int32} {off : Int} {tgt : Nat} (hd : decode cc pc = .ok (.ifCond .eq off, 3)) (ht : (pc : Int) + off = (tgt : Int)) (kt : x.toInt = 0 → AW ids ad ca Γ tgt vs st σ) (kf : x.toInt ≠ 0 → AW ids ad ca Γ (pc + 3) vs st σ) : AW ids ad ca Γ pc vs (.int x :: st) σ := a_if_eq C hd ht (fun h => kt (t0_eq.mp h)) (fun h => kf (fun e => h (t0_eq.mpr e)))
theorem s_if_ne (C : CT ids ad ca Γ cc own l0 D0 fr lo nL0) {x : Int32} {off : Int} {tgt : Nat} (hd : decode cc pc = .ok (.ifCond .ne off, 3)) (ht : (pc : Int) + off = (tgt : Int)) (kt : x.toInt ≠ 0 → AW ids ad ca Γ tgt vs st σ) (kf : x.toInt = 0 → AW ids ad ca Γ (pc + 3) vs st σ) : AW ids ad ca Γ pc vs (.int x :: st) σ := a_if_ne C hd ht (fun h => kt (fun e => h (t0_eq.mpr e))) (fun h => kf (t0_eq.mp h))
theorem s_if_lt (C : CT ids ad ca Γ cc own l0 D0 fr lo nL0) {x : Int32} {off : Int} {tgt : Nat} (hd : decode cc pc = .ok (.ifCond .lt off, 3)) (ht : (pc : Int) + off = (tgt : Int)) (kt : x.toInt < 0 → AW ids ad ca Γ tgt vs st σ) (kf : 0 ≤ x.toInt → AW ids ad ca Γ (pc + 3) vs st σ) : AW ids ad ca Γ pc vs (.int x :: st) σ := a_if_lt C hd ht (fun h => kt (t0_lt.mp h)) (fun h => kf (Int.not_lt.mp (fun e => h (t0_lt.mpr e))))
theorem s_if_ge (C : CT ids ad ca Γ cc own l0 D0 fr lo nL0) {x : Int32} {off : Int} {tgt : Nat} (hd : decode cc pc = .ok (.ifCond .ge off, 3)) (ht : (pc : Int) + off = (tgt : Int)) (kt : 0 ≤ x.toInt → AW ids ad ca Γ tgt vs st σ) (kf : x.toInt < 0 → AW ids ad ca Γ (pc + 3) vs st σ) : AW ids ad ca Γ pc vs (.int x :: st) σ := a_if_ge C hd ht (fun h => kt (t0_ge.mp h)) (fun h => kf (Int.not_le.mp (fun e => h (t0_ge.mpr e))))
theorem s_if_gt (C : CT ids ad ca Γ cc own l0 D0 fr lo nL0) {x : Int32} {off : Int} {tgt : Nat} (hd : decode cc pc = .ok (.ifCond .gt off, 3)) (ht : (pc : Int) + off = (tgt : Int)) (kt : 0 < x.toInt → AW ids ad ca Γ tgt vs st σ) (kf : x.toInt ≤ 0 → AW ids ad ca Γ (pc + 3) vs st σ) : AW ids ad ca Γ pc vs (.int x :: st) σ := a_if_gt C hd ht (fun h => kt (t0_gt.mp h)) (fun h => kf (Int.not_lt.mp (fun e => h (t0_gt.mpr e))))
theorem s_if_le (C : CT ids ad ca Γ cc own l0 D0 fr lo nL0) {x : Int32} {off : Int} {tgt : Nat} (hd : decode cc pc = .ok (.ifCond .le off, 3)) (ht : (pc : Int) + off = (tgt : Int)) (kt : x.toInt ≤ 0 → AW ids ad ca Γ tgt vs st σ) (kf : 0 < x.toInt → AW ids ad ca Γ (pc + 3) vs st σ) : AW ids ad ca Γ pc vs (.int x :: st) σ := a_if_le C hd ht (fun h => kt (t0_le.mp h)) (fun h => kf (Int.not_le.mp (fun e => h (t0_le.mpr e))))
theorem s_ic_eq (C : CT ids ad ca Γ cc own l0 D0 fr lo nL0) {x y : Int32} {off : Int} {tgt : Nat} (hd : decode cc pc = .ok (.if_icmp .eq off, 3)) (ht : (pc : Int) + off = (tgt : Int)) (kt : x.toInt = y.toInt → AW ids ad ca Γ tgt vs st σ) (kf : x.toInt ≠ y.toInt → AW ids ad ca Γ (pc + 3) vs st σ) : AW ids ad ca Γ pc vs (.int y :: .int x :: st) σ := a_ic_eq C hd ht (fun h => kt (congrArg Int32.toInt h)) (fun h => kf (fun e => h (Int32.toInt_inj.mp e)))
theorem s_ic_ne (C : CT ids ad ca Γ cc own l0 D0 fr lo nL0) {x y : Int32} {off : Int} {tgt : Nat} (hd : decode cc pc = .ok (.if_icmp .ne off, 3)) (ht : (pc : Int) + off = (tgt : Int)) (kt : x.toInt ≠ y.toInt → AW ids ad ca Γ tgt vs st σ) (kf : x.toInt = y.toInt → AW ids ad ca Γ (pc + 3) vs st σ) : AW ids ad ca Γ pc vs (.int y :: .int x :: st) σ := a_ic_ne C hd ht (fun h => kt (fun e => h (Int32.toInt_inj.mp e))) (fun h => kf (congrArg Int32.toInt h))
theorem s_ic_lt (C : CT ids ad ca Γ cc own l0 D0 fr lo nL0) {x y : Int32} {off : Int} {tgt : Nat} (hd : decode cc pc = .ok (.if_icmp .lt off, 3)) (ht : (pc : Int) + off = (tgt : Int)) (kt : x.toInt < y.toInt → AW ids ad ca Γ tgt vs st σ) (kf : y.toInt ≤ x.toInt → AW ids ad ca Γ (pc + 3) vs st σ) : AW ids ad ca Γ pc vs (.int y :: .int x :: st) σ := a_ic_lt C hd ht (fun h => kt (Int32.lt_iff_toInt_lt.mp h)) (fun h => kf (Int.not_lt.mp (fun e => h (Int32.lt_iff_toInt_lt.mpr e))))
theorem s_ic_ge (C : CT ids ad ca Γ cc own l0 D0 fr lo nL0) {x y : Int32} {off : Int} {tgt : Nat} (hd : decode cc pc = .ok (.if_icmp .ge off, 3)) (ht : (pc : Int) + off = (tgt : Int)) (kt : y.toInt ≤ x.toInt → AW ids ad ca Γ tgt vs st σ) (kf : x.toInt < y.toInt → AW ids ad ca Γ (pc + 3) vs st σ) : AW ids ad ca Γ pc vs (.int y :: .int x :: st) σ := a_ic_ge C hd ht (fun h => kt (Int32.le_iff_toInt_le.mp h)) (fun h => kf (Int.not_le.mp (fun e => h (Int32.le_iff_toInt_le.mpr e))))
theorem s_ic_gt (C : CT ids ad ca Γ cc own l0 D0 fr lo nL0) {x y : Int32} {off : Int} {tgt : Nat} (hd : decode cc pc = .ok (.if_icmp .gt off, 3)) (ht : (pc : Int) + off = (tgt : Int)) (kt : y.toInt < x.toInt → AW ids ad ca Γ tgt vs st σ) (kf : x.toInt ≤ y.toInt → AW ids ad ca Γ (pc + 3) vs st σ) : AW ids ad ca Γ pc vs (.int y :: .int x :: st) σ := a_ic_gt C hd ht (fun h => kt (Int32.lt_iff_toInt_lt.mp h)) (fun h => kf (Int.not_lt.mp (fun e => h (Int32.lt_iff_toInt_lt.mpr e))))
theorem s_ic_le (C : CT ids ad ca Γ cc own l0 D0 fr lo nL0) {x y : Int32} {off : Int} {tgt : Nat} (hd : decode cc pc = .ok (.if_icmp .le off, 3)) (ht : (pc : Int) + off = (tgt : Int)) (kt : x.toInt ≤ y.toInt → AW ids ad ca Γ tgt vs st σ) (kf : y.toInt < x.toInt → AW ids ad ca Γ (pc + 3) vs st σ) : AW ids ad ca Γ pc vs (.int y :: .int x :: st) σ := a_ic_le C hd ht (fun h => kt (Int32.le_iff_toInt_le.mp h)) (fun h => kf (Int.not_le.mp (fun e => h (Int32.le_iff_toInt_le.mpr e))))
theorem s_ix {j : Int32} (h0 : 0 ≤ j.toInt) : ∃ n : Nat, ¬ j < 0 ∧ j.toNatClampNeg = n ∧ (n : Int) = j.toInt := by
  obtain ⟨n, hn, e, e2⟩ := i32_nat h0
  exact ⟨n, fun h => absurd (t0_lt.mp h) (by omega), by rw [e]; exact nI_clamp hn, e2.symm⟩
theorem i32_msb (x : Int32) : x.toBitVec.msb = decide (x.toInt < 0) := BitVec.msb_eq_toInt
theorem i32_xor {x y : Int32} (hy : 0 ≤ y.toInt) : (x ^^^ y).toInt < 0 ↔ x.toInt < 0 := by
  have h1 := i32_msb (x ^^^ y)
  have h2 := i32_msb x
  have h3 := i32_msb y
  rw [Int32.toBitVec_xor, BitVec.msb_xor, h2, h3] at h1
  have h4 : decide (y.toInt < 0) = false := decide_eq_false (by omega)
  rw [h4, Bool.xor_false] at h1
  exact ⟨fun h => of_decide_eq_true (by rw [h1]; exact decide_eq_true h), fun h => of_decide_eq_true (by rw [← h1]; exact decide_eq_true h)⟩
theorem s_aaldH (C : CT ids ad ca Γ cc own l0 D0 fr lo nL0) {i : Nat} {j : Int32} (hk : kd i = 26) (hi : i ∈ ids) (hN : al i = 5) (h0 : 0 ≤ j.toInt) (h1 : j.toInt < 5) (hd : decode cc pc = .ok (.aaload, 1)) (k : ∀ jn : Nat, (jn : Int) = j.toInt → jn < 5 → AW ids ad ca Γ (pc + 1) vs (.ref (ad (i + 1 + jn)) :: st) σ) : AW ids ad ca Γ pc vs (.int j :: .ref (ad i) :: st) σ := by
  obtain ⟨q, a, b, c⟩ := s_ix h0
  have hq : q < 5 := by omega
  have k := k q c hq
  obtain ⟨p, l, e, R, s, m, args, below, meth, cd, kc, ks, Q, D, A, H0, nL⟩ := Γ
  obtain ⟨⟨hx, hb, hml, hown, hts⟩, hK, hE, hD, hA0, rfl, rfl, hfr, hlo, hkc, hks, rfl⟩ := C
  intro H locs ls hP hS hl
  obtain ⟨t, ht⟩ := tys_get (ca := ca) hi (by omega)
  obtain ⟨ip, hip, hg⟩ := mw_get (ad := ad) (ca := ca) hi
  have hg := hg σ
  have hty : aty (kd i) = .array .int := by rw [hk]; rfl
  have hce : ceK ad ca (kd i) i (σ.1 i) (σ.2.1 i) σ.2.2 = .inl (ca i, al i, .inr (.inr (.inr (.inr (rfK ad (kd i) i))))) := by rw [hk]; rfl
  rw [hty] at ht
  rw [hce, hN] at hg
  subst b
  have hin : vp_in j 5 := fun h => h.elim a (fun h => absurd h (by omega))
  have hlt : j.toNatClampNeg < 5 := hq
  have hr : rfK ad (kd i) i j.toNatClampNeg = some (ad (i + 1 + j.toNatClampNeg)) := by rw [hk]; exact if_pos hlt
  refine W.aald (v := va_rf (rfK ad (kd i) i j.toNatClampNeg)) (ty := .array .int) hx hb (hP ip _ hg) ((hK.2 t _ ht).1 5 (fun j => va_rf (rfK ad (kd i) i j))) rfl (fun q => by cases q) (by show ¬ (j < 0 ∨ (arrV _ _ _).slots.size ≤ _); rw [arrV_size]; exact hin) (by show (arrV _ _ _).slots[_]? = _; rw [arrV_read _ _ hlt]) rfl rfl hd ?_
  rw [hr]
  exact k H locs ls hP hS hl
/-- only the cells in L may have changed, ints and longs; text and spare haven't -/
def ony (L : List Nat) (σ σ1 : HS) : Prop := (∀ k, k ∉ L → σ1.1 k = σ.1 k ∧ σ1.2.1 k = σ.2.1 k) ∧ σ1.2.2 = σ.2.2
theorem ony.rf {L : List Nat} {σ : HS} : ony L σ σ := ⟨fun _ _ => ⟨rfl, rfl⟩, rfl⟩
theorem ony.tr {L : List Nat} {σ σ1 σ2 : HS} (h : ony L σ σ1) (h2 : ony L σ1 σ2) : ony L σ σ2 := ⟨fun k hk => ⟨(h2.1 k hk).1.trans (h.1 k hk).1, (h2.1 k hk).2.trans (h.1 k hk).2⟩, h2.2.trans h.2⟩
theorem ony.mono {L L1 : List Nat} {σ σ1 : HS} (h : ony L σ σ1) (hL : ∀ q, q ∈ L → q ∈ L1) : ony L1 σ σ1 := ⟨fun q hq => h.1 q (fun e => hq (hL q e)), h.2⟩
theorem ony.I {L : List Nat} {σ σ1 : HS} {i k : Nat} {v : Int32} (h : ony L σ σ1) (hi : i ∈ L) : ony L σ (hI σ1 i k v) := ⟨fun q hq => ⟨(va_up_ne _ _ (show q ≠ i from fun e => hq (by rw [e]; exact hi))).trans (h.1 q hq).1, (h.1 q hq).2⟩, h.2⟩
theorem ony.A {L : List Nat} {σ σ1 : HS} {i : Nat} {f : Nat → Int32} (h : ony L σ σ1) (hi : i ∈ L) : ony L σ (hA σ1 i f) := ⟨fun q hq => ⟨(va_up_ne _ _ (show q ≠ i from fun e => hq (by rw [e]; exact hi))).trans (h.1 q hq).1, (h.1 q hq).2⟩, h.2⟩
theorem ony.L {L : List Nat} {σ σ1 : HS} {i k : Nat} {v : Int64} (h : ony L σ σ1) (hi : i ∈ L) : ony L σ (hL σ1 i k v) := ⟨fun q hq => ⟨(h.1 q hq).1, (va_up_ne _ _ (show q ≠ i from fun e => hq (by rw [e]; exact hi))).trans (h.1 q hq).2⟩, h.2⟩
theorem only.A {L : List Nat} {σ σ1 : HS} {i : Nat} {f : Nat → Int32} (h : only L σ σ1) (hi : i ∈ L) : only L σ (hA σ1 i f) := ⟨fun q hq => (va_up_ne _ _ (show q ≠ i from fun e => hq (by rw [e]; exact hi))).trans (h.1 q hq), h.2⟩
theorem i32_l2i {x : Int64} (h : -2147483648 ≤ x.toInt ∧ x.toInt ≤ 2147483647) : x.toInt32.toInt = x.toInt := by
  rw [Int64.toInt_toInt32]
  exact i32_bm h
end SAFE
/-- a method of a class of which the machine runs some by itself, but not this one -/
theorem met_ofWF {l : Launch} {y : MethodName} {ws ws1 : List Cond} {rm : Room} {Pc : Array Value → State → Prop} {Qc : Array Value → State → Outcome → State → Prop} {mc ms : Nat} {free : Addr → Prop} {cc : ByteArray} {maxL : Nat} {ret : Option FieldType} (hy : plainFor y = true) (hw : ws = Cond.code y cc maxL ret :: ws1)
    (body : ∀ p e s m args below meth c s₁, BodyLoose p l y (headSpec ws rm) cc maxL ret e s m args below meth c s₁ → c.maxLocals = maxL → Pc args s → W p l e (headSpec ws rm).room s m args below meth c s.heap [] 0 0 (MQ below Qc args s mc ms free) (entryFrame m args maxL)) : Met l y ws rm Pc Qc mc ms free := by
  refine MetFree.of_bodySF (code := cc) (maxLocals := maxL) (ret := ret) hy ?_ ?_
  · intro args s m h hn
    obtain ⟨meth, c, h1, h2, h3, h4, h5, h6, -, -⟩ := Cond.code_spec hn (atoms_spec (ws := ws) h _ (by rw [hw]; exact List.mem_cons_self))
    exact ⟨meth, c, h1, h2, h3, h4, h5, h6⟩
  · intro p e s m args below meth c s₁ B hml hP _
    obtain ⟨t, a1, o, b1, b2, b3⟩ := body p e s m args below meth c s₁ B hml hP s₁ (by rw [B.state]; rfl) (Stand.of_body B)
    exact ⟨t, o, a1, b1, b2, ⟨b3.1, b3.2⟩⟩
theorem Ki.ofF {l : Launch} {D : va_G} {ids : List Nat} {ad : Nat → Nat} {ca : Nat → ClassId} {y : MethodName} {cc : ByteArray} {nL fr lo : Nat} {ty : FieldType} {av : List Value} {σ : HS} {post : Int32 → HS → Prop} (hy : plainFor y = true) (hL : (lg_sl av).length ≤ nL) (z : Nat)
    (body : ∀ Γ : GT, CT ids ad ca Γ cc y.cls l D fr lo nL → RI ids ad ca Γ cc ty post → AW ids ad ca Γ 0 (entL av ++ List.replicate z none) [] σ) : Ki l D ids ad ca y cc nL ty fr lo av σ post := by
  intro sz
  refine met_ofWF (cc := cc) (maxL := nL) (ret := some ty) hy rfl ?_
  intro p e s m args below meth c s₁ B hml hv
  obtain ⟨rfl, hsz, hP, hK, hD0, hE⟩ := hv
  have hts := atoms_spec (ws := (.code y cc nL (some ty) :: gw_tbl)) B.pre
  subst hsz
  have hD := hD0.self (sz := s.heap.size)
  rw [lg_entry_eq]
  refine body (p, l, e, { frames := fr, cells := 0, slots := 0, locals := lo }, s, m, av.toArray, below, meth, c, 0, 0, _, D, va_A (mw ids ad ca σ) s.heap.size, s.heap, nL) ⟨⟨B.exec, B.bytes, hml, findClass_of_methodNamed B.named, fun w h => hts w (List.mem_cons_of_mem _ h)⟩, hK, hE, fun σ' => mw_D hD σ', fun q h => Or.inr h, rfl, rfl, Nat.le_refl _, Nat.le_refl _, Nat.le_refl _, Nat.le_refl _, rfl⟩ ?_ s.heap [] _ hP va_S.rf (LV.entry av hL z)
  intro H locs ls pc σ' v hP' hS hp hd hn
  exact W.zret B.exec B.bytes B.returns hn (fun t ht hW => ⟨⟨v, σ', rfl, hp, by rw [ht]; exact hP', va_K.moved hW.alike hK, mw_D hD σ'⟩, hS.F ht⟩) hS.2.2 hd B.notSynchronized
theorem a_callSNi {ids : List Nat} {ad : Nat → Nat} {ca : Nat → ClassId} {Γ : GT} {cc : ByteArray} {own : String} {l0 : Launch} {D0 : va_G} {fr lo nL0 : Nat} {pc : Nat} {vs : List (Option Value)} {st : List Value} {σ : HS} (C : CT ids ad ca Γ cc own l0 D0 fr lo nL0) {y : MethodName} {cc' : ByteArray} {nL' fr' lo' n ix : Nat} {ty : FieldType} {As st0 : List Value} {post : Int32 → HS → Prop} {host : String} (hM : Ki l0 D0 ids ad ca y cc' nL' ty fr' lo' As σ post) (hw : MS y cc' nL' (some ty) n) (hnl : (own, ix, y, host) ∈ nestL) (hst : st0 = As.reverse ++ st) (hn : As.length = n) (hf1 : fr' + 1 ≤ fr) (hl1 : 8 + (nL' + 11) + lo' ≤ lo) (hcat : (st.map fun v => v.category).sum ≤ 8) (hd : decode cc pc = .ok (.invokestatic ix, 3)) (k : ∀ (r : Int32) (σ' : HS), post r σ' → AW ids ad ca Γ (pc + 3) vs (.int r :: st) σ') : AW ids ad ca Γ pc vs st0 σ := by
  obtain ⟨p, l, e, R, s, m, args, below, meth, c, kc, ks, Q, D, A, H0, nL⟩ := Γ
  obtain ⟨⟨hx, hb, hml, hown, hts⟩, hK, hE, hD, hA0, rfl, rfl, hfr, hlo, hkc, hks, rfl⟩ := C
  intro H locs ls hP hS hl
  obtain ⟨w1, w3, w4, w5, w6, w7⟩ := hw
  subst hst
  have hFc := mw_freeA (hD σ) hS hA0
  refine va_calli (va_runSN (As := As) (rest := st) ⟨hx, hb, hml, hown, hts⟩ (hM H.size) ⟨va_cnB n hts (lw_goodIn (fun w h => (List.mem_cons.mp h).elim (fun e => e ▸ w4) id)) rfl rfl rfl (hE _ hnl) (hts _ w3) ⟨w5, w6, w7⟩ ⟨Nat.le_trans hf1 hfr, Nat.le_trans hl1 hlo⟩, hts _ w1, trivial⟩ ⟨KPre.blind, fun U hU hW => ⟨rfl, by rw [hU], by rw [hU]; exact hP, va_K.moved hW.alike hK, (hD σ).weaken (fun _ _ _ _ => trivial), hE.warm hW⟩⟩ rfl hn hl.1 rfl (lv_room hcat) hd ⟨hkc, hks⟩) hS (fun q _ h => hFc q h) hFc (fun r u t H1 locs1 ht hvm hw hB hz1 hk1 hS1 => ?_)
  have hP1 := hB.1
  rw [ht] at hP1
  exact k r u hw H1 locs1 ls hP1 hS1 hl


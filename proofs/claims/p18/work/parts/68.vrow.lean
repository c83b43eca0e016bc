/-! methods as functions of the state (none: the machine would throw, or the walk isn't followed there): rows that follow the function -/
def Bd {α β : Type} (x : α) (f : α → Option β) : Option β := f x
def Cl {α β : Type} (x : Option (α × HS)) (f : α → HS → Option β) : Option β := match x with
  | none => none
  | some q => f q.1 q.2
def Cv {β : Type} (x : Option HS) (f : HS → Option β) : Option β := match x with
  | none => none
  | some q => f q
def rowOK (e : Nat) : Prop := kd e = 20 ∧ e < 277
def airOK (a : Nat) : Prop := (kd a = 0 ∧ a < 277) ∧ (rowOK (a + 1) ∧ al (a + 1) = 7) ∧ (rowOK (a + 2) ∧ al (a + 2) = 7) ∧ (rowOK (a + 3) ∧ al (a + 3) = 7)
def txtOK (t : Nat) : Prop := (kd t = 9 ∧ t < 277) ∧ (rowOK (t + 1) ∧ al (t + 1) = 7) ∧ (rowOK (t + 2) ∧ al (t + 2) = 7) ∧ (rowOK (t + 3) ∧ al (t + 3) = 7) ∧ (rowOK (t + 10) ∧ al (t + 10) = 5) ∧ (rowOK (t + 11) ∧ al (t + 11) = 408) ∧ (rowOK (t + 12) ∧ al (t + 12) = 4) ∧ (kd (t + 4) = 26 ∧ t + 4 < 277 ∧ al (t + 4) = 5) ∧ (∀ n, n < 5 → rowOK (t + 5 + n) ∧ al (t + 5 + n) = 8)
theorem airOK_of : ∀ j, j < 45 → airOK (56 + 4 * j) := fun j hj => by
  have h := kdA j hj
  exact ⟨h.1, ⟨⟨h.2.1.1, h.2.1.2.2⟩, h.2.1.2.1⟩, ⟨⟨h.2.2.1.1, h.2.2.1.2.2⟩, h.2.2.1.2.1⟩, ⟨⟨h.2.2.2.1, h.2.2.2.2.2⟩, h.2.2.2.2.1⟩⟩
theorem airOK_ring {n : Nat} (h : n < 40) : airOK (76 + 4 * n) := by
  have := airOK_of (n + 5) (by omega)
  rw [show 56 + 4 * (n + 5) = 76 + 4 * n by omega] at this
  exact this
theorem airOK_slot {n : Nat} (h : n < 3) : airOK (64 + 4 * n) := by
  have := airOK_of (n + 2) (by omega)
  rw [show 56 + 4 * (n + 2) = 64 + 4 * n by omega] at this
  exact this
theorem rows_30 : ∀ n, n < 5 → (kd (30 + 5 + n) = 20 ∧ 30 + 5 + n < 277) ∧ al (30 + 5 + n) = 8 := by decide +kernel
theorem rows_43 : ∀ n, n < 5 → (kd (43 + 5 + n) = 20 ∧ 43 + 5 + n < 277) ∧ al (43 + 5 + n) = 8 := by decide +kernel
theorem txtOK_of {t : Nat} (h : t = 30 ∨ t = 43) : txtOK t := by
  rcases h with rfl | rfl
  · exact ⟨⟨rfl, by decide⟩, ⟨⟨rfl, by decide⟩, rfl⟩, ⟨⟨rfl, by decide⟩, rfl⟩, ⟨⟨rfl, by decide⟩, rfl⟩, ⟨⟨rfl, by decide⟩, rfl⟩, ⟨⟨rfl, by decide⟩, rfl⟩, ⟨⟨rfl, by decide⟩, rfl⟩, ⟨rfl, by decide, rfl⟩, rows_30⟩
  · exact ⟨⟨rfl, by decide⟩, ⟨⟨rfl, by decide⟩, rfl⟩, ⟨⟨rfl, by decide⟩, rfl⟩, ⟨⟨rfl, by decide⟩, rfl⟩, ⟨⟨rfl, by decide⟩, rfl⟩, ⟨⟨rfl, by decide⟩, rfl⟩, ⟨⟨rfl, by decide⟩, rfl⟩, ⟨rfl, by decide, rfl⟩, rows_43⟩
theorem Cl_some {α β : Type} {x : Option (α × HS)} {f : α → HS → Option β} {R : β} (h : Cl x f = some R) : ∃ r s, x = some (r, s) ∧ f r s = some R := by
  cases x with
  | none => exact nomatch h
  | some q => exact ⟨q.1, q.2, rfl, h⟩
theorem Cv_some {β : Type} {x : Option HS} {f : HS → Option β} {R : β} (h : Cv x f = some R) : ∃ s, x = some s ∧ f s = some R := by
  cases x with
  | none => exact nomatch h
  | some q => exact ⟨q, rfl, h⟩
theorem ite_k {β : Type} {P : Prop} {dP : Decidable P} {A B : Option β} {R : β} {G : Prop} (h : (if P then A else B) = some R) (k1 : P → A = some R → G) (k2 : ¬ P → B = some R → G) : G := by
  by_cases c : P
  · rw [if_pos c] at h; exact k1 c h
  · rw [if_neg c] at h; exact k2 c h
theorem ite_n {β : Type} {P : Prop} {dP : Decidable P} {A : Option β} {R : β} {G : Prop} (h : (if P then A else none) = some R) (k1 : P → A = some R → G) : G := by
  by_cases c : P
  · rw [if_pos c] at h; exact k1 c h
  · rw [if_neg c] at h; exact nomatch h
theorem nn {β : Type} {R : β} {G : Prop} (h : (none : Option β) = some R) : G := nomatch h
theorem ret_eq {α : Type} {v r0 : α} {σ s0 : HS} (h : some (v, σ) = some (r0, s0)) : v = r0 ∧ σ = s0 := by cases h; exact ⟨rfl, rfl⟩
theorem retv_eq {σ s0 : HS} (h : some σ = some s0) : σ = s0 := by cases h; rfl
theorem i32_nn {x : Int32} (h : 0 ≤ x.toInt) : ¬ x < 0 := fun e => absurd (t0_lt.mp e) (by omega)
theorem i32_cl {x : Int32} : x.toNatClampNeg = x.toInt.toNat := rfl
theorem Kv.ofF {l : Launch} {D : va_G} {ids : List Nat} {ad : Nat → Nat} {ca : Nat → ClassId} {y : MethodName} {cc : ByteArray} {nL fr lo : Nat} {av : List Value} {σ : HS} {post : HS → Prop} (hy : plainFor y = true) (hL : (lg_sl av).length ≤ nL) (z : Nat)
    (body : ∀ Γ : GT, CT ids ad ca Γ cc y.cls l D fr lo nL → RV ids ad ca Γ cc post → AW ids ad ca Γ 0 (entL av ++ List.replicate z none) [] σ) : Kv l D ids ad ca y cc nL fr lo av σ post := by
  intro sz
  refine met_ofWF (cc := cc) (maxL := nL) (ret := none) hy rfl ?_
  intro p e s m args below meth c s₁ B hml hv
  obtain ⟨rfl, hsz, hP, hK, hD0, hE⟩ := hv
  have hts := atoms_spec (ws := (.code y cc nL none :: gw_tbl)) B.pre
  subst hsz
  have hD := hD0.self (sz := s.heap.size)
  rw [lg_entry_eq]
  refine body (p, l, e, { frames := fr, cells := 0, slots := 0, locals := lo }, s, m, av.toArray, below, meth, c, 0, 0, _, D, va_A (mw ids ad ca σ) s.heap.size, s.heap, nL) ⟨⟨B.exec, B.bytes, hml, findClass_of_methodNamed B.named, fun w h => hts w (List.mem_cons_of_mem _ h)⟩, hK, hE, fun σ' => mw_D hD σ', fun q h => Or.inr h, rfl, rfl, Nat.le_refl _, Nat.le_refl _, Nat.le_refl _, Nat.le_refl _, rfl⟩ ?_ s.heap [] _ hP va_S.rf (LV.entry av hL z)
  intro H locs ls pc σ' hP' hS hp hd
  exact W.vret B.exec B.bytes B.returns (fun t ht hW => ⟨⟨σ', rfl, hp, by rw [ht]; exact hP', va_K.moved hW.alike hK, mw_D hD σ'⟩, hS.F ht⟩) hS.2.2 hd B.notSynchronized
section VROW
variable {ids : List Nat} {ad : Nat → Nat} {ca : Nat → ClassId} {Γ : GT} {cc : ByteArray} {own : String} {l0 : Launch} {D0 : va_G} {fr lo nL0 : Nat} {pc : Nat} {vs : List (Option Value)} {st : List Value} {σ : HS} {β : Type} {R : β} {K : (Nat → Nat) × (Nat → Nat)}
theorem p_if_eq (C : CT ids ad ca Γ cc own l0 D0 fr lo nL0) {x : Int32} {off : Int} {tgt : Nat} {X : Int} {A B : Option β} (hx : x.toInt = X) (hd : decode cc pc = .ok (.ifCond .eq off, 3)) (ht : (pc : Int) + off = (tgt : Int)) (h : (if X = 0 then A else B) = some R) (kt : A = some R → AW ids ad ca Γ tgt vs st σ) (kf : B = some R → AW ids ad ca Γ (pc + 3) vs st σ) : AW ids ad ca Γ pc vs (.int x :: st) σ := by
  subst hx
  exact s_if_eq C hd ht (fun c => kt (by rw [if_pos c] at h; exact h)) (fun c => kf (by rw [if_neg c] at h; exact h))
theorem p_if_ne (C : CT ids ad ca Γ cc own l0 D0 fr lo nL0) {x : Int32} {off : Int} {tgt : Nat} {X : Int} {A B : Option β} (hx : x.toInt = X) (hd : decode cc pc = .ok (.ifCond .ne off, 3)) (ht : (pc : Int) + off = (tgt : Int)) (h : (if X = 0 then A else B) = some R) (kt : B = some R → AW ids ad ca Γ tgt vs st σ) (kf : A = some R → AW ids ad ca Γ (pc + 3) vs st σ) : AW ids ad ca Γ pc vs (.int x :: st) σ := by
  subst hx
  exact s_if_ne C hd ht (fun c => kt (by rw [if_neg c] at h; exact h)) (fun c => kf (by rw [if_pos c] at h; exact h))
theorem p_if_lt (C : CT ids ad ca Γ cc own l0 D0 fr lo nL0) {x : Int32} {off : Int} {tgt : Nat} {X : Int} {A B : Option β} (hx : x.toInt = X) (hd : decode cc pc = .ok (.ifCond .lt off, 3)) (ht : (pc : Int) + off = (tgt : Int)) (h : (if X < 0 then A else B) = some R) (kt : A = some R → AW ids ad ca Γ tgt vs st σ) (kf : B = some R → AW ids ad ca Γ (pc + 3) vs st σ) : AW ids ad ca Γ pc vs (.int x :: st) σ := by
  subst hx
  exact s_if_lt C hd ht (fun c => kt (by rw [if_pos c] at h; exact h)) (fun c => kf (by rw [if_neg (by omega)] at h; exact h))
theorem p_if_ge (C : CT ids ad ca Γ cc own l0 D0 fr lo nL0) {x : Int32} {off : Int} {tgt : Nat} {X : Int} {A B : Option β} (hx : x.toInt = X) (hd : decode cc pc = .ok (.ifCond .ge off, 3)) (ht : (pc : Int) + off = (tgt : Int)) (h : (if X < 0 then A else B) = some R) (kt : B = some R → AW ids ad ca Γ tgt vs st σ) (kf : A = some R → AW ids ad ca Γ (pc + 3) vs st σ) : AW ids ad ca Γ pc vs (.int x :: st) σ := by
  subst hx
  exact s_if_ge C hd ht (fun c => kt (by rw [if_neg (by omega)] at h; exact h)) (fun c => kf (by rw [if_pos c] at h; exact h))
theorem p_if_gt (C : CT ids ad ca Γ cc own l0 D0 fr lo nL0) {x : Int32} {off : Int} {tgt : Nat} {X : Int} {A B : Option β} (hx : x.toInt = X) (hd : decode cc pc = .ok (.ifCond .gt off, 3)) (ht : (pc : Int) + off = (tgt : Int)) (h : (if 0 < X then A else B) = some R) (kt : A = some R → AW ids ad ca Γ tgt vs st σ) (kf : B = some R → AW ids ad ca Γ (pc + 3) vs st σ) : AW ids ad ca Γ pc vs (.int x :: st) σ := by
  subst hx
  exact s_if_gt C hd ht (fun c => kt (by rw [if_pos c] at h; exact h)) (fun c => kf (by rw [if_neg (by omega)] at h; exact h))
theorem p_if_le (C : CT ids ad ca Γ cc own l0 D0 fr lo nL0) {x : Int32} {off : Int} {tgt : Nat} {X : Int} {A B : Option β} (hx : x.toInt = X) (hd : decode cc pc = .ok (.ifCond .le off, 3)) (ht : (pc : Int) + off = (tgt : Int)) (h : (if 0 < X then A else B) = some R) (kt : B = some R → AW ids ad ca Γ tgt vs st σ) (kf : A = some R → AW ids ad ca Γ (pc + 3) vs st σ) : AW ids ad ca Γ pc vs (.int x :: st) σ := by
  subst hx
  exact s_if_le C hd ht (fun c => kt (by rw [if_neg (by omega)] at h; exact h)) (fun c => kf (by rw [if_pos c] at h; exact h))
theorem p_ic_eq (C : CT ids ad ca Γ cc own l0 D0 fr lo nL0) {x y : Int32} {off : Int} {tgt : Nat} {X Y : Int} {A B : Option β} (hx : x.toInt = X) (hy : y.toInt = Y) (hd : decode cc pc = .ok (.if_icmp .eq off, 3)) (ht : (pc : Int) + off = (tgt : Int)) (h : (if X = Y then A else B) = some R) (kt : A = some R → AW ids ad ca Γ tgt vs st σ) (kf : B = some R → AW ids ad ca Γ (pc + 3) vs st σ) : AW ids ad ca Γ pc vs (.int y :: .int x :: st) σ := by
  subst hx hy
  exact s_ic_eq C hd ht (fun c => kt (by rw [if_pos c] at h; exact h)) (fun c => kf (by rw [if_neg c] at h; exact h))
theorem p_ic_ne (C : CT ids ad ca Γ cc own l0 D0 fr lo nL0) {x y : Int32} {off : Int} {tgt : Nat} {X Y : Int} {A B : Option β} (hx : x.toInt = X) (hy : y.toInt = Y) (hd : decode cc pc = .ok (.if_icmp .ne off, 3)) (ht : (pc : Int) + off = (tgt : Int)) (h : (if X = Y then A else B) = some R) (kt : B = some R → AW ids ad ca Γ tgt vs st σ) (kf : A = some R → AW ids ad ca Γ (pc + 3) vs st σ) : AW ids ad ca Γ pc vs (.int y :: .int x :: st) σ := by
  subst hx hy
  exact s_ic_ne C hd ht (fun c => kt (by rw [if_neg c] at h; exact h)) (fun c => kf (by rw [if_pos c] at h; exact h))
theorem p_ic_lt (C : CT ids ad ca Γ cc own l0 D0 fr lo nL0) {x y : Int32} {off : Int} {tgt : Nat} {X Y : Int} {A B : Option β} (hx : x.toInt = X) (hy : y.toInt = Y) (hd : decode cc pc = .ok (.if_icmp .lt off, 3)) (ht : (pc : Int) + off = (tgt : Int)) (h : (if X < Y then A else B) = some R) (kt : A = some R → AW ids ad ca Γ tgt vs st σ) (kf : B = some R → AW ids ad ca Γ (pc + 3) vs st σ) : AW ids ad ca Γ pc vs (.int y :: .int x :: st) σ := by
  subst hx hy
  exact s_ic_lt C hd ht (fun c => kt (by rw [if_pos c] at h; exact h)) (fun c => kf (by rw [if_neg (by omega)] at h; exact h))
theorem p_ic_ge (C : CT ids ad ca Γ cc own l0 D0 fr lo nL0) {x y : Int32} {off : Int} {tgt : Nat} {X Y : Int} {A B : Option β} (hx : x.toInt = X) (hy : y.toInt = Y) (hd : decode cc pc = .ok (.if_icmp .ge off, 3)) (ht : (pc : Int) + off = (tgt : Int)) (h : (if X < Y then A else B) = some R) (kt : B = some R → AW ids ad ca Γ tgt vs st σ) (kf : A = some R → AW ids ad ca Γ (pc + 3) vs st σ) : AW ids ad ca Γ pc vs (.int y :: .int x :: st) σ := by
  subst hx hy
  exact s_ic_ge C hd ht (fun c => kt (by rw [if_neg (by omega)] at h; exact h)) (fun c => kf (by rw [if_pos c] at h; exact h))
theorem p_ic_gt (C : CT ids ad ca Γ cc own l0 D0 fr lo nL0) {x y : Int32} {off : Int} {tgt : Nat} {X Y : Int} {A B : Option β} (hx : x.toInt = X) (hy : y.toInt = Y) (hd : decode cc pc = .ok (.if_icmp .gt off, 3)) (ht : (pc : Int) + off = (tgt : Int)) (h : (if Y < X then A else B) = some R) (kt : A = some R → AW ids ad ca Γ tgt vs st σ) (kf : B = some R → AW ids ad ca Γ (pc + 3) vs st σ) : AW ids ad ca Γ pc vs (.int y :: .int x :: st) σ := by
  subst hx hy
  exact s_ic_gt C hd ht (fun c => kt (by rw [if_pos c] at h; exact h)) (fun c => kf (by rw [if_neg (by omega)] at h; exact h))
theorem p_ic_le (C : CT ids ad ca Γ cc own l0 D0 fr lo nL0) {x y : Int32} {off : Int} {tgt : Nat} {X Y : Int} {A B : Option β} (hx : x.toInt = X) (hy : y.toInt = Y) (hd : decode cc pc = .ok (.if_icmp .le off, 3)) (ht : (pc : Int) + off = (tgt : Int)) (h : (if Y < X then A else B) = some R) (kt : B = some R → AW ids ad ca Γ tgt vs st σ) (kf : A = some R → AW ids ad ca Γ (pc + 3) vs st σ) : AW ids ad ca Γ pc vs (.int y :: .int x :: st) σ := by
  subst hx hy
  exact s_ic_le C hd ht (fun c => kt (by rw [if_neg (by omega)] at h; exact h)) (fun c => kf (by rw [if_pos c] at h; exact h))
theorem p_istore (C : CT ids ad ca Γ cc own l0 D0 fr lo nL0) {i : Nat} {x : Int32} {f : Int32 → Option β} (vs1 : Int32 → List (Option Value)) (hd : decode cc pc = .ok (.istore i, 2)) (hn : i < nL0) (hc : catOk vs i = true) (hvs : ∀ z, vs.set i (some (.int z)) = vs1 z) (h : Bd x f = some R) (k : ∀ z, f z = some R → AW ids ad ca Γ (pc + 2) (vs1 z) st σ) : AW ids ad ca Γ pc vs (.int x :: st) σ := a_istore C hd hn hc (hvs x) (k x h)
theorem p_istore_n (C : CT ids ad ca Γ cc own l0 D0 fr lo nL0) {q : Fin 4} {i : Nat} {x : Int32} {f : Int32 → Option β} (vs1 : Int32 → List (Option Value)) (hd : decode cc pc = .ok (.istore_n q, 1)) (hi : (q : Nat) = i) (hn : i < nL0) (hc : catOk vs i = true) (hvs : ∀ z, vs.set i (some (.int z)) = vs1 z) (h : Bd x f = some R) (k : ∀ z, f z = some R → AW ids ad ca Γ (pc + 1) (vs1 z) st σ) : AW ids ad ca Γ pc vs (.int x :: st) σ := a_istore_n C hd hi hn hc (hvs x) (k x h)
theorem p_lstore_n (C : CT ids ad ca Γ cc own l0 D0 fr lo nL0) {q : Fin 4} {i : Nat} {x : Int64} {f : Int64 → Option β} (vs1 : Int64 → List (Option Value)) (hd : decode cc pc = .ok (.lstore_n q, 1)) (hi : (q : Nat) = i) (hn : i + 1 < nL0) (hc : catOk vs i = true) (hvs : ∀ z, (vs.set (i + 1) none).set i (some (.long z)) = vs1 z) (h : Bd x f = some R) (k : ∀ z, f z = some R → AW ids ad ca Γ (pc + 1) (vs1 z) st σ) : AW ids ad ca Γ pc vs (.long x :: st) σ := a_lstore_n C hd hi hn hc (hvs x) (k x h)
theorem p_iinc (C : CT ids ad ca Γ cc own l0 D0 fr lo nL0) {i : Nat} {n : Int} {x y : Int32} {f : Int32 → Option β} (vs1 : Int32 → List (Option Value)) (hd : decode cc pc = .ok (.iinc i n, 3)) (hv : vs[i]? = some (some (.int x))) (he : x + Int32.ofInt n = y) (hn : i < nL0) (hc : catOk vs i = true) (hvs : ∀ z, vs.set i (some (.int z)) = vs1 z) (h : Bd y f = some R) (k : ∀ z, f z = some R → AW ids ad ca Γ (pc + 3) (vs1 z) st σ) : AW ids ad ca Γ pc vs st σ := a_iinc C hd hv he hn hc (hvs y) (k y h)
theorem p_idiv (C : CT ids ad ca Γ cc own l0 D0 fr lo nL0) {x y : Int32} {Y : Int} {A : Option β} (hy : y.toInt = Y) (hd : decode cc pc = .ok (.idiv, 1)) (h : (if Y = 0 then none else A) = some R) (k : A = some R → AW ids ad ca Γ (pc + 1) vs (.int (x / y) :: st) σ) : AW ids ad ca Γ pc vs (.int y :: .int x :: st) σ := by
  subst hy
  exact ite_k h (fun _ h => nn h) (fun c h => a_idiv C hd (i32_ne0 c) (k h))
theorem p_irem (C : CT ids ad ca Γ cc own l0 D0 fr lo nL0) {x y : Int32} {Y : Int} {A : Option β} (hy : y.toInt = Y) (hd : decode cc pc = .ok (.irem, 1)) (h : (if Y = 0 then none else A) = some R) (k : A = some R → AW ids ad ca Γ (pc + 1) vs (.int (x - x / y * y) :: st) σ) : AW ids ad ca Γ pc vs (.int y :: .int x :: st) σ := by
  subst hy
  exact ite_k h (fun _ h => nn h) (fun c h => a_irem C hd (i32_ne0 c) (k h))
theorem p_iald (C : CT ids ad ca Γ cc own l0 D0 fr lo nL0) {i : Nat} {j : Int32} {N : Int} {A : Option β} (hr : rowOK i) (hid : ∀ i, i < 277 → i ∈ ids) (hN : (al i : Int) = N) (hd : decode cc pc = .ok (.iaload, 1)) (h : (if 0 ≤ j.toInt ∧ j.toInt < N then A else none) = some R) (k : A = some R → AW ids ad ca Γ (pc + 1) vs (.int (σ.1 i j.toInt.toNat) :: st) σ) : AW ids ad ca Γ pc vs (.int j :: .ref (ad i) :: st) σ :=
  ite_n h (fun c h => a_iald C j.toInt.toNat hr.1 (hid _ hr.2) (i32_nn c.1) rfl (by omega) hd rfl (k h))
theorem p_ialdc (C : CT ids ad ca Γ cc own l0 D0 fr lo nL0) {i : Nat} {j : Int32} (q : Nat) (hr : rowOK i) (hid : ∀ i, i < 277 → i ∈ ids) (hj : j.toInt = q) (hN : q < al i) (hd : decode cc pc = .ok (.iaload, 1)) (k : AW ids ad ca Γ (pc + 1) vs (.int (σ.1 i q) :: st) σ) : AW ids ad ca Γ pc vs (.int j :: .ref (ad i) :: st) σ :=
  a_iald C q hr.1 (hid _ hr.2) (i32_nn (by omega)) (by rw [i32_cl, hj]; rfl) hN hd rfl k
theorem p_zald (C : CT ids ad ca Γ cc own l0 D0 fr lo nL0) {i : Nat} {j : Int32} {N : Int} {A : Option β} (hk : kd i = 21) (hi : i ∈ ids) (hN : (al i : Int) = N) (hd : decode cc pc = .ok (.baload, 1)) (h : (if 0 ≤ j.toInt ∧ j.toInt < N then A else none) = some R) (k : A = some R → AW ids ad ca Γ (pc + 1) vs (.int (σ.1 i j.toInt.toNat) :: st) σ) : AW ids ad ca Γ pc vs (.int j :: .ref (ad i) :: st) σ :=
  ite_n h (fun c h => a_zald C j.toInt.toNat hk hi (i32_nn c.1) rfl (by omega) hd rfl (k h))
theorem p_zaldc (C : CT ids ad ca Γ cc own l0 D0 fr lo nL0) {i : Nat} {j : Int32} (q : Nat) (hk : kd i = 21) (hi : i ∈ ids) (hj : j.toInt = q) (hN : q < al i) (hd : decode cc pc = .ok (.baload, 1)) (k : AW ids ad ca Γ (pc + 1) vs (.int (σ.1 i q) :: st) σ) : AW ids ad ca Γ pc vs (.int j :: .ref (ad i) :: st) σ :=
  a_zald C q hk hi (i32_nn (by omega)) (by rw [i32_cl, hj]; rfl) hN hd rfl k
theorem p_bald (C : CT ids ad ca Γ cc own l0 D0 fr lo nL0) {i : Nat} {j : Int32} {N : Int} {A : Option β} (hk : kd i = 22) (hi : i ∈ ids) (hN : (al i : Int) = N) (hd : decode cc pc = .ok (.baload, 1)) (h : (if 0 ≤ j.toInt ∧ j.toInt < N then A else none) = some R) (k : A = some R → AW ids ad ca Γ (pc + 1) vs (.int (σ.1 i j.toInt.toNat) :: st) σ) : AW ids ad ca Γ pc vs (.int j :: .ref (ad i) :: st) σ :=
  ite_n h (fun c h => a_bald C j.toInt.toNat hk hi (i32_nn c.1) rfl (by omega) hd rfl (k h))
theorem p_lald (C : CT ids ad ca Γ cc own l0 D0 fr lo nL0) {i : Nat} {j : Int32} {N : Int} {A : Option β} (hk : kd i = 23) (hi : i ∈ ids) (hN : (al i : Int) = N) (hd : decode cc pc = .ok (.laload, 1)) (h : (if 0 ≤ j.toInt ∧ j.toInt < N then A else none) = some R) (k : A = some R → AW ids ad ca Γ (pc + 1) vs (.long (σ.2.1 i j.toInt.toNat) :: st) σ) : AW ids ad ca Γ pc vs (.int j :: .ref (ad i) :: st) σ :=
  ite_n h (fun c h => a_lald C j.toInt.toNat hk hi (i32_nn c.1) rfl (by omega) hd rfl (k h))
theorem p_iast (C : CT ids ad ca Γ cc own l0 D0 fr lo nL0) {i : Nat} {j x : Int32} {N : Int} {f : HS → Option β} (hr : rowOK i) (hid : ∀ i, i < 277 → i ∈ ids) (hN : (al i : Int) = N) (hd : decode cc pc = .ok (.iastore, 1)) (h : (if 0 ≤ j.toInt ∧ j.toInt < N then Bd (hI σ i j.toInt.toNat x) f else none) = some R) (k : ∀ s, f s = some R → AW ids ad ca Γ (pc + 1) vs st s) : AW ids ad ca Γ pc vs (.int x :: .int j :: .ref (ad i) :: st) σ :=
  ite_n h (fun c h => a_iast C j.toInt.toNat hr.1 (hid _ hr.2) (i32_nn c.1) rfl (by omega) hd (k _ h))
theorem p_iastc (C : CT ids ad ca Γ cc own l0 D0 fr lo nL0) {i : Nat} {j x : Int32} {f : HS → Option β} (q : Nat) (hr : rowOK i) (hid : ∀ i, i < 277 → i ∈ ids) (hj : j.toInt = q) (hN : q < al i) (hd : decode cc pc = .ok (.iastore, 1)) (h : Bd (hI σ i q x) f = some R) (k : ∀ s, f s = some R → AW ids ad ca Γ (pc + 1) vs st s) : AW ids ad ca Γ pc vs (.int x :: .int j :: .ref (ad i) :: st) σ :=
  a_iast C q hr.1 (hid _ hr.2) (i32_nn (by omega)) (by rw [i32_cl, hj]; rfl) hN hd (k _ h)
theorem p_zast (C : CT ids ad ca Γ cc own l0 D0 fr lo nL0) {i : Nat} {j x : Int32} {N : Int} {f : HS → Option β} (hk : kd i = 21) (hi : i ∈ ids) (hN : (al i : Int) = N) (hw : 0 ≤ x.toInt ∧ x.toInt ≤ 1) (hd : decode cc pc = .ok (.bastore, 1)) (h : (if 0 ≤ j.toInt ∧ j.toInt < N then Bd (hI σ i j.toInt.toNat x) f else none) = some R) (k : ∀ s, f s = some R → AW ids ad ca Γ (pc + 1) vs st s) : AW ids ad ca Γ pc vs (.int x :: .int j :: .ref (ad i) :: st) σ :=
  ite_n h (fun c h => a_zast C j.toInt.toNat (nar_v hw) hk hi (i32_nn c.1) rfl (by omega) hd (k _ h))
theorem p_bast (C : CT ids ad ca Γ cc own l0 D0 fr lo nL0) {i : Nat} {j x : Int32} {N : Int} {f : HS → Option β} (hk : kd i = 22) (hi : i ∈ ids) (hN : (al i : Int) = N) (hd : decode cc pc = .ok (.bastore, 1)) (h : (if 0 ≤ j.toInt ∧ j.toInt < N then Bd (hI σ i j.toInt.toNat (vp_nar .byte x)) f else none) = some R) (k : ∀ s, f s = some R → AW ids ad ca Γ (pc + 1) vs st s) : AW ids ad ca Γ pc vs (.int x :: .int j :: .ref (ad i) :: st) σ :=
  ite_n h (fun c h => a_bastN C j.toInt.toNat hk hi (i32_nn c.1) rfl (by omega) hd (k _ h))
theorem p_last (C : CT ids ad ca Γ cc own l0 D0 fr lo nL0) {i : Nat} {j : Int32} {x : Int64} {N : Int} {f : HS → Option β} (hk : kd i = 23) (hi : i ∈ ids) (hN : (al i : Int) = N) (hd : decode cc pc = .ok (.lastore, 1)) (h : (if 0 ≤ j.toInt ∧ j.toInt < N then Bd (hL σ i j.toInt.toNat x) f else none) = some R) (k : ∀ s, f s = some R → AW ids ad ca Γ (pc + 1) vs st s) : AW ids ad ca Γ pc vs (.long x :: .int j :: .ref (ad i) :: st) σ :=
  ite_n h (fun c h => a_last C j.toInt.toNat hk hi (i32_nn c.1) rfl (by omega) hd (k _ h))
theorem p_aaldH (C : CT ids ad ca Γ cc own l0 D0 fr lo nL0) {t : Nat} {j : Int32} {A : Option β} (ht : txtOK t) (hid : ∀ i, i < 277 → i ∈ ids) (hd : decode cc pc = .ok (.aaload, 1)) (h : (if 0 ≤ j.toInt ∧ j.toInt < 5 then A else none) = some R) (k : rowOK (t + 5 + j.toInt.toNat) ∧ al (t + 5 + j.toInt.toNat) = 8 → A = some R → AW ids ad ca Γ (pc + 1) vs (.ref (ad (t + 5 + j.toInt.toNat)) :: st) σ) : AW ids ad ca Γ pc vs (.int j :: .ref (ad (t + 4)) :: st) σ :=
  ite_n h (fun c h => s_aaldH C ht.2.2.2.2.2.2.2.1.1 (hid _ ht.2.2.2.2.2.2.2.1.2.1) ht.2.2.2.2.2.2.2.1.2.2 c.1 c.2 hd (fun n e hn => by
    have e1 : n = j.toInt.toNat := by omega
    subst e1
    have := k (ht.2.2.2.2.2.2.2.2 _ hn) h
    exact this))
theorem p_aaldR (C : CT ids ad ca Γ cc own l0 D0 fr lo nL0) {j : Int32} {A : Option β} (hid : ∀ i, i < 277 → i ∈ ids) (hd : decode cc pc = .ok (.aaload, 1)) (h : (if 0 ≤ j.toInt ∧ j.toInt < 40 then A else none) = some R) (k : airOK (76 + 4 * j.toInt.toNat) → A = some R → AW ids ad ca Γ (pc + 1) vs (.ref (ad (76 + 4 * j.toInt.toNat)) :: st) σ) : AW ids ad ca Γ pc vs (.int j :: .ref (ad 13) :: st) σ :=
  ite_n h (fun c h => s_aaldR C (hid 13 (by decide)) c.1 c.2 hd (fun n e hn => by
    have e1 : n = j.toInt.toNat := by omega
    subst e1
    exact k (airOK_ring hn) h))
theorem p_aaldS (C : CT ids ad ca Γ cc own l0 D0 fr lo nL0) {j : Int32} {A : Option β} (hid : ∀ i, i < 277 → i ∈ ids) (hd : decode cc pc = .ok (.aaload, 1)) (h : (if 0 ≤ j.toInt ∧ j.toInt < 3 then A else none) = some R) (k : airOK (64 + 4 * j.toInt.toNat) → A = some R → AW ids ad ca Γ (pc + 1) vs (.ref (ad (64 + 4 * j.toInt.toNat)) :: st) σ) : AW ids ad ca Γ pc vs (.int j :: .ref (ad 25) :: st) σ :=
  ite_n h (fun c h => a_aald C j.toInt.toNat (Or.inr kd_25) (hid 25 (by decide)) (i32_nn c.1) rfl (by rw [al_25]; omega) (by rw [kd_25]; exact if_pos (by omega)) hd (k (airOK_slot (by omega)) h))
theorem p_getT (C : CT ids ad ca Γ cc own l0 D0 fr lo nL0) {n q ix tx : Nat} {A : Option β} (F : FL own ix n q) (hk : kd 0 = n) (hi : 0 ∈ ids) (hv : ∀ t, t = tx → (fsK ad n 0 (σ.1 0) σ.2.2)[q]? = some (.ref (ad t))) (hd : decode cc pc = .ok (.getfield ix, 3)) (h : (if tx = 30 ∨ tx = 43 then A else none) = some R) (k : txtOK tx → A = some R → AW ids ad ca Γ (pc + 3) vs (.ref (ad tx) :: st) σ) : AW ids ad ca Γ pc vs (.ref (ad 0) :: st) σ :=
  ite_n h (fun c h => a_get C F hk hi (hv tx rfl) hd (k (txtOK_of c) h))
theorem p_put (C : CT ids ad ca Γ cc own l0 D0 fr lo nL0) {i n q ix : Nat} {ty : FieldType} {v : Int32} {f : HS → Option β} (F : FP own ix n q ty) (hk : kd i = n) (hi : i ∈ ids) (hn : narrow ty (.int v) = .int v) (hf : fits ty (.int v) = true) (hd : decode cc pc = .ok (.putfield ix, 3)) (h : Bd (hI σ i q v) f = some R) (k : ∀ s, f s = some R → AW ids ad ca Γ (pc + 3) vs st s) : AW ids ad ca Γ pc vs (.int v :: .ref (ad i) :: st) σ := a_put C F hk hi hn hf hd (k _ h)
theorem p_putR (C : CT ids ad ca Γ cc own l0 D0 fr lo nL0) (hi : 0 ∈ ids) {q kk ix v : Nat} {f : HS → Option β} (F : FPR own ix q kk) (hd : decode cc pc = .ok (.putfield ix, 3)) (h : Bd (hR σ kk v) f = some R) (k : ∀ s, f s = some R → AW ids ad ca Γ (pc + 3) vs st s) : AW ids ad ca Γ pc vs (.ref (ad v) :: .ref (ad 0) :: st) σ := a_putR C hi F hd (k _ h)
theorem p_copyi (C : CT ids ad ca Γ cc own l0 D0 fr lo nL0) {ix i0 i1 : Nat} {sp dp n : Int32} {N0 N1 SP DP Z : Int} {f : HS → Option β} (h1 : Cond.methodLink own ix arraycopyName ∈ gw_tbl) (h2 : Cond.native arraycopyName ∈ gw_tbl) (h3 : Cond.static arraycopyName ∈ gw_tbl) (h4 : Cond.initialized "java/lang/System" ∈ gw_tbl) (hr0 : rowOK i0) (hr1 : rowOK i1) (hid : ∀ i, i < 277 → i ∈ ids) (hN0 : (al i0 : Int) = N0) (hN1 : (al i1 : Int) = N1) (e1 : sp.toInt = SP) (e2 : dp.toInt = DP) (e3 : n.toInt = Z) (h5 : 1 ≤ fr) (h6 : (st.map fun v => v.category).sum + (nativeFrameWords "java/lang/System" "arraycopy" 5 + 11) ≤ lo) (hd : decode cc pc = .ok (.invokestatic ix, 3)) (h : (if 0 ≤ SP ∧ 0 ≤ DP ∧ 0 ≤ Z ∧ SP + Z ≤ N0 ∧ DP + Z ≤ N1 then Bd (hA σ i1 (va_cpy (σ.1 i0) (σ.1 i1) SP.toNat DP.toNat Z.toNat)) f else none) = some R) (k : ∀ s, f s = some R → AW ids ad ca Γ (pc + 3) vs st s) : AW ids ad ca Γ pc vs (.int n :: .int dp :: .ref (ad i1) :: .int sp :: .ref (ad i0) :: st) σ := by
  subst e1 e2 e3
  exact ite_n h (fun c h => a_copyi C sp.toInt.toNat dp.toInt.toNat n.toInt.toNat h1 h2 h3 h4 hr0.1 (hid _ hr0.2) hr1.1 (hid _ hr1.2) (i32_nn c.1) (i32_nn c.2.1) (i32_nn c.2.2.1) rfl rfl rfl (by omega) (by omega) h5 h6 hd (k _ h))
theorem p_callVi (C : CT ids ad ca Γ cc own l0 D0 fr lo nL0) {y : MethodName} {cc' : ByteArray} {nL' fr' lo' n ix : Nat} {ty : FieldType} {As st0 : List Value} {i n0 : Nat} {x : Option (Int32 × HS)} {g : Int32 → HS → Option β} (hk : kd i = n0) (hi : i ∈ ids) (hq : ∃ (T : u_T) (N : Nat), vwCl[n0]? = some (y.cls, T, N)) (h12 : n0 < 12) (h : Cl x g = some R) (hM : ∀ r s, x = some (r, s) → Ki l0 D0 ids ad ca y cc' nL' ty fr' lo' (.ref (ad i) :: As) σ (fun r' σ' => r' = r ∧ σ' = s)) (hw : MI y cc' nL' (some ty) n) (hlink : Cond.methodLink own ix y ∈ gw_tbl) (hst : st0 = As.reverse ++ .ref (ad i) :: st) (hn : As.length = n) (hf1 : fr' + 1 ≤ fr) (hl1 : 8 + (nL' + 11) + lo' ≤ lo) (hcat : (st.map fun v => v.category).sum ≤ 8) (hd : decode cc pc = .ok (.invokevirtual ix, 3)) (k : ∀ r s, g r s = some R → AW ids ad ca Γ (pc + 3) vs (.int r :: st) s) : AW ids ad ca Γ pc vs st0 σ := by
  obtain ⟨r, s, e, h⟩ := Cl_some h
  exact a_callVi C hk hi hq h12 (hM r s e) hw hlink hst hn hf1 hl1 hcat hd (fun r' s' q => by obtain ⟨rfl, rfl⟩ := q; exact k _ _ h)
theorem p_callVv (C : CT ids ad ca Γ cc own l0 D0 fr lo nL0) {y : MethodName} {cc' : ByteArray} {nL' fr' lo' n ix : Nat} {As st0 : List Value} {i n0 : Nat} {x : Option HS} {g : HS → Option β} (hk : kd i = n0) (hi : i ∈ ids) (hq : ∃ (T : u_T) (N : Nat), vwCl[n0]? = some (y.cls, T, N)) (h12 : n0 < 12) (h : Cv x g = some R) (hM : ∀ s, x = some s → Kv l0 D0 ids ad ca y cc' nL' fr' lo' (.ref (ad i) :: As) σ (fun σ' => σ' = s)) (hw : MI y cc' nL' none n) (hlink : Cond.methodLink own ix y ∈ gw_tbl) (hst : st0 = As.reverse ++ .ref (ad i) :: st) (hn : As.length = n) (hf1 : fr' + 1 ≤ fr) (hl1 : 8 + (nL' + 11) + lo' ≤ lo) (hcat : (st.map fun v => v.category).sum ≤ 8) (hd : decode cc pc = .ok (.invokevirtual ix, 3)) (k : ∀ s, g s = some R → AW ids ad ca Γ (pc + 3) vs st s) : AW ids ad ca Γ pc vs st0 σ := by
  obtain ⟨s, e, h⟩ := Cv_some h
  exact a_callVv C hk hi hq h12 (hM s e) hw hlink hst hn hf1 hl1 hcat hd (fun s' q => by obtain rfl := q; exact k _ h)
theorem p_callSi (C : CT ids ad ca Γ cc own l0 D0 fr lo nL0) {y : MethodName} {cc' : ByteArray} {nL' fr' lo' n ix : Nat} {ty : FieldType} {As st0 : List Value} {x : Option (Int32 × HS)} {g : Int32 → HS → Option β} (h : Cl x g = some R) (hM : ∀ r s, x = some (r, s) → Ki l0 D0 ids ad ca y cc' nL' ty fr' lo' As σ (fun r' σ' => r' = r ∧ σ' = s)) (hw : MS y cc' nL' (some ty) n) (hlink : Cond.methodLink own ix y ∈ gw_tbl) (hst : st0 = As.reverse ++ st) (hn : As.length = n) (hf1 : fr' + 1 ≤ fr) (hl1 : 8 + (nL' + 11) + lo' ≤ lo) (hcat : (st.map fun v => v.category).sum ≤ 8) (hd : decode cc pc = .ok (.invokestatic ix, 3)) (k : ∀ r s, g r s = some R → AW ids ad ca Γ (pc + 3) vs (.int r :: st) s) : AW ids ad ca Γ pc vs st0 σ := by
  obtain ⟨r, s, e, h⟩ := Cl_some h
  exact a_callSi C (hM r s e) hw hlink hst hn hf1 hl1 hcat hd (fun r' s' q => by obtain ⟨rfl, rfl⟩ := q; exact k _ _ h)
theorem p_callSNi (C : CT ids ad ca Γ cc own l0 D0 fr lo nL0) {y : MethodName} {cc' : ByteArray} {nL' fr' lo' n ix : Nat} {ty : FieldType} {As st0 : List Value} {host : String} {x : Option (Int32 × HS)} {g : Int32 → HS → Option β} (h : Cl x g = some R) (hM : ∀ r s, x = some (r, s) → Ki l0 D0 ids ad ca y cc' nL' ty fr' lo' As σ (fun r' σ' => r' = r ∧ σ' = s)) (hw : MS y cc' nL' (some ty) n) (hnl : (own, ix, y, host) ∈ nestL) (hst : st0 = As.reverse ++ st) (hn : As.length = n) (hf1 : fr' + 1 ≤ fr) (hl1 : 8 + (nL' + 11) + lo' ≤ lo) (hcat : (st.map fun v => v.category).sum ≤ 8) (hd : decode cc pc = .ok (.invokestatic ix, 3)) (k : ∀ r s, g r s = some R → AW ids ad ca Γ (pc + 3) vs (.int r :: st) s) : AW ids ad ca Γ pc vs st0 σ := by
  obtain ⟨r, s, e, h⟩ := Cl_some h
  exact a_callSNi C (hM r s e) hw hnl hst hn hf1 hl1 hcat hd (fun r' s' q => by obtain ⟨rfl, rfl⟩ := q; exact k _ _ h)
theorem p_callSv (C : CT ids ad ca Γ cc own l0 D0 fr lo nL0) {y : MethodName} {cc' : ByteArray} {nL' fr' lo' n ix : Nat} {As st0 : List Value} {x : Option HS} {g : HS → Option β} (h : Cv x g = some R) (hM : ∀ s, x = some s → Kv l0 D0 ids ad ca y cc' nL' fr' lo' As σ (fun σ' => σ' = s)) (hw : MS y cc' nL' none n) (hlink : Cond.methodLink own ix y ∈ gw_tbl) (hst : st0 = As.reverse ++ st) (hn : As.length = n) (hf1 : fr' + 1 ≤ fr) (hl1 : 8 + (nL' + 11) + lo' ≤ lo) (hcat : (st.map fun v => v.category).sum ≤ 8) (hd : decode cc pc = .ok (.invokestatic ix, 3)) (k : ∀ s, g s = some R → AW ids ad ca Γ (pc + 3) vs st s) : AW ids ad ca Γ pc vs st0 σ := by
  obtain ⟨s, e, h⟩ := Cv_some h
  exact a_callSv C (hM s e) hw hlink hst hn hf1 hl1 hcat hd (fun s' q => by obtain rfl := q; exact k _ h)
theorem p_callSl (C : CT ids ad ca Γ cc own l0 D0 fr lo nL0) {y : MethodName} {cc' : ByteArray} {nL' fr' lo' n ix : Nat} {As st0 : List Value} {x : Option (Int64 × HS)} {g : Int64 → HS → Option β} (h : Cl x g = some R) (hM : ∀ r s, x = some (r, s) → Kl l0 D0 ids ad ca y cc' nL' fr' lo' As σ (fun r' σ' => r' = r ∧ σ' = s)) (hw : MS y cc' nL' (some .long) n) (hlink : Cond.methodLink own ix y ∈ gw_tbl) (hst : st0 = As.reverse ++ st) (hn : As.length = n) (hf1 : fr' + 1 ≤ fr) (hl1 : 8 + (nL' + 11) + lo' ≤ lo) (hcat : (st.map fun v => v.category).sum ≤ 8) (hd : decode cc pc = .ok (.invokestatic ix, 3)) (k : ∀ r s, g r s = some R → AW ids ad ca Γ (pc + 3) vs (.long r :: st) s) : AW ids ad ca Γ pc vs st0 σ := by
  obtain ⟨r, s, e, h⟩ := Cl_some h
  exact a_callSl C (hM r s e) hw hlink hst hn hf1 hl1 hcat hd (fun r' s' q => by obtain ⟨rfl, rfl⟩ := q; exact k _ _ h)
theorem p_cViS (C : CT ids ad ca Γ cc own l0 D0 fr lo nL0) (E : SG K Γ) {y : MethodName} {cc' : ByteArray} {nL' fr' lo' n ix : Nat} {ty : FieldType} {As st0 : List Value} {i n0 : Nat} {x : Option (Int32 × HS)} {g : Int32 → HS → Option β} (hk : kd i = n0) (hi : i ∈ ids) (hq : ∃ (T : u_T) (N : Nat), vwCl[n0]? = some (y.cls, T, N)) (h12 : n0 < 12) (h : Cl x g = some R) (hM : ∀ r s, x = some (r, s) → KiS l0 D0 ids ad ca K y cc' nL' ty fr' lo' (.ref (ad i) :: As) σ (fun r' σ' => r' = r ∧ σ' = s)) (hw : MI y cc' nL' (some ty) n) (hlink : Cond.methodLink own ix y ∈ gw_tbl) (hst : st0 = As.reverse ++ .ref (ad i) :: st) (hn : As.length = n) (hf1 : fr' + 1 ≤ fr) (hl1 : 8 + (nL' + 11) + lo' ≤ lo) (hcat : (st.map fun v => v.category).sum ≤ 8) (hd : decode cc pc = .ok (.invokevirtual ix, 3)) (k : ∀ r s, g r s = some R → AW ids ad ca Γ (pc + 3) vs (.int r :: st) s) : AW ids ad ca Γ pc vs st0 σ := by
  obtain ⟨r, s, e, h⟩ := Cl_some h
  exact a_cViS C E hk hi hq h12 (hM r s e) hw hlink hst hn hf1 hl1 hcat hd (fun r' s' q => by obtain ⟨rfl, rfl⟩ := q; exact k _ _ h)
theorem p_cVvS (C : CT ids ad ca Γ cc own l0 D0 fr lo nL0) (E : SG K Γ) {y : MethodName} {cc' : ByteArray} {nL' fr' lo' n ix : Nat} {As st0 : List Value} {i n0 : Nat} {x : Option HS} {g : HS → Option β} (hk : kd i = n0) (hi : i ∈ ids) (hq : ∃ (T : u_T) (N : Nat), vwCl[n0]? = some (y.cls, T, N)) (h12 : n0 < 12) (h : Cv x g = some R) (hM : ∀ s, x = some s → KvS l0 D0 ids ad ca K y cc' nL' fr' lo' (.ref (ad i) :: As) σ (fun σ' => σ' = s)) (hw : MI y cc' nL' none n) (hlink : Cond.methodLink own ix y ∈ gw_tbl) (hst : st0 = As.reverse ++ .ref (ad i) :: st) (hn : As.length = n) (hf1 : fr' + 1 ≤ fr) (hl1 : 8 + (nL' + 11) + lo' ≤ lo) (hcat : (st.map fun v => v.category).sum ≤ 8) (hd : decode cc pc = .ok (.invokevirtual ix, 3)) (k : ∀ s, g s = some R → AW ids ad ca Γ (pc + 3) vs st s) : AW ids ad ca Γ pc vs st0 σ := by
  obtain ⟨s, e, h⟩ := Cv_some h
  exact a_cVvS C E hk hi hq h12 (hM s e) hw hlink hst hn hf1 hl1 hcat hd (fun s' q => by obtain rfl := q; exact k _ h)
theorem p_cSiS (C : CT ids ad ca Γ cc own l0 D0 fr lo nL0) (E : SG K Γ) {y : MethodName} {cc' : ByteArray} {nL' fr' lo' n ix : Nat} {ty : FieldType} {As st0 : List Value} {x : Option (Int32 × HS)} {g : Int32 → HS → Option β} (h : Cl x g = some R) (hM : ∀ r s, x = some (r, s) → KiS l0 D0 ids ad ca K y cc' nL' ty fr' lo' As σ (fun r' σ' => r' = r ∧ σ' = s)) (hw : MS y cc' nL' (some ty) n) (hlink : Cond.methodLink own ix y ∈ gw_tbl) (hst : st0 = As.reverse ++ st) (hn : As.length = n) (hf1 : fr' + 1 ≤ fr) (hl1 : 8 + (nL' + 11) + lo' ≤ lo) (hcat : (st.map fun v => v.category).sum ≤ 8) (hd : decode cc pc = .ok (.invokestatic ix, 3)) (k : ∀ r s, g r s = some R → AW ids ad ca Γ (pc + 3) vs (.int r :: st) s) : AW ids ad ca Γ pc vs st0 σ := by
  obtain ⟨r, s, e, h⟩ := Cl_some h
  exact a_cSiS C E (hM r s e) hw hlink hst hn hf1 hl1 hcat hd (fun r' s' q => by obtain ⟨rfl, rfl⟩ := q; exact k _ _ h)
theorem p_cTiS (C : CT ids ad ca Γ cc own l0 D0 fr lo nL0) (E : SG K Γ) {y : MethodName} {cc' : ByteArray} {nL' fr' lo' n ix : Nat} {ty : FieldType} {As st0 : List Value} {i : Nat} {x : Option (Int32 × HS)} {g : Int32 → HS → Option β} (hi : i < 2) (hyc : y.cls = RJ0) (h : Cl x g = some R) (hM : ∀ r s, x = some (r, s) → KiS l0 D0 ids ad ca K y cc' nL' ty fr' lo' (.ref (K.1 i) :: As) σ (fun r' σ' => r' = r ∧ σ' = s)) (hw : MI y cc' nL' (some ty) n) (hlink : Cond.methodLink own ix y ∈ gw_tbl) (hst : st0 = As.reverse ++ .ref (K.1 i) :: st) (hn : As.length = n) (hf1 : fr' + 1 ≤ fr) (hl1 : 8 + (nL' + 11) + lo' ≤ lo) (hcat : (st.map fun v => v.category).sum ≤ 8) (hd : decode cc pc = .ok (.invokevirtual ix, 3)) (k : ∀ r s, g r s = some R → AW ids ad ca Γ (pc + 3) vs (.int r :: st) s) : AW ids ad ca Γ pc vs st0 σ := by
  obtain ⟨r, s, e, h⟩ := Cl_some h
  exact a_cTiS C E hi hyc (hM r s e) hw hlink hst hn hf1 hl1 hcat hd (fun r' s' q => by obtain ⟨rfl, rfl⟩ := q; exact k _ _ h)
theorem p_sbald (C : CT ids ad ca Γ cc own l0 D0 fr lo nL0) (E : SG K Γ) {i : Nat} (hi : i < 2) {j : Int32} {N : Int} {A : Option β} (hN : ((lenS.getD i 0 : Nat) : Int) = N) (hd : decode cc pc = .ok (.baload, 1)) (h : (if 0 ≤ j.toInt ∧ j.toInt < N then A else none) = some R) (k : A = some R → AW ids ad ca Γ (pc + 1) vs (.int ((bytS.getD i []).getD j.toInt.toNat 0) :: st) σ) : AW ids ad ca Γ pc vs (.int j :: .ref (K.2 i) :: st) σ :=
  ite_n h (fun c h => a_sbald C E hi c.1 (by omega) hd (fun n e => by
    have e1 : n = j.toInt.toNat := by omega
    subst e1
    exact k h))
theorem p_strlen (C : CT ids ad ca Γ cc own l0 D0 fr lo nL0) (E : SG K Γ) {n ix i : Nat} {As : List Value} (hi : i < 2) (hw : MI yJ0_length_8abf5 cJ0_length_8abf5 1 (some .int) n) (hlink : Cond.methodLink own ix yJ0_length_8abf5 ∈ gw_tbl) (hn : n = 0) (hf1 : 2 ≤ fr) (hl1 : 40 ≤ lo) (hcat : (st.map fun v => v.category).sum ≤ 8) (hd : decode cc pc = .ok (.invokevirtual ix, 3)) (hA : As = []) (k : AW ids ad ca Γ (pc + 3) vs (.int (Int32.ofNat (lenS.getD i 0)) :: st) σ) : AW ids ad ca Γ pc vs (.ref (K.1 i) :: st) σ :=
  a_cTiS C E (As := []) (i := i) hi rfl (J_length hi) hw hlink rfl hn.symm hf1 hl1 hcat hd (fun r s q => by
    obtain ⟨h1, rfl⟩ := q
    have e : r = Int32.ofNat (lenS.getD i 0) := Int32.toInt_inj.mp (by
      rw [h1]
      rcases (show i = 0 ∨ i = 1 by omega) with rfl | rfl <;> rfl)
    rw [e]
    exact k)
theorem p_charAt (C : CT ids ad ca Γ cc own l0 D0 fr lo nL0) (E : SG K Γ) {n ix i : Nat} {x : Int32} {N : Int} {A : Option β} (hi : i < 2) (hN : ((lenS.getD i 0 : Nat) : Int) = N) (hw : MI yJ0_charAt_5068e cJ0_charAt_5068e 2 (some .char) n) (hlink : Cond.methodLink own ix yJ0_charAt_5068e ∈ gw_tbl) (hn : n = 1) (hf1 : 4 ≤ fr) (hl1 : 91 ≤ lo) (hcat : (st.map fun v => v.category).sum ≤ 8) (hd : decode cc pc = .ok (.invokevirtual ix, 3)) (h : (if 0 ≤ x.toInt ∧ x.toInt < N then A else none) = some R) (k : A = some R → AW ids ad ca Γ (pc + 3) vs (.int (chS i x.toInt.toNat) :: st) σ) : AW ids ad ca Γ pc vs (.int x :: .ref (K.1 i) :: st) σ :=
  ite_n h (fun c h => a_cTiS C E (As := [.int x]) (i := i) hi rfl (J_charAt hi c.1 (by omega)) hw hlink rfl hn.symm hf1 hl1 hcat hd (fun r s q => by
    obtain ⟨⟨j, hj, rfl⟩, rfl⟩ := q
    have e1 : j = x.toInt.toNat := by omega
    subst e1
    exact k h))
end VROW

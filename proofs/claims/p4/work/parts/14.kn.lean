/-! contracts of constructors: what is made, and where it stands -/
theorem va_AOA.spec {s : State} (h : va_AOA .int s) : ∃ comp c k, s.vm.findClass (FieldType.array .int).toString = some comp ∧ (s.vm.classes.findIdx? fun (x : Class) => match x.kind with | .array component _ => component == comp | _ => false) = some c ∧ s.vm.classes[c]? = some k ∧ k.kind = .array comp (.array .int) ∧ s.vm.findClass ("[" ++ (FieldType.array .int).toString) = some c := by
  unfold va_AOA Cond.before at h
  simp only [Cond.holds, Cond.value, beq_iff_eq] at h
  cases hc : s.vm.findClass (FieldType.array .int).toString with
  | none => simp [hc] at h
  | some comp =>
    simp only [hc, Option.bind_some, Option.bind_eq_some_iff, Option.map_eq_some_iff] at h
    obtain ⟨c, hi, k, hk, hb⟩ := h
    obtain ⟨hlt, hp, -⟩ := Array.findIdx?_eq_some_iff_getElem.mp hi
    have hkk : s.vm.classes[c] = k := (Array.getElem?_eq_some_iff.mp hk).2
    rw [hkk] at hp
    cases hkind : k.kind with
    | array component ty =>
      rw [hkind] at hb hp
      simp at hb hp
      exact ⟨comp, c, k, rfl, hi, hk, by rw [hkind, hp, hb.1], hb.2⟩
    | _ => rw [hkind] at hb; simp at hb
theorem va_AOA.moved {u U : State} (hvm : u.vm.Alike U.vm) (h : va_AOA .int u) : va_AOA .int U := by
  obtain ⟨comp, c, k, h1, h2, h3, h4, h5⟩ := va_AOA.spec h
  obtain ⟨k', hk', he⟩ := hvm.2.2 _ _ h3
  have hi : (U.vm.classes.findIdx? fun (x : Class) => match x.kind with | .array component _ => component == comp | _ => false) = some c := by
    have e1 := va_idx_bare U.vm comp
    have e2 := va_idx_bare u.vm comp
    have e3 : U.vm.bare = u.vm.bare := by first | exact hvm.bare_eq | exact hvm.bare_eq.symm
    rw [e3] at e1
    exact e1.symm.trans (e2.trans h2)
  have hkind : k'.kind = .array comp (.array .int) := by rw [he]; exact h4
  have f1 : U.vm.findClass (FieldType.array .int).toString = some comp := by rw [hvm.findClass]; exact h1
  have f2 : U.vm.findClass ("[" ++ (FieldType.array .int).toString) = some c := by rw [hvm.findClass]; exact h5
  unfold va_AOA Cond.before Cond.holds
  simp only [Cond.value]
  rw [f1, Option.bind_some]
  refine (congrArg (fun o : Option Nat => (o.bind (fun c => (U.vm.classes[c]?).map fun (k : Class) => match k.kind with | .array _ ty => decide (ty = FieldType.array .int) && decide (U.vm.findClass ("[" ++ (FieldType.array .int).toString) = some c) | _ => false) == some true)) hi).trans ?_
  simp [hk', hkind, f2]
/-- the rest of what a constructor needs of the machine -/
def EG (U : State) : Prop := EN U ∧ va_AO RX0 U ∧ va_AOA .int U
theorem EG.warm {s U : State} (hW : s.WarmedH U.vm) (h : EG s) : EG U := ⟨h.1.warm hW, va_AO.moved hW.alike h.2.1, va_AOA.moved hW.alike h.2.2⟩
theorem EG.same {s U : State} (hv : s.vm = U.vm) (h : EG s) : EG U := ⟨h.1.same hv, va_AO.moved (hv ▸ Vm.Alike.refl s.vm) h.2.1, va_AOA.moved (hv ▸ Vm.Alike.refl s.vm) h.2.2⟩
def GE (Γ : GQ) : Prop := match Γ with
  | (p, l, e, R, s, m, args, below, meth, c, Q, D, A, H0, nL) => EG s
def NPre (D : va_G) (ws : va_W) (ts : List (ClassId × FieldType)) (sz : Nat) (V : State) : Prop := V.heap.size = sz ∧ va_P D vwCl ws V.heap ∧ va_K D vwCl ts V ∧ va_D (fun _ => True) ws ∧ EG V
def NAt {S : Type} (D : va_G) (W1 : S → va_W) (T1 : S → List (ClassId × FieldType)) (A : Nat → Prop) (u : S) (t : State) : Prop := va_P D vwCl (W1 u) t.heap ∧ va_K D vwCl (T1 u) t ∧ va_D A (W1 u)
/-- y, called with av in the world ws, makes mc cells of ms places, and leaves a world W1 u -/
def KN {S : Type} (l : Launch) (D : va_G) (y : MethodName) (cc : ByteArray) (nL : Nat) (fr lo mc ms : Nat) (av : List Value) (ws : va_W) (ts : List (ClassId × FieldType)) (W1 : S → va_W) (T1 : S → List (ClassId × FieldType)) (post : S → Prop) : Prop :=
  ∀ sz : Nat, Met l y (.code y cc nL none :: gw_tbl) { frames := fr, cells := mc, slots := ms, locals := lo } (va_Pc av (NPre D ws ts sz)) (va_Qv post (NAt D W1 T1 (va_A ws sz)) (va_A ws sz)) mc ms (va_A ws sz)
def RN {S : Type} (Γ : GQ) (cc : ByteArray) (mc ms : Nat) (W1 : S → va_W) (T1 : S → List (ClassId × FieldType)) (post : S → Prop) : Prop := match Γ with
  | (p, l, e, R, s, m, args, below, meth, c, Q, D, A, H0, nL) => ∀ (u : S) (H : Heap) (locs : List Loc) (ls : Array Slot) (pc : Nat), va_K D vwCl (T1 u) s → va_P D vwCl (W1 u) H → va_D A (W1 u) → va_S A H0 H locs → post u → decode cc pc = .ok (.return_, 1) → W p l e R s m args below meth c H locs mc ms Q (F0 m pc ls [])
theorem KN.of {S : Type} {l : Launch} {D : va_G} {y : MethodName} {cc : ByteArray} {nL fr lo mc ms : Nat} {av : List Value} {ws : va_W} {ts : List (ClassId × FieldType)} {W1 : S → va_W} {T1 : S → List (ClassId × FieldType)} {post : S → Prop} (hy : plainName y.cls = true) (hL : (lg_sl av).length ≤ nL) (z : Nat)
    (body : ∀ Γ : GQ, CG Γ cc y.cls l D fr lo mc ms nL → (y.name = "<init>" → GIn Γ) → GE Γ → RN Γ cc mc ms W1 T1 post → GW Γ 0 (entL av ++ List.replicate z none) [] ws ts 0 0) : KN l D y cc nL fr lo mc ms av ws ts W1 T1 post := by
  intro sz
  refine Met.ofW (cc := cc) (maxL := nL) (ret := none) hy rfl ?_
  intro p e s m args below meth c s₁ B hml hv
  obtain ⟨rfl, hsz, hP, hK, hD0, hE⟩ := hv
  have hts := atoms_spec (ws := (.code y cc nL none :: gw_tbl)) B.pre
  subst hsz
  have hD := hD0.self (sz := s.heap.size)
  rw [lg_entry_eq]
  refine body (p, l, e, { frames := fr, cells := mc, slots := ms, locals := lo }, s, m, av.toArray, below, meth, c, _, D, va_A ws s.heap.size, s.heap, nL) ⟨⟨B.exec, B.bytes, hml, findClass_of_methodNamed B.named, fun w h => hts w (List.mem_cons_of_mem _ h)⟩, hE.1, fun q h => Or.inr h, rfl, rfl, Nat.le_refl _, Nat.le_refl _, Nat.le_refl _, Nat.le_refl _, rfl⟩ (fun hn => (name_of_methodNamed B.named B.method).1.trans hn) hE ?_ s.heap [] _ hK hP hD va_S.rf (LV.entry av hL z)
  intro u H locs ls pc hK' hP' hD' hS hp hd
  exact W.vret B.exec B.bytes B.returns (fun t ht hW => ⟨⟨u, rfl, hp, by rw [ht]; exact hP', va_K.moved hW.alike hK', hD'⟩, hS.F ht⟩) hS.2.2 hd B.notSynchronized
theorem join_app {A0 : Nat → Prop} {D : va_G} {cl : List vw_C} {X wc w1 : va_W} {H H1 : Heap} (hP : va_P D cl (X ++ wc) H) (hD : va_D A0 (X ++ wc)) (hk : ∀ q : Nat, q < H.size → ¬ va_A wc H.size q → H1[q]? = H[q]?) (hF : ∀ q, va_A wc H.size q → A0 q) (hP1 : va_P D cl w1 H1) (hD1 : va_D (va_A wc H.size) w1) : va_P D cl (X ++ w1) H1 ∧ va_D A0 (X ++ w1) := by
  have hl : ∀ (k : Nat) (q : Nat × va_E), X[k]? = some q → (X ++ wc)[k]? = some q := fun k q h => by
    rw [List.getElem?_append_left (List.getElem?_eq_some_iff.mp h).1]
    exact h
  have apart : ∀ (k : Nat) (q : Nat × va_E), X[k]? = some q → q.1 < H.size ∧ ¬ va_A wc H.size q.1 := by
    intro k q hq
    have hlt := (hP k q (hl k q hq)).lt
    refine ⟨hlt, fun h => ?_⟩
    rcases h with ⟨j, e, hj⟩ | h
    · have h2 : (X ++ wc)[X.length + j]? = some (q.1, e) := by
        rw [List.getElem?_append_right (by omega), show X.length + j - X.length = j by omega]
        exact hj
      have := hD.1 k (X.length + j) q (q.1, e) (hl k q hq) h2 rfl
      have := (List.getElem?_eq_some_iff.mp hq).1
      omega
    · omega
  have hPX : va_P D cl X H := fun k q h => hP k q (hl k q h)
  refine ⟨(hPX.kept (fun k x hx => hk x.1 (apart k x hx).1 (apart k x hx).2)).app hP1, va_D.app ⟨fun i j p q hp hq e => hD.1 i j p q (hl i p hp) (hl j q hq) e, fun k q h => hD.2 k q (hl k q h)⟩ (hD1.weaken (fun _ q _ h => hF q.1 h)) ?_⟩
  intro i j p q hp hq e
  have := apart i p hp
  rw [e] at this
  exact this.2 (hD1.2 j q hq)
theorem NPre.blind {D : va_G} {av : List Value} {ws : va_W} {ts : List (ClassId × FieldType)} {sz : Nat} : FrameBlind (va_Pc av (NPre D ws ts sz)) := fun a U g mk q => by
  obtain ⟨q0, q1, qP, qK, qD, qE⟩ := q
  exact ⟨q0, q1, qP, va_K.moved (u := U) (U := U.calling g mk a) (Vm.Alike.refl U.vm) qK, qD, EG.same (s := U) (U := U.calling g mk a) rfl qE⟩
section KNR
variable {Γ : GQ} {cc : ByteArray} {own : String} {l0 : Launch} {D0 : va_G} {fr lo mc ms nL0 : Nat} {pc : Nat} {vs : List (Option Value)} {st : List Value} {ws : va_W} {ts : List (ClassId × FieldType)} {kc ks : Nat}
theorem g_vret {S : Type} {W1 : S → va_W} {T1 : S → List (ClassId × FieldType)} {post : S → Prop} (Rt : RN Γ cc mc ms W1 T1 post) (u : S) (hd : decode cc pc = .ok (.return_, 1)) (h1 : kc ≤ mc) (h2 : ks ≤ ms) (hw : ws = W1 u) (ht : ts = T1 u) (hp : post u) : GW Γ pc vs [] ws ts kc ks := by
  obtain ⟨p, l, e, R, s, m, args, below, meth, c, Q, D, A, H0, nL⟩ := Γ
  intro H locs ls hK hP hD hS hl
  subst hw ht
  exact W.widen h1 h2 (Rt u H locs ls pc hK hP hD hS hp hd)
theorem g_eq {ws1 : va_W} {ts1 : List (ClassId × FieldType)} {kc1 ks1 : Nat} (hw : ws = ws1) (ht : ts = ts1) (hk : kc = kc1) (hs : ks = ks1) (k : GW Γ pc vs st ws1 ts1 kc1 ks1) : GW Γ pc vs st ws ts kc ks := by
  subst hw ht hk hs
  exact k
/-- fewer cells, another order: what is told of the world may be told again otherwise -/
theorem g_by {ws1 : va_W} {ts1 : List (ClassId × FieldType)} (hP1 : ∀ (D : va_G) (H : Heap), va_P D vwCl ws H → va_P D vwCl ws1 H) (hD1 : ∀ A : Nat → Prop, va_D A ws → va_D A ws1) (hK1 : ∀ (D : va_G) (s : State), va_K D vwCl ts s → va_K D vwCl ts1 s) (k : GW Γ pc vs st ws1 ts1 kc ks) : GW Γ pc vs st ws ts kc ks := by
  obtain ⟨p, l, e, R, s, m, args, below, meth, c, Q, D, A, H0, nL⟩ := Γ
  intro H locs ls hK hP hD hS hl
  exact k H locs ls (hK1 _ _ hK) (hP1 _ _ hP) (hD1 _ hD) hS hl
/-- the words of a constructor -/
def MN (y : MethodName) (cc : ByteArray) (nL : Nat) (n : Nat) : Prop := Cond.instanceMethod y ∈ gw_tbl ∧ Cond.initialized y.cls ∈ gw_tbl ∧ Cond.code y cc nL none ∈ gw_tbl ∧ y.name = "<init>" ∧ (y.cls ≠ "java/lang/invoke/MethodHandle" ∧ y.cls ≠ "java/lang/invoke/VarHandle" ∧ (parseMethodDescriptor y.desc).map (fun d => d.parameters.length) = some n)
theorem fr_app {A : Nat → Prop} {X wc : va_W} {H0 H : Heap} {locs : List Loc} (hD : va_D A (X ++ wc)) (hS : va_S A H0 H locs) (hA : ∀ q, H0.size ≤ q → A q) : ∀ q, va_A wc H.size q → A q := fun q h => by
  rcases h with ⟨k, e, h⟩ | h
  · refine hD.2 (X.length + k) (q, e) ?_
    rw [List.getElem?_append_right (by omega), show X.length + k - X.length = k by omega]
    exact h
  · exact hA q (Nat.le_trans hS.1 h)
theorem va_K.nil {D : va_G} {t1 : List (ClassId × FieldType)} {U : State} (h : va_K D vwCl t1 U) : va_K D vwCl [] U := ⟨h.1, fun k q hk => by simp at hk⟩
theorem g_initN (C : CG Γ cc own l0 D0 fr lo mc ms nL0) (hG : GE Γ) {S : Type} {y : MethodName} {cc' : ByteArray} {nL' fr' lo' mc' ms' ix a : Nat} {host : String} {e0 : va_E} {X : va_W} {W1 : S → va_W} {T1 : S → List (ClassId × FieldType)} {post : S → Prop} (hM : KN l0 D0 y cc' nL' fr' lo' mc' ms' [.ref a] [(a, e0)] [] W1 T1 post) (hw : MN y cc' nL' 0) (hnl : (own, ix, y, host) ∈ nestL) (hws : ws = X ++ [(a, e0)]) (hf1 : fr' + 1 ≤ fr) (hl1 : 8 + (nL' + 11) + lo' ≤ lo) (h1 : kc + mc' ≤ mc) (h2 : ks + ms' ≤ ms) (hcat : (st.map fun v => v.category).sum ≤ 8) (hd : decode cc pc = .ok (.invokespecial ix, 3)) (k : ∀ u : S, post u → GW Γ (pc + 3) vs st (X ++ W1 u) (ts ++ T1 u) (kc + mc') (ks + ms')) : GW Γ pc vs (.ref a :: st) ws ts kc ks := by
  obtain ⟨p, l, e, R, s, m, args, below, meth, c, Q, D, A, H0, nL⟩ := Γ
  obtain ⟨⟨hx, hb, hml, hown, hts⟩, hE, hA0, rfl, rfl, hfr, hlo, hmc, hms, rfl⟩ := C
  intro H locs ls hK hP hD hS hl
  have hG : EG s := hG
  obtain ⟨w1, w3, w4, w5, w6⟩ := hw
  subst hws
  have hFc := fr_app hD hS hA0
  have hPc : va_P D vwCl [(a, e0)] H := fun k q h => hP (X.length + k) q (by rw [List.getElem?_append_right (by omega), show X.length + k - X.length = k by omega]; exact h)
  have hDc : va_D A [(a, e0)] := ⟨fun i j p q hp hq _ => by
    have h3 := (List.getElem?_eq_some_iff.mp hp).1
    have h4 := (List.getElem?_eq_some_iff.mp hq).1
    simp at h3 h4
    omega, fun k q h => hD.2 (X.length + k) q (by rw [List.getElem?_append_right (by omega), show X.length + k - X.length = k by omega]; exact h)⟩
  refine va_callv (va_runIN (As := []) (rest := st) ⟨hx, hb, hml, hown, hts⟩ (hM H.size) ⟨va_cnB 0 hts (lw_goodIn (fun w h => (List.mem_cons.mp h).elim (fun e => e ▸ w4) id)) rfl rfl rfl (hE _ hnl) (hts _ w3) w6 ⟨Nat.le_trans hf1 hfr, Nat.le_trans hl1 hlo⟩, w5, hts _ w1⟩ ⟨NPre.blind, fun U hU hW => ⟨rfl, by rw [hU], by rw [hU]; exact hPc, va_K.moved hW.alike hK.nil, hDc.weaken (fun _ _ _ _ => trivial), EG.warm hW hG⟩⟩ rfl rfl hl.1 rfl (lv_room hcat) hd ⟨Nat.le_trans h1 hmc, Nat.le_trans h2 hms⟩) hS (fun q _ h => hFc q h) hFc (fun u t H1 locs1 ht hvm hw hB hz1 hk1 hS1 => ?_)
  obtain ⟨hP1, hK1, hD1⟩ := hB
  rw [ht] at hP1
  have hK1 := va_K.moved hvm.symm hK1
  obtain ⟨hP2, hD2⟩ := join_app hP hD hk1 hFc hP1 hD1
  exact k u hw H1 locs1 ls (hK.app hK1) hP2 hD2 hS1 hl
theorem g_initI (C : CG Γ cc own l0 D0 fr lo mc ms nL0) (hG : GE Γ) {S : Type} {y : MethodName} {cc' : ByteArray} {nL' fr' lo' mc' ms' ix a : Nat} {host : String} {e0 : va_E} {X : va_W} {W1 : S → va_W} {T1 : S → List (ClassId × FieldType)} {post : S → Prop} (hM : KN l0 D0 y cc' nL' fr' lo' mc' ms' [.ref a] [(a, e0)] [] W1 T1 post) (hw : MN y cc' nL' 0) (hml2 : Cond.methodLink own ix y ∈ gw_tbl) (hws : ws = X ++ [(a, e0)]) (hf1 : fr' + 1 ≤ fr) (hl1 : 8 + (nL' + 11) + lo' ≤ lo) (h1 : kc + mc' ≤ mc) (h2 : ks + ms' ≤ ms) (hcat : (st.map fun v => v.category).sum ≤ 8) (hd : decode cc pc = .ok (.invokespecial ix, 3)) (k : ∀ u : S, post u → GW Γ (pc + 3) vs st (X ++ W1 u) (ts ++ T1 u) (kc + mc') (ks + ms')) : GW Γ pc vs (.ref a :: st) ws ts kc ks := by
  obtain ⟨p, l, e, R, s, m, args, below, meth, c, Q, D, A, H0, nL⟩ := Γ
  obtain ⟨⟨hx, hb, hml, hown, hts⟩, hE, hA0, rfl, rfl, hfr, hlo, hmc, hms, rfl⟩ := C
  intro H locs ls hK hP hD hS hl
  have hG : EG s := hG
  obtain ⟨w1, w3, w4, w5, w6⟩ := hw
  subst hws
  have hFc := fr_app hD hS hA0
  have hPc : va_P D vwCl [(a, e0)] H := fun k q h => hP (X.length + k) q (by rw [List.getElem?_append_right (by omega), show X.length + k - X.length = k by omega]; exact h)
  have hDc : va_D A [(a, e0)] := ⟨fun i j p q hp hq _ => by
    have h3 := (List.getElem?_eq_some_iff.mp hp).1
    have h4 := (List.getElem?_eq_some_iff.mp hq).1
    simp at h3 h4
    omega, fun k q h => hD.2 (X.length + k) q (by rw [List.getElem?_append_right (by omega), show X.length + k - X.length = k by omega]; exact h)⟩
  refine va_callv (va_runI (As := []) (rest := st) ⟨hx, hb, hml, hown, hts⟩ (hM H.size) (cwI 0 hts (lw_goodIn (fun w h => (List.mem_cons.mp h).elim (fun e => e ▸ w4) id)) rfl rfl rfl (hts _ w3) (hts _ hml2) (hts _ w1) w5 w6 ⟨Nat.le_trans hf1 hfr, Nat.le_trans hl1 hlo⟩) ⟨NPre.blind, fun U hU hW => ⟨rfl, by rw [hU], by rw [hU]; exact hPc, va_K.moved hW.alike hK.nil, hDc.weaken (fun _ _ _ _ => trivial), EG.warm hW hG⟩⟩ rfl rfl hl.1 rfl (lv_room hcat) hd ⟨Nat.le_trans h1 hmc, Nat.le_trans h2 hms⟩) hS (fun q _ h => hFc q h) hFc (fun u t H1 locs1 ht hvm hw hB hz1 hk1 hS1 => ?_)
  obtain ⟨hP1, hK1, hD1⟩ := hB
  rw [ht] at hP1
  have hK1 := va_K.moved hvm.symm hK1
  obtain ⟨hP2, hD2⟩ := join_app hP hD hk1 hFc hP1 hD1
  exact k u hw H1 locs1 ls (hK.app hK1) hP2 hD2 hS1 hl
end KNR

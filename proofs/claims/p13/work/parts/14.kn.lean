/-! contracts of constructors: what is made, and where it stands -/
theorem va_AOA.spec {s : State} (h : va_AOA .int s) : ∃ comp c k, s.vm.findClass (FieldType.array .int).toString = some comp ∧ (s.vm.classes.findIdx? fun (x : Class) => match x.kind with | .array component _ => component == comp | _ => false) = some c ∧ s.vm.classes[c]? = some k ∧ k.kind = .array comp (.array .int) ∧ s.vm.findClass ("[" ++ (FieldType.array .int).toString) = some c := by
  unfold va_AOA Cond.before at h
  simp only [Cond.holds, Cond.value, beq_iff_eq] at h
  cases hc : s.vm.findClass (FieldType.array .int).toString with
  | none => simp [hc] at h
  | some comp =>
    simp only [hc, Option.bind_some, Option.bind_eq_some_iff, Option.map_eq_some_iff] at h
    obtain ⟨c, hi, k, hk, hb⟩ := h
    obtain ⟨hlt, hp, -⟩ := Array.findIdx?_eq_some_iff_getElem.mp hi
    have hkk : s.vm.classes[c] = k := (Array.getElem?_eq_some_iff.mp hk).2
    rw [hkk] at hp
    cases hkind : k.kind with
    | array component ty =>
      rw [hkind] at hb hp
      simp at hb hp
      exact ⟨comp, c, k, rfl, hi, hk, by rw [hkind, hp, hb.1], hb.2⟩
    | _ => rw [hkind] at hb; simp at hb
theorem va_AOA.moved {u U : State} (hvm : u.vm.Alike U.vm) (h : va_AOA .int u) : va_AOA .int U := by
  obtain ⟨comp, c, k, h1, h2, h3, h4, h5⟩ := va_AOA.spec h
  obtain ⟨k', hk', he⟩ := hvm.2.2 _ _ h3
  have hi : (U.vm.classes.findIdx? fun (x : Class) => match x.kind with | .array component _ => component == comp | _ => false) = some c := by
    have e1 := va_idx_bare U.vm comp
    have e2 := va_idx_bare u.vm comp
    have e3 : U.vm.bare = u.vm.bare := by first | exact hvm.bare_eq | exact hvm.bare_eq.symm
    rw [e3] at e1
    exact e1.symm.trans (e2.trans h2)
  have hkind : k'.kind = .array comp (.array .int) := by rw [he]; exact h4
  have f1 : U.vm.findClass (FieldType.array .int).toString = some comp := by rw [hvm.findClass]; exact h1
  have f2 : U.vm.findClass ("[" ++ (FieldType.array .int).toString) = some c := by rw [hvm.findClass]; exact h5
  unfold va_AOA Cond.before Cond.holds
  simp only [Cond.value]
  rw [f1, Option.bind_some]
  refine (congrArg (fun o : Option Nat => (o.bind (fun c => (U.vm.classes[c]?).map fun (k : Class) => match k.kind with | .array _ ty => decide (ty = FieldType.array .int) && decide (U.vm.findClass ("[" ++ (FieldType.array .int).toString) = some c) | _ => false) == some true)) hi).trans ?_
  simp [hk', hkind, f2]
/-- the rest of what a constructor needs of the machine -/
def EG (U : State) : Prop := EN U ∧ va_AO RX0 U ∧ va_AOA .int U
theorem EG.warm {s U : State} (hW : s.WarmedH U.vm) (h : EG s) : EG U := ⟨h.1.warm hW, va_AO.moved hW.alike h.2.1, va_AOA.moved hW.alike h.2.2⟩
theorem EG.same {s U : State} (hv : s.vm = U.vm) (h : EG s) : EG U := ⟨h.1.same hv, va_AO.moved (hv ▸ Vm.Alike.refl s.vm) h.2.1, va_AOA.moved (hv ▸ Vm.Alike.refl s.vm) h.2.2⟩
def GE (Γ : GQ) : Prop := match Γ with
  | (p, l, e, R, s, m, args, below, meth, c, Q, D, A, H0, nL) => EG s
def NPre (D : va_G) (ws : va_W) (ts : List (ClassId × FieldType)) (sz : Nat) (V : State) : Prop := V.heap.size = sz ∧ va_P D vwCl ws V.heap ∧ va_K D vwCl ts V ∧ va_D (fun _ => True) ws ∧ EG V
def NAt {S : Type} (D : va_G) (W1 : S → va_W) (T1 : S → List (ClassId × FieldType)) (A : Nat → Prop) (u : S) (t : State) : Prop := va_P D vwCl (W1 u) t.heap ∧ va_K D vwCl (T1 u) t ∧ va_D A (W1 u)
/-- y, called with av in the world ws, makes mc cells of ms places, and leaves a world W1 u -/
def KN {S : Type} (l : Launch) (D : va_G) (y : MethodName) (cc : ByteArray) (nL : Nat) (fr lo mc ms : Nat) (av : List Value) (ws : va_W) (ts : List (ClassId × FieldType)) (W1 : S → va_W) (T1 : S → List (ClassId × FieldType)) (post : S → Prop) : Prop :=
  ∀ sz : Nat, Met l y (.code y cc nL none :: gw_tbl) { frames := fr, cells := mc, slots := ms, locals := lo } (va_Pc av (NPre D ws ts sz)) (va_Qv post (NAt D W1 T1 (va_A ws sz)) (va_A ws sz)) mc ms (va_A ws sz)
def RN {S : Type} (Γ : GQ) (cc : ByteArray) (mc ms : Nat) (W1 : S → va_W) (T1 : S → List (ClassId × FieldType)) (post : S → Prop) : Prop := match Γ with
  | (p, l, e, R, s, m, args, below, meth, c, Q, D, A, H0, nL) => ∀ (u : S) (H : Heap) (locs : List Loc) (ls : Array Slot) (pc : Nat), va_K D vwCl (T1 u) s → va_P D vwCl (W1 u) H → va_D A (W1 u) → va_S A H0 H locs → post u → decode cc pc = .ok (.return_, 1) → W p l e R s m args below meth c H locs mc ms Q (F0 m pc ls [])
theorem KN.of {S : Type} {l : Launch} {D : va_G} {y : MethodName} {cc : ByteArray} {nL fr lo mc ms : Nat} {av : List Value} {ws : va_W} {ts : List (ClassId × FieldType)} {W1 : S → va_W} {T1 : S → List (ClassId × FieldType)} {post : S → Prop} (hy : plainName y.cls = true) (hL : (lg_sl av).length ≤ nL) (z : Nat)
    (body : ∀ Γ : GQ, CG Γ cc y.cls l D fr lo mc ms nL → (y.name = "<init>" → GIn Γ) → GE Γ → RN Γ cc mc ms W1 T1 post → GW Γ 0 (entL av ++ List.replicate z none) [] ws ts 0 0) : KN l D y cc nL fr lo mc ms av ws ts W1 T1 post := by
  intro sz
  refine Met.ofW (cc := cc) (maxL := nL) (ret := none) hy rfl ?_
  intro p e s m args below meth c s₁ B hml hv
  obtain ⟨rfl, hsz, hP, hK, hD0, hE⟩ := hv
  have hts := atoms_spec (ws := (.code y cc nL none :: gw_tbl)) B.pre
  subst hsz
  have hD := hD0.self (sz := s.heap.size)
  rw [lg_entry_eq]
  refine body (p, l, e, { frames := fr, cells := mc, slots := ms, locals := lo }, s, m, av.toArray, below, meth, c, _, D, va_A ws s.heap.size, s.heap, nL) ⟨⟨B.exec, B.bytes, hml, findClass_of_methodNamed B.named, fun w h => hts w (List.mem_cons_of_mem _ h)⟩, hE.1, fun q h => Or.inr h, rfl, rfl, Nat.le_refl _, Nat.le_refl _, Nat.le_refl _, Nat.le_refl _, rfl⟩ (fun hn => (name_of_methodNamed B.named B.method).1.trans hn) hE ?_ s.heap [] _ hK hP hD va_S.rf (LV.entry av hL z)
  intro u H locs ls pc hK' hP' hD' hS hp hd
  exact W.vret B.exec B.bytes B.returns (fun t ht hW => ⟨⟨u, rfl, hp, by rw [ht]; exact hP', va_K.moved hW.alike hK', hD'⟩, hS.F ht⟩) hS.2.2 hd B.notSynchronized
theorem join_app {A0 : Nat → Prop} {D : va_G} {cl : List vw_C} {X wc w1 : va_W} {H H1 : Heap} (hP : va_P D cl (X ++ wc) H) (hD : va_D A0 (X ++ wc)) (hk : ∀ q : Nat, q < H.size → ¬ va_A wc H.size q → H1[q]? = H[q]?) (hF : ∀ q, va_A wc H.size q → A0 q) (hP1 : va_P D cl w1 H1) (hD1 : va_D (va_A wc H.size) w1) : va_P D cl (X ++ w1) H1 ∧ va_D A0 (X ++ w1) := by
  have hl : ∀ (k : Nat) (q : Nat × va_E), X[k]? = some q → (X ++ wc)[k]? = some q := fun k q h => by
    rw [List.getElem?_append_left (List.getElem?_eq_some_iff.mp h).1]
    exact h
  have apart : ∀ (k : Nat) (q : Nat × va_E), X[k]? = some q → q.1 < H.size ∧ ¬ va_A wc H.size q.1 := by
    intro k q hq
    have hlt := (hP k q (hl k q hq)).lt
    refine ⟨hlt, fun h => ?_⟩
    rcases h with ⟨j, e, hj⟩ | h
    · have h2 : (X ++ wc)[X.length + j]? = some (q.1, e) := by
        rw [List.getElem?_append_right (by omega), show X.length + j - X.length = j by omega]
        exact hj
      have := hD.1 k (X.length + j) q (q.1, e) (hl k q hq) h2 rfl
      have := (List.getElem?_eq_some_iff.mp hq).1
      omega
    · omega
  have hPX : va_P D cl X H := fun k q h => hP k q (hl k q h)
  refine ⟨(hPX.kept (fun k x hx => hk x.1 (apart k x hx).1 (apart k x hx).2)).app hP1, va_D.app ⟨fun i j p q hp hq e => hD.1 i j p q (hl i p hp) (hl j q hq) e, fun k q h => hD.2 k q (hl k q h)⟩ (hD1.weaken (fun _ q _ h => hF q.1 h)) ?_⟩
  intro i j p q hp hq e
  have := apart i p hp
  rw [e] at this
  exact this.2 (hD1.2 j q hq)
theorem NPre.blind {D : va_G} {av : List Value} {ws : va_W} {ts : List (ClassId × FieldType)} {sz : Nat} : FrameBlind (va_Pc av (NPre D ws ts sz)) := fun a U g mk q => by
  obtain ⟨q0, q1, qP, qK, qD, qE⟩ := q
  exact ⟨q0, q1, qP, va_K.moved (u := U) (U := U.calling g mk a) (Vm.Alike.refl U.vm) qK, qD, EG.same (s := U) (U := U.calling g mk a) rfl qE⟩
section KNR
variable {Γ : GQ} {cc : ByteArray} {own : String} {l0 : Launch} {D0 : va_G} {fr lo mc ms nL0 : Nat} {pc : Nat} {vs : List (Option Value)} {st : List Value} {ws : va_W} {ts : List (ClassId × FieldType)} {kc ks : Nat}
theorem g_vret {S : Type} {W1 : S → va_W} {T1 : S → List (ClassId × FieldType)} {post : S → Prop} (Rt : RN Γ cc mc ms W1 T1 post) (u : S) (hd : decode cc pc = .ok (.return_, 1)) (h1 : kc ≤ mc) (h2 : ks ≤ ms) (hw : ws = W1 u) (ht : ts = T1 u) (hp : post u) : GW Γ pc vs [] ws ts kc ks := by
  obtain ⟨p, l, e, R, s, m, args, below, meth, c, Q, D, A, H0, nL⟩ := Γ
  intro H locs ls hK hP hD hS hl
  subst hw ht
  exact W.widen h1 h2 (Rt u H locs ls pc hK hP hD hS hp hd)
theorem g_eq {ws1 : va_W} {ts1 : List (ClassId × FieldType)} {kc1 ks1 : Nat} (hw : ws = ws1) (ht : ts = ts1) (hk : kc = kc1) (hs : ks = ks1) (k : GW Γ pc vs st ws1 ts1 kc1 ks1) : GW Γ pc vs st ws ts kc ks := by
  subst hw ht hk hs
  exact k
/-- fewer cells, another order: what is told of the world may be told again otherwise -/
theorem g_by {ws1 : va_W} {ts1 : List (ClassId × FieldType)} (hP1 : ∀ (D : va_G) (H : Heap), va_P D vwCl ws H → va_P D vwCl ws1 H) (hD1 : ∀ A : Nat → Prop, va_D A ws → va_D A ws1) (hK1 : ∀ (D : va_G) (s : State), va_K D vwCl ts s → va_K D vwCl ts1 s) (k : GW Γ pc vs st ws1 ts1 kc ks) : GW Γ pc vs st ws ts kc ks := by
  obtain ⟨p, l, e, R, s, m, args, below, meth, c, Q, D, A, H0, nL⟩ := Γ
  intro H locs ls hK hP hD hS hl
  exact k H locs ls (hK1 _ _ hK) (hP1 _ _ hP) (hD1 _ hD) hS hl
/-- the words of a constructor -/
def MN (y : MethodName) (cc : ByteArray) (nL : Nat) (n : Nat) : Prop := Cond.instanceMethod y ∈ gw_tbl ∧ Cond.initialized y.cls ∈ gw_tbl ∧ Cond.code y cc nL none ∈ gw_tbl ∧ y.name = "<init>" ∧ (y.cls ≠ "java/lang/invoke/MethodHandle" ∧ y.cls ≠ "java/lang/invoke/VarHandle" ∧ (parseMethodDescriptor y.desc).map (fun d => d.parameters.length) = some n)
theorem fr_app {A : Nat → Prop} {X wc : va_W} {H0 H : Heap} {locs : List Loc} (hD : va_D A (X ++ wc)) (hS : va_S A H0 H locs) (hA : ∀ q, H0.size ≤ q → A q) : ∀ q, va_A wc H.size q → A q := fun q h => by
  rcases h with ⟨k, e, h⟩ | h
  · refine hD.2 (X.length + k) (q, e) ?_
    rw [List.getElem?_append_right (by omega), show X.length + k - X.length = k by omega]
    exact h
  · exact hA q (Nat.le_trans hS.1 h)
theorem va_K.nil {D : va_G} {t1 : List (ClassId × FieldType)} {U : State} (h : va_K D vwCl t1 U) : va_K D vwCl [] U := ⟨h.1, fun k q hk => by simp at hk⟩
theorem g_initN (C : CG Γ cc own l0 D0 fr lo mc ms nL0) (hG : GE Γ) {S : Type} {y : MethodName} {cc' : ByteArray} {nL' fr' lo' mc' ms' ix a : Nat} {host : String} {e0 : va_E} {X : va_W} {W1 : S → va_W} {T1 : S → List (ClassId × FieldType)} {post : S → Prop} (hM : KN l0 D0 y cc' nL' fr' lo' mc' ms' [.ref a] [(a, e0)] [] W1 T1 post) (hw : MN y cc' nL' 0) (hnl : (own, ix, y, host) ∈ nestL) (hws : ws = X ++ [(a, e0)]) (hf1 : fr' + 1 ≤ fr) (hl1 : 8 + (nL' + 11) + lo' ≤ lo) (h1 : kc + mc' ≤ mc) (h2 : ks + ms' ≤ ms) (hcat : (st.map fun v => v.category).sum ≤ 8) (hd : decode cc pc = .ok (.invokespecial ix, 3)) (k : ∀ u : S, post u → GW Γ (pc + 3) vs st (X ++ W1 u) (ts ++ T1 u) (kc + mc') (ks + ms')) : GW Γ pc vs (.ref a :: st) ws ts kc ks := by
  obtain ⟨p, l, e, R, s, m, args, below, meth, c, Q, D, A, H0, nL⟩ := Γ
  obtain ⟨⟨hx, hb, hml, hown, hts⟩, hE, hA0, rfl, rfl, hfr, hlo, hmc, hms, rfl⟩ := C
  intro H locs ls hK hP hD hS hl
  have hG : EG s := hG
  obtain ⟨w1, w3, w4, w5, w6⟩ := hw
  subst hws
  have hFc := fr_app hD hS hA0
  have hPc : va_P D vwCl [(a, e0)] H := fun k q h => hP (X.length + k) q (by rw [List.getElem?_append_right (by omega), show X.length + k - X.length = k by omega]; exact h)
  have hDc : va_D A [(a, e0)] := ⟨fun i j p q hp hq _ => by
    have h3 := (List.getElem?_eq_some_iff.mp hp).1
    have h4 := (List.getElem?_eq_some_iff.mp hq).1
    simp at h3 h4
    omega, fun k q h => hD.2 (X.length + k) q (by rw [List.getElem?_append_right (by omega), show X.length + k - X.length = k by omega]; exact h)⟩
  refine va_callv (va_runIN (As := []) (rest := st) ⟨hx, hb, hml, hown, hts⟩ (hM H.size) ⟨va_cnB 0 hts (lw_goodIn (fun w h => (List.mem_cons.mp h).elim (fun e => e ▸ w4) id)) rfl rfl rfl (hE _ hnl) (hts _ w3) w6 ⟨Nat.le_trans hf1 hfr, Nat.le_trans hl1 hlo⟩, w5, hts _ w1⟩ ⟨NPre.blind, fun U hU hW => ⟨rfl, by rw [hU], by rw [hU]; exact hPc, va_K.moved hW.alike hK.nil, hDc.weaken (fun _ _ _ _ => trivial), EG.warm hW hG⟩⟩ rfl rfl hl.1 rfl (lv_room hcat) hd ⟨Nat.le_trans h1 hmc, Nat.le_trans h2 hms⟩) hS (fun q _ h => hFc q h) hFc (fun u t H1 locs1 ht hvm hw hB hz1 hk1 hS1 => ?_)
  obtain ⟨hP1, hK1, hD1⟩ := hB
  rw [ht] at hP1
  have hK1 := va_K.moved hvm.symm hK1
  obtain ⟨hP2, hD2⟩ := join_app hP hD hk1 hFc hP1 hD1
  exact k u hw H1 locs1 ls (hK.app hK1) hP2 hD2 hS1 hl
theorem g_initI (C : CG Γ cc own l0 D0 fr lo mc ms nL0) (hG : GE Γ) {S : Type} {y : MethodName} {cc' : ByteArray} {nL' fr' lo' mc' ms' ix a : Nat} {host : String} {e0 : va_E} {X : va_W} {W1 : S → va_W} {T1 : S → List (ClassId × FieldType)} {post : S → Prop} (hM : KN l0 D0 y cc' nL' fr' lo' mc' ms' [.ref a] [(a, e0)] [] W1 T1 post) (hw : MN y cc' nL' 0) (hml2 : Cond.methodLink own ix y ∈ gw_tbl) (hws : ws = X ++ [(a, e0)]) (hf1 : fr' + 1 ≤ fr) (hl1 : 8 + (nL' + 11) + lo' ≤ lo) (h1 : kc + mc' ≤ mc) (h2 : ks + ms' ≤ ms) (hcat : (st.map fun v => v.category).sum ≤ 8) (hd : decode cc pc = .ok (.invokespecial ix, 3)) (k : ∀ u : S, post u → GW Γ (pc + 3) vs st (X ++ W1 u) (ts ++ T1 u) (kc + mc') (ks + ms')) : GW Γ pc vs (.ref a :: st) ws ts kc ks := by
  obtain ⟨p, l, e, R, s, m, args, below, meth, c, Q, D, A, H0, nL⟩ := Γ
  obtain ⟨⟨hx, hb, hml, hown, hts⟩, hE, hA0, rfl, rfl, hfr, hlo, hmc, hms, rfl⟩ := C
  intro H locs ls hK hP hD hS hl
  have hG : EG s := hG
  obtain ⟨w1, w3, w4, w5, w6⟩ := hw
  subst hws
  have hFc := fr_app hD hS hA0
  have hPc : va_P D vwCl [(a, e0)] H := fun k q h => hP (X.length + k) q (by rw [List.getElem?_append_right (by omega), show X.length + k - X.length = k by omega]; exact h)
  have hDc : va_D A [(a, e0)] := ⟨fun i j p q hp hq _ => by
    have h3 := (List.getElem?_eq_some_iff.mp hp).1
    have h4 := (List.getElem?_eq_some_iff.mp hq).1
    simp at h3 h4
    omega, fun k q h => hD.2 (X.length + k) q (by rw [List.getElem?_append_right (by omega), show X.length + k - X.length = k by omega]; exact h)⟩
  refine va_callv (va_runI (As := []) (rest := st) ⟨hx, hb, hml, hown, hts⟩ (hM H.size) (cwI 0 hts (lw_goodIn (fun w h => (List.mem_cons.mp h).elim (fun e => e ▸ w4) id)) rfl rfl rfl (hts _ w3) (hts _ hml2) (hts _ w1) w5 w6 ⟨Nat.le_trans hf1 hfr, Nat.le_trans hl1 hlo⟩) ⟨NPre.blind, fun U hU hW => ⟨rfl, by rw [hU], by rw [hU]; exact hPc, va_K.moved hW.alike hK.nil, hDc.weaken (fun _ _ _ _ => trivial), EG.warm hW hG⟩⟩ rfl rfl hl.1 rfl (lv_room hcat) hd ⟨Nat.le_trans h1 hmc, Nat.le_trans h2 hms⟩) hS (fun q _ h => hFc q h) hFc (fun u t H1 locs1 ht hvm hw hB hz1 hk1 hS1 => ?_)
  obtain ⟨hP1, hK1, hD1⟩ := hB
  rw [ht] at hP1
  have hK1 := va_K.moved hvm.symm hK1
  obtain ⟨hP2, hD2⟩ := join_app hP hD hk1 hFc hP1 hD1
  exact k u hw H1 locs1 ls (hK.app hK1) hP2 hD2 hS1 hl
end KNR
/-! ===== BEGIN new T[n][m]: the outer array a place, the inner ones among the pooled ===== -/
/-- f, but v at every address of l -/
def vr_up {α : Type} (f : Nat → α) (l : List Nat) (v : α) : Nat → α := fun a => if a ∈ l then v else f a
theorem vr_up_in {α : Type} {f : Nat → α} {l : List Nat} {v : α} {a : Nat} (h : a ∈ l) : vr_up f l v a = v := if_pos h
theorem vr_up_ne {α : Type} {f : Nat → α} {l : List Nat} {v : α} {a : Nat} (h : a ∉ l) : vr_up f l v a = f a := if_neg h
theorem vr_rows {L l : List Nat} {f : Nat → va_E} {e : va_E} (h : ∀ a, a ∈ l → a ∉ L) : va_pl L f ++ l.map (fun a => (a, e)) = va_pl (L ++ l) (vr_up f l e) := by
  unfold va_pl
  rw [List.map_append]
  congr 1
  · apply List.map_congr_left
    intro a ha
    rw [vr_up_ne (fun q => h a q ha)]
  · apply List.map_congr_left
    intro a ha
    rw [vr_up_in ha]
theorem vr_lay {X rows : va_W} {x : Nat × va_E} {pl : va_W} {D : va_G} {cl : List vw_C} {H : Heap} (hP : va_P D cl (((X ++ pl) ++ [x]) ++ rows) H) : va_P D cl ((X ++ [x]) ++ (pl ++ rows)) H := by
  rw [List.append_assoc (X ++ pl)] at hP
  have h := va_P.swap hP
  rw [← List.append_assoc X] at h
  have h2 := va_P.swap h
  rw [List.append_assoc (X ++ [x])] at h2
  exact h2
theorem vr_layD {X rows : va_W} {x : Nat × va_E} {pl : va_W} {A : Nat → Prop} (hD : va_D A (((X ++ pl) ++ [x]) ++ rows)) : va_D A ((X ++ [x]) ++ (pl ++ rows)) := by
  rw [List.append_assoc (X ++ pl)] at hD
  have h := va_D.swap hD
  rw [← List.append_assoc X] at h
  have h2 := va_D.swap h
  rw [List.append_assoc (X ++ [x])] at h2
  exact h2
theorem vr_outer (c : ClassId) (N h0 : Nat) : ∀ i : Nat, Jvm.Free.Multi.outerC c N h0 i = arrV c N (fun j => va_rf (if j < i then some (h0 + 1 + j) else none))
  | 0 => by
    show ({ cls := c, slots := Array.replicate N .null, vm := .none } : Cell) = _
    rw [arrV_new]
    refine congrArg (arrV c N) (funext fun j => ?_)
    simp [va_rf]
  | i + 1 => by
    show (Jvm.Free.Multi.outerC c N h0 i).setSlot i (.ref (h0 + 1 + i)) = _
    rw [vr_outer c N h0 i, arrV_store]
    refine congrArg (arrV c N) (funext fun j => ?_)
    by_cases e : j = i
    · subst e
      simp [updV, va_rf]
    · by_cases h : j < i
      · simp [updV, e, h, Nat.lt_succ_of_lt h]
      · simp [updV, e, h, show ¬ j < i + 1 by omega]
section VGM
variable {p : Program} {l : Launch} {e : Env} {R : Room} {s : State} {m : MethodId} {args : Array Value} {below : List Frame} {meth : Method} {c : Code} {H : Heap} {locs : List Loc} {cells slots : Nat} {Q : State → Prop}
variable {cc : ByteArray} {pc : Nat} {ls : Array Slot} {rest : List Value} {D : va_G} {cl : List vw_C} {A : Nat → Prop} {a : Nat} {tys : List (ClassId × FieldType)} {ws : va_W} {H0 : Heap}
theorem va_mna {X : va_W} {L : List Nat} {f : Nat → va_E} {cc : ByteArray} (hexec : p.tables.exec = Jvm.exec) (hb : c.code = cc) {own : String} {index : Nat} {ty : FieldType} {cy : ClassId} (hown : s.vm.findClass own = some m.cls) (hclink : (Cond.classLink own index ("[" ++ (FieldType.array ty).toString)).before args s = true) (hover : va_AOA ty s) (harr : (Cond.arrayClass ty).before args s = true) (hcy : s.vm.findClass (FieldType.array ty).toString = some cy)
    (hK : va_K D cl tys s) (hP : va_P D cl (X ++ va_pl L f) H) (hD : va_D A (X ++ va_pl L f)) (hS : va_S A H0 H locs) (hA : ∀ q, H0.size ≤ q → A q) {n k : Int32} {N' K' : Nat} {z : vp_A} (hn : ¬ n < 0) (hk : ¬ k < 0) (hN : n.toNatClampNeg = N') (hM : k.toNatClampNeg = K')
    (hb1 : N' * 4 ≤ 536870912) (hb2 : K' * componentBytes ty ≤ 536870912) (hb3 : K' ≤ 536870912) (hdf : fits ty (defaultValue ty) = true) (hdd : (defaultValue ty).isDefault = true) (hcells : cells + (1 + N') ≤ R.cells) (hslots : slots + (N' + N' * K') ≤ R.slots) (hz : ∀ c : ClassId, Jvm.Free.Multi.innerC c K' (defaultValue ty) = vp_cell c z) (hdg : decode cc pc = .ok (.multianewarray index 2, 4))
    (kk : ∀ (q : Nat) (r : Nat → Nat) (cA : ClassId) (H1 : Heap), (∀ i j : Nat, i < N' → j < N' → r i = r j → i = j) → (∀ i : Nat, i < N' → r i ∉ L) → va_K D cl (tys ++ [(cA, .array ty)]) s →
      va_P D cl ((X ++ [(q, .inl (cA, N', .inr (.inr (.inr (.inr (fun i => if i < N' then some (r i) else none))))))]) ++ va_pl (L ++ (List.range N').map r) (vr_up f ((List.range N').map r) (.inl (cy, z)))) H1 → va_D A ((X ++ [(q, .inl (cA, N', .inr (.inr (.inr (.inr (fun i => if i < N' then some (r i) else none))))))]) ++ va_pl (L ++ (List.range N').map r) (vr_up f ((List.range N').map r) (.inl (cy, z)))) → va_S A H0 H1 locs →
      W p l e R s m args below meth c H1 locs (cells + 1 + N') (slots + N' + N' * K') Q (F0 m (pc + 4) ls (.ref q :: rest))) : W p l e R s m args below meth c H locs cells slots Q (F0 m pc ls (.int k :: .int n :: rest)) := by
  subst hN
  subst hM
  intro T hT Xs
  obtain ⟨vm₁, cA, comp, -, fA, fC, hO, -, X', step⟩ := Xs.multianewarray2F hexec hown hclink (va_AOA.use hover) harr (g := F0 m pc ls (.int k :: .int n :: rest)) rfl (by rw [hb]; exact hdg) rfl hn hk hb1 hb2 hb3 hdf hdd hcells hslots
  have ec : some cy = some comp := hcy.symm.trans fC
  cases ec
  generalize hF : Jvm.Free.Multi.fill (T.setVm vm₁) cA cy n.toNatClampNeg k.toNatClampNeg (defaultValue ty) n.toNatClampNeg = F at X' step
  have hTh : (T.setVm vm₁).heap = H := hT
  obtain ⟨f1, f2, -, -⟩ := Jvm.Free.Multi.fill_facts (T.setVm vm₁) cA cy n.toNatClampNeg k.toNatClampNeg (defaultValue ty) n.toNatClampNeg
  rw [hF, hTh] at f1 f2
  have hold : ∀ x : Nat, x < H.size → F.heap[x]? = H[x]? := fun x hx => by
    have := Jvm.Free.Multi.fill_old (T.setVm vm₁) cA cy n.toNatClampNeg k.toNatClampNeg (defaultValue ty) (a := x) (by rw [hTh]; exact hx) n.toNatClampNeg
    rw [hF, hTh] at this
    exact this
  have hrow : ∀ j : Nat, j < n.toNatClampNeg → F.heap[H.size + 1 + j]? = some (vp_cell cy z) := fun j hj => by
    have := Jvm.Free.Multi.fill_inner (T.setVm vm₁) cA cy n.toNatClampNeg k.toNatClampNeg (defaultValue ty) n.toNatClampNeg j hj
    rw [hF, hTh, hz] at this
    exact this
  have hout : Jvm.Free.Multi.outerC cA n.toNatClampNeg H.size n.toNatClampNeg = vp_cell cA (n.toNatClampNeg, .inr (.inr (.inr (.inr (fun i => if i < n.toNatClampNeg then some (H.size + 1 + i) else none))))) := by
    rw [vp_cell_q]
    exact vr_outer cA n.toNatClampNeg H.size n.toNatClampNeg
  rw [hout] at f2
  have hlt : ∀ a, a ∈ L → a < H.size := fun a ha => by
    obtain ⟨k9, hk9⟩ := va_pl_get (X := X) (f := f) ha
    exact (hP k9 _ hk9).lt
  have hnl : ∀ i : Nat, i < n.toNatClampNeg → H.size + 1 + i ∉ L := fun i _ h => by
    have := hlt _ h
    omega
  have hnm : ∀ a, a ∈ (List.range n.toNatClampNeg).map (fun i => H.size + 1 + i) → a ∉ L := fun a ha h => by
    obtain ⟨i, -, rfl⟩ := List.mem_map.mp ha
    have := hlt _ h
    omega
  have hP0 : va_P D cl (X ++ va_pl L f) F.heap := hP.kept (fun k9 x hx => hold x.1 ((hP k9 x hx).lt))
  have hP1 : va_P D cl ((X ++ va_pl L f) ++ [(H.size, .inl (cA, n.toNatClampNeg, .inr (.inr (.inr (.inr (fun i => if i < n.toNatClampNeg then some (H.size + 1 + i) else none))))))]) F.heap := hP0.app (fun k9 x hx => by
    have h0 : k9 < 1 := (List.getElem?_eq_some_iff.mp hx).1
    rw [show k9 = 0 by omega] at hx
    cases hx
    exact f2)
  have hP2 : va_P D cl (((X ++ va_pl L f) ++ [(H.size, .inl (cA, n.toNatClampNeg, .inr (.inr (.inr (.inr (fun i => if i < n.toNatClampNeg then some (H.size + 1 + i) else none))))))]) ++ ((List.range n.toNatClampNeg).map (fun i => H.size + 1 + i)).map (fun a => (a, .inl (cy, z)))) F.heap := hP1.app (fun k9 x hx => by
    obtain ⟨a, ha, rfl⟩ := List.mem_map.mp (List.mem_of_getElem? hx)
    obtain ⟨i, hi, rfl⟩ := List.mem_map.mp ha
    exact hrow i (List.mem_range.mp hi))
  have hD2 : va_D A (((X ++ va_pl L f) ++ [(H.size, .inl (cA, n.toNatClampNeg, .inr (.inr (.inr (.inr (fun i => if i < n.toNatClampNeg then some (H.size + 1 + i) else none))))))]) ++ ((List.range n.toNatClampNeg).map (fun i => H.size + 1 + i)).map (fun a => (a, .inl (cy, z)))) := by
    have hD1 := hD.push (e := .inl (cA, n.toNatClampNeg, .inr (.inr (.inr (.inr (fun i => if i < n.toNatClampNeg then some (H.size + 1 + i) else none)))))) hP rfl (hA _ hS.1)
    generalize hW1 : (X ++ va_pl L f) ++ [(H.size, .inl (cA, n.toNatClampNeg, .inr (.inr (.inr (.inr (fun i => if i < n.toNatClampNeg then some (H.size + 1 + i) else none))))))] = W1 at hD1 hP1 ⊢
    have hle : ∀ (k9 : Nat) (x : Nat × va_E), W1[k9]? = some x → x.1 ≤ H.size := fun k9 x hx => by
      rw [← hW1] at hx
      by_cases hl : k9 < (X ++ va_pl L f).length
      · rw [List.getElem?_append_left hl] at hx
        exact Nat.le_of_lt ((hP k9 x hx).lt)
      · rw [List.getElem?_append_right (by omega)] at hx
        have h0 : k9 - (X ++ va_pl L f).length < 1 := (List.getElem?_eq_some_iff.mp hx).1
        rw [show k9 - (X ++ va_pl L f).length = 0 by omega] at hx
        cases hx
        exact Nat.le_refl _
    have hr : ∀ (k9 : Nat) (x : Nat × va_E), (((List.range n.toNatClampNeg).map (fun i => H.size + 1 + i)).map (fun a => ((a, .inl (cy, z)) : Nat × va_E)))[k9]? = some x → x.1 = H.size + 1 + k9 := fun k9 x hx => by
      rw [List.getElem?_map, List.getElem?_map] at hx
      by_cases h9 : k9 < n.toNatClampNeg
      · rw [List.getElem?_range h9] at hx
        cases hx
        rfl
      · have hn0 : (List.range n.toNatClampNeg)[k9]? = none := List.getElem?_eq_none (by rw [List.length_range]; omega)
        rw [hn0] at hx
        cases hx
    refine ⟨fun i j x y hi hj hxy => ?_, fun k9 x hx => ?_⟩
    · by_cases h1 : i < W1.length <;> by_cases h2 : j < W1.length
      · rw [List.getElem?_append_left h1] at hi
        rw [List.getElem?_append_left h2] at hj
        exact hD1.1 i j x y hi hj hxy
      · rw [List.getElem?_append_left h1] at hi
        rw [List.getElem?_append_right (by omega)] at hj
        have := hle _ _ hi
        have := hr _ _ hj
        omega
      · rw [List.getElem?_append_right (by omega)] at hi
        rw [List.getElem?_append_left h2] at hj
        have := hle _ _ hj
        have := hr _ _ hi
        omega
      · rw [List.getElem?_append_right (by omega)] at hi hj
        have := hr _ _ hi
        have := hr _ _ hj
        omega
    · by_cases h1 : k9 < W1.length
      · rw [List.getElem?_append_left h1] at hx
        exact hD1.2 k9 x hx
      · rw [List.getElem?_append_right (by omega)] at hx
        have := hr _ _ hx
        exact hA _ (by have := hS.1; omega)
  have hAr : ArrOfT s cA (.array ty) := fun N9 z9 => by
    obtain ⟨-, k9, hk9, cm9, hkk9⟩ := (hO 0 0 0).1
    exact ⟨(fun q hq => by cases hq), k9, hk9, cm9, hkk9⟩
  have hK2 : va_K D cl (tys ++ [(cA, .array ty)]) s := ⟨hK.1, fun k9 x hx => by
    by_cases hl : k9 < tys.length
    · rw [List.getElem?_append_left hl] at hx
      exact hK.2 k9 x hx
    · rw [List.getElem?_append_right (by omega)] at hx
      have h0 : k9 - tys.length < 1 := (List.getElem?_eq_some_iff.mp hx).1
      rw [show k9 - tys.length = 0 by omega] at hx
      cases hx
      exact ⟨hAr, fA⟩⟩
  obtain ⟨t, a1, b1⟩ := kk H.size (fun i => H.size + 1 + i) cA F.heap (fun i j _ _ h => by have h9 : H.size + 1 + i = H.size + 1 + j := h; omega) hnl hK2 (by rw [← vr_rows hnm]; exact vr_lay hP2) (by rw [← vr_rows hnm]; exact vr_layD hD2) ⟨by rw [f1]; have := hS.1; omega, fun x h1 h2 => (hold x (Nat.lt_of_lt_of_le h1 hS.1)).trans (hS.2.1 x h1 h2), hS.2.2⟩ F rfl X'
  refine ⟨t, step t ?_, b1⟩
  have e : T.heap.size = H.size := by rw [hT]
  rw [e]
  exact a1
end VGM
/-! ===== END ===== -/
section GMN
variable {Γ : GQ} {cc : ByteArray} {own : String} {l0 : Launch} {D0 : va_G} {fr lo mc ms nL0 : Nat} {pc : Nat} {vs : List (Option Value)} {st : List Value} {ws : va_W} {ts : List (ClassId × FieldType)} {kc ks : Nat}
theorem g_mna (C : CG Γ cc own l0 D0 fr lo mc ms nL0) (hG : GE Γ) {ix t0 : Nat} {c1 : ClassId} (w1 : Cond.classLink own ix "[[I" ∈ gw_tbl) (w2 : Cond.arrayClass .int ∈ gw_tbl) (ht : ts[t0]? = some (c1, .int)) (h1 : kc + 6 ≤ mc) (h2 : ks + 45 ≤ ms) (hd : decode cc pc = .ok (.multianewarray ix 2, 4))
    (k : ∀ (q : Nat) (r : Nat → Nat) (cA : ClassId), GW Γ (pc + 4) vs (.ref q :: st) (ws ++ [(q, .inl (cA, 5, .inr (.inr (.inr (.inr (fun i => if i < 5 then some (r i) else none)))))), (r 0, .inl (c1, 8, .inl (fun _ => 0))), (r 1, .inl (c1, 8, .inl (fun _ => 0))), (r 2, .inl (c1, 8, .inl (fun _ => 0))), (r 3, .inl (c1, 8, .inl (fun _ => 0))), (r 4, .inl (c1, 8, .inl (fun _ => 0)))]) (ts ++ [(cA, .array .int)]) (kc + 6) (ks + 45)) : GW Γ pc vs (.int 8 :: .int 5 :: st) ws ts kc ks := by
  obtain ⟨p, l, e, R, s, m, args, below, meth, c, Q, D, A, H0, nL⟩ := Γ
  obtain ⟨⟨hx, hb, hml, hown, hts⟩, hE, hA0, rfl, rfl, hfr, hlo, hmc, hms, rfl⟩ := C
  intro H locs ls hK hP hD hS hl
  have hG : EG s := hG
  have hcy : s.vm.findClass (FieldType.array .int).toString = some c1 := (hK.2 t0 _ ht).2
  have hP0 : va_P D vwCl (ws ++ va_pl [] (fun _ => .inr (0, []))) H := by
    show va_P D vwCl (ws ++ []) H
    rw [List.append_nil]
    exact hP
  have hD0 : va_D A (ws ++ va_pl [] (fun _ => .inr (0, []))) := by
    show va_D A (ws ++ [])
    rw [List.append_nil]
    exact hD
  refine va_mna (ty := .int) (N' := 5) (K' := 8) (z := (8, .inl (fun _ => 0))) hx hb hown (hts _ w1) hG.2.2 (hts _ w2) hcy hK hP0 hD0 hS hA0 (by decide) (by decide) rfl rfl (by decide) (by decide) (by decide) rfl rfl (by omega) (by omega) (fun c => ?_) hd (fun q r cA H1 hinj hnl hK1 hP1 hD1 hS1 => ?_)
  · exact arrV_new c 8 (.int 0)
  · have e : va_pl ([] ++ (List.range 5).map r) (vr_up (fun _ => .inr (0, [])) ((List.range 5).map r) (.inl (c1, 8, .inl (fun _ => 0)))) = [(r 0, .inl (c1, 8, .inl (fun _ => 0))), (r 1, .inl (c1, 8, .inl (fun _ => 0))), (r 2, .inl (c1, 8, .inl (fun _ => 0))), (r 3, .inl (c1, 8, .inl (fun _ => 0))), (r 4, .inl (c1, 8, .inl (fun _ => 0)))] := by
      have h : ∀ i : Nat, i < 5 → vr_up (fun _ => (.inr (0, []) : va_E)) ((List.range 5).map r) (.inl (c1, 8, .inl (fun _ => 0))) (r i) = .inl (c1, 8, .inl (fun _ => 0)) := fun i hi => vr_up_in (List.mem_map.mpr ⟨i, List.mem_range.mpr hi, rfl⟩)
      show [(r 0, _), (r 1, _), (r 2, _), (r 3, _), (r 4, _)] = _
      rw [h 0 (by decide), h 1 (by decide), h 2 (by decide), h 3 (by decide), h 4 (by decide)]
    rw [e, List.append_assoc] at hP1 hD1
    exact W.widen (by omega) (by omega) (k q r cA H1 locs ls hK1 hP1 hD1 hS1 hl)
end GMN
def tcl (L : List Nat) (u : (Nat → Nat) × (Nat → ClassId)) : List (ClassId × FieldType) := L.map (fun i => (u.2 i, aty (kd i)))
abbrev UU : Type := (Nat → Nat) × (Nat → ClassId)
theorem oi_w : Cond.instanceMethod Lib.objectInit ∈ gw_tbl ∧ Cond.code Lib.objectInit ⟨#[0xb1]⟩ 1 none ∈ gw_tbl := ⟨gw1 29 (by decide +kernel) rfl, gw1 30 (by decide +kernel) rfl⟩
theorem aw_int : Cond.arrayClass .int ∈ gw_tbl := gw1 66 (by decide +kernel) rfl
theorem aw_long : Cond.arrayClass .long ∈ gw_tbl := gw1 67 (by decide +kernel) rfl
theorem aw_boolean : Cond.arrayClass .boolean ∈ gw_tbl := gw1 229 (by decide +kernel) rfl
theorem aw_byte : Cond.arrayClass .byte ∈ gw_tbl := gw3 163 (by decide +kernel) rfl
theorem oi_0 : Cond.methodLink RX0 3 Lib.objectInit ∈ gw_tbl := gw1 143 (by decide +kernel) rfl
theorem mn_0 : MN yX0_init cX0_init 1 0 := ⟨gw1 141 (by decide +kernel) rfl, gw1 7 (by decide +kernel) rfl, gw1 142 rfl rfl, rfl, ⟨by decide, by decide, by decide +kernel⟩⟩
theorem fw_0_9 : FW RX0 9 0 1 (.array .int) true := ⟨RX0, TX0, 12, tyX0, ⟨rfl, by decide, gw1 147 (by decide +kernel) rfl, uw_0⟩, tyX0_ok, nmX0, rfl, rfl, by decide +kernel⟩
theorem fw_0_15 : FW RX0 15 0 2 (.array .int) true := ⟨RX0, TX0, 12, tyX0, ⟨rfl, by decide, gw1 150 (by decide +kernel) rfl, uw_0⟩, tyX0_ok, nmX0, rfl, rfl, by decide +kernel⟩
theorem fw_0_18 : FW RX0 18 0 3 (.array .int) true := ⟨RX0, TX0, 12, tyX0, ⟨rfl, by decide, gw1 153 (by decide +kernel) rfl, uw_0⟩, tyX0_ok, nmX0, rfl, rfl, by decide +kernel⟩
theorem fw_0_21 : FW RX0 21 0 9 .int false := ⟨RX0, TX0, 12, tyX0, ⟨rfl, by decide, gw1 170 (by decide +kernel) rfl, uw_0⟩, tyX0_ok, nmX0, rfl, rfl, by decide +kernel⟩
theorem fw_0_25 : FW RX0 25 0 11 .int false := ⟨RX0, TX0, 12, tyX0, ⟨rfl, by decide, gw1 173 (by decide +kernel) rfl, uw_0⟩, tyX0_ok, nmX0, rfl, rfl, by decide +kernel⟩
theorem oi_1 : Cond.methodLink RX1 3 Lib.objectInit ∈ gw_tbl := gw1 112 (by decide +kernel) rfl
theorem mn_1 : MN yX1_init cX1_init 1 0 := ⟨gw1 110 (by decide +kernel) rfl, gw1 5 (by decide +kernel) rfl, gw1 111 rfl rfl, rfl, ⟨by decide, by decide, by decide +kernel⟩⟩
theorem fw_1_9 : FW RX1 9 1 0 (.array .int) true := ⟨RX1, TX1, 4, tyX1, ⟨rfl, by decide, gw1 113 (by decide +kernel) rfl, uw_1⟩, tyX1_ok, nmX1, rfl, rfl, by decide +kernel⟩
theorem fw_1_15 : FW RX1 15 1 1 (.array .int) true := ⟨RX1, TX1, 4, tyX1, ⟨rfl, by decide, gw1 115 (by decide +kernel) rfl, uw_1⟩, tyX1_ok, nmX1, rfl, rfl, by decide +kernel⟩
theorem oi_2 : Cond.methodLink RX2 3 Lib.objectInit ∈ gw_tbl := gw1 217 (by decide +kernel) rfl
theorem mn_2 : MN yX2_init cX2_init 1 0 := ⟨gw1 215 (by decide +kernel) rfl, gw1 8 (by decide +kernel) rfl, gw1 216 rfl rfl, rfl, ⟨by decide, by decide, by decide +kernel⟩⟩
theorem fw_2_9 : FW RX2 9 2 0 (.array .int) true := ⟨RX2, TX2, 3, tyX2, ⟨rfl, by decide, gw1 218 (by decide +kernel) rfl, uw_2⟩, tyX2_ok, nmX2, rfl, rfl, by decide +kernel⟩
theorem fw_2_15 : FW RX2 15 2 1 (.array .boolean) true := ⟨RX2, TX2, 3, tyX2, ⟨rfl, by decide, gw1 219 (by decide +kernel) rfl, uw_2⟩, tyX2_ok, nmX2, rfl, rfl, by decide +kernel⟩
theorem oi_3 : Cond.methodLink RX4 3 Lib.objectInit ∈ gw_tbl := gw1 106 (by decide +kernel) rfl
theorem mn_3 : MN yX4_init cX4_init 1 0 := ⟨gw1 104 (by decide +kernel) rfl, gw1 4 (by decide +kernel) rfl, gw1 105 rfl rfl, rfl, ⟨by decide, by decide, by decide +kernel⟩⟩
theorem fw_3_12 : FW RX4 12 3 0 (.object "StateJuggler$Asked") true := ⟨RX4, TX4, 1, tyX4, ⟨rfl, by decide, gw1 127 (by decide +kernel) rfl, uw_3⟩, tyX4_ok, nmX4, rfl, rfl, by decide +kernel⟩
set_option maxRecDepth 20000 in
theorem nc_3_9 : NC RX4 9 1 4 [.null, .null, .int 0, .int 0] := ⟨RX1, TX1, tyX1, rfl, uw_1, tyX1_ok, gw1 107 (by decide +kernel) rfl, gw1 108 (by decide +kernel) rfl, gw1 5 (by decide +kernel) rfl, by decide +kernel⟩
theorem oi_4 : Cond.methodLink RX5 3 Lib.objectInit ∈ gw_tbl := gw1 136 (by decide +kernel) rfl
theorem mn_4 : MN yX5_init cX5_init 2 0 := ⟨gw1 134 (by decide +kernel) rfl, gw1 6 (by decide +kernel) rfl, gw1 135 rfl rfl, rfl, ⟨by decide, by decide, by decide +kernel⟩⟩
theorem fw_4_11 : FW RX5 11 4 0 (.array (.object "StateJuggler$Air")) true := ⟨RX5, TX5, 3, tyX5, ⟨rfl, by decide, gw1 201 (by decide +kernel) rfl, uw_4⟩, tyX5_ok, nmX5, rfl, rfl, by decide +kernel⟩
set_option maxRecDepth 20000 in
theorem nc_4_9 : NC RX5 9 0 12 [.int 0, .null, .null, .null, .int 0, .int 0, .int 0, .int 0, .int 0, .int 0, .int 0, .int 0] := ⟨RX0, TX0, tyX0, rfl, uw_0, tyX0_ok, gw1 137 (by decide +kernel) rfl, gw1 139 (by decide +kernel) rfl, gw1 7 (by decide +kernel) rfl, by decide +kernel⟩
theorem oi_5 : Cond.methodLink RX6 3 Lib.objectInit ∈ gw_tbl := gw1 36 (by decide +kernel) rfl
theorem mn_5 : MN yX6_init cX6_init 1 0 := ⟨gw1 34 (by decide +kernel) rfl, gw1 2 (by decide +kernel) rfl, gw1 35 rfl rfl, rfl, ⟨by decide, by decide, by decide +kernel⟩⟩
theorem fw_5_12 : FW RX6 12 5 0 (.object "StateJuggler$Tape") true := ⟨RX6, TX6, 10, tyX6, ⟨rfl, by decide, gw1 68 (by decide +kernel) rfl, uw_5⟩, tyX6_ok, nmX6, rfl, rfl, by decide +kernel⟩
theorem fw_5_18 : FW RX6 18 5 1 .int false := ⟨RX6, TX6, 10, tyX6, ⟨rfl, by decide, gw1 70 (by decide +kernel) rfl, uw_5⟩, tyX6_ok, nmX6, rfl, rfl, by decide +kernel⟩
theorem fw_5_22 : FW RX6 22 5 8 (.array .long) true := ⟨RX6, TX6, 10, tyX6, ⟨rfl, by decide, gw1 78 (by decide +kernel) rfl, uw_5⟩, tyX6_ok, nmX6, rfl, rfl, by decide +kernel⟩
set_option maxRecDepth 20000 in
theorem nc_5_9 : NC RX6 9 8 6 [.null, .int 0, .null, .null, .null, .int 0] := ⟨RX9, TX9, tyX9, rfl, uw_8, tyX9_ok, gw1 37 (by decide +kernel) rfl, gw1 38 (by decide +kernel) rfl, gw1 3 (by decide +kernel) rfl, by decide +kernel⟩
theorem oi_6 : Cond.methodLink RX7 3 Lib.objectInit ∈ gw_tbl := gw1 235 (by decide +kernel) rfl
theorem mn_6 : MN yX7_init cX7_init 1 0 := ⟨gw1 233 (by decide +kernel) rfl, gw1 9 (by decide +kernel) rfl, gw1 234 rfl rfl, rfl, ⟨by decide, by decide, by decide +kernel⟩⟩
theorem fw_6_11 : FW RX7 11 6 0 (.array .int) true := ⟨RX7, TX7, 6, tyX7, ⟨rfl, by decide, gw1 236 (by decide +kernel) rfl, uw_6⟩, tyX7_ok, nmX7, rfl, rfl, by decide +kernel⟩
theorem fw_6_15 : FW RX7 15 6 2 (.array .int) true := ⟨RX7, TX7, 6, tyX7, ⟨rfl, by decide, gw1 238 (by decide +kernel) rfl, uw_6⟩, tyX7_ok, nmX7, rfl, rfl, by decide +kernel⟩
theorem fw_6_18 : FW RX7 18 6 3 (.array .int) true := ⟨RX7, TX7, 6, tyX7, ⟨rfl, by decide, gw1 239 (by decide +kernel) rfl, uw_6⟩, tyX7_ok, nmX7, rfl, rfl, by decide +kernel⟩
theorem fw_6_21 : FW RX7 21 6 4 (.array .int) true := ⟨RX7, TX7, 6, tyX7, ⟨rfl, by decide, gw2 0 (by decide +kernel) rfl, uw_6⟩, tyX7_ok, nmX7, rfl, rfl, by decide +kernel⟩
theorem oi_7 : Cond.methodLink RX8 1 Lib.objectInit ∈ gw_tbl := gw2 22 (by decide +kernel) rfl
theorem mn_7 : MN yX8_init cX8_init 1 0 := ⟨gw2 20 (by decide +kernel) rfl, gw1 10 (by decide +kernel) rfl, gw2 21 rfl rfl, rfl, ⟨by decide, by decide, by decide +kernel⟩⟩
theorem fw_7_9 : FW RX8 9 7 0 (.array .int) true := ⟨RX8, TX8, 5, tyX8, ⟨rfl, by decide, gw2 23 (by decide +kernel) rfl, uw_7⟩, tyX8_ok, nmX8, rfl, rfl, by decide +kernel⟩
theorem fw_7_13 : FW RX8 13 7 1 (.array .int) true := ⟨RX8, TX8, 5, tyX8, ⟨rfl, by decide, gw2 24 (by decide +kernel) rfl, uw_7⟩, tyX8_ok, nmX8, rfl, rfl, by decide +kernel⟩
theorem oi_8 : Cond.methodLink RX9 3 Lib.objectInit ∈ gw_tbl := gw1 42 (by decide +kernel) rfl
theorem mn_8 : MN yX9_init cX9_init 1 0 := ⟨gw1 40 (by decide +kernel) rfl, gw1 3 (by decide +kernel) rfl, gw1 41 rfl rfl, rfl, ⟨by decide, by decide, by decide +kernel⟩⟩
theorem fw_8_9 : FW RX9 9 8 0 (.array .int) true := ⟨RX9, TX9, 6, tyX9, ⟨rfl, by decide, gw1 43 (by decide +kernel) rfl, uw_8⟩, tyX9_ok, nmX9, rfl, rfl, by decide +kernel⟩
theorem fw_8_15 : FW RX9 15 8 2 (.array .int) true := ⟨RX9, TX9, 6, tyX9, ⟨rfl, by decide, gw1 46 (by decide +kernel) rfl, uw_8⟩, tyX9_ok, nmX9, rfl, rfl, by decide +kernel⟩
theorem fw_8_18 : FW RX9 18 8 3 (.array .int) true := ⟨RX9, TX9, 6, tyX9, ⟨rfl, by decide, gw1 48 (by decide +kernel) rfl, uw_8⟩, tyX9_ok, nmX9, rfl, rfl, by decide +kernel⟩
theorem fw_8_21 : FW RX9 21 8 4 (.array .long) true := ⟨RX9, TX9, 6, tyX9, ⟨rfl, by decide, gw1 50 (by decide +kernel) rfl, uw_8⟩, tyX9_ok, nmX9, rfl, rfl, by decide +kernel⟩
theorem oi_9 : Cond.methodLink RX10 3 Lib.objectInit ∈ gw_tbl := gw2 48 (by decide +kernel) rfl
theorem mn_9 : MN yX10_init cX10_init 1 0 := ⟨gw2 46 (by decide +kernel) rfl, gw1 11 (by decide +kernel) rfl, gw2 47 rfl rfl, rfl, ⟨by decide, by decide, by decide +kernel⟩⟩
theorem fw_9_9 : FW RX10 9 9 1 (.array .int) true := ⟨RX10, TX10, 12, tyX10, ⟨rfl, by decide, gw2 63 (by decide +kernel) rfl, uw_9⟩, tyX10_ok, nmX10, rfl, rfl, by decide +kernel⟩
theorem fw_9_15 : FW RX10 15 9 2 (.array .int) true := ⟨RX10, TX10, 12, tyX10, ⟨rfl, by decide, gw2 67 (by decide +kernel) rfl, uw_9⟩, tyX10_ok, nmX10, rfl, rfl, by decide +kernel⟩
theorem fw_9_18 : FW RX10 18 9 3 (.array .int) true := ⟨RX10, TX10, 12, tyX10, ⟨rfl, by decide, gw2 71 (by decide +kernel) rfl, uw_9⟩, tyX10_ok, nmX10, rfl, rfl, by decide +kernel⟩
theorem fw_9_23 : FW RX10 23 9 5 (.array (.array .int)) true := ⟨RX10, TX10, 12, tyX10, ⟨rfl, by decide, gw2 78 (by decide +kernel) rfl, uw_9⟩, tyX10_ok, nmX10, rfl, rfl, by decide +kernel⟩
theorem fw_9_26 : FW RX10 26 9 6 (.array .int) true := ⟨RX10, TX10, 12, tyX10, ⟨rfl, by decide, gw2 82 (by decide +kernel) rfl, uw_9⟩, tyX10_ok, nmX10, rfl, rfl, by decide +kernel⟩
theorem fw_9_29 : FW RX10 29 9 7 (.array .int) true := ⟨RX10, TX10, 12, tyX10, ⟨rfl, by decide, gw2 86 (by decide +kernel) rfl, uw_9⟩, tyX10_ok, nmX10, rfl, rfl, by decide +kernel⟩
theorem fw_9_32 : FW RX10 32 9 9 (.array .int) true := ⟨RX10, TX10, 12, tyX10, ⟨rfl, by decide, gw2 91 (by decide +kernel) rfl, uw_9⟩, tyX10_ok, nmX10, rfl, rfl, by decide +kernel⟩
theorem oi_10 : Cond.methodLink RX11 1 Lib.objectInit ∈ gw_tbl := gw1 28 (by decide +kernel) rfl
theorem mn_10 : MN yX11_init cX11_init 2 0 := ⟨gw1 26 (by decide +kernel) rfl, gw1 1 (by decide +kernel) rfl, gw1 27 rfl rfl, rfl, ⟨by decide, by decide, by decide +kernel⟩⟩
theorem fw_10_10 : FW RX11 10 10 0 (.object "StateJuggler$Reader") true := ⟨RX11, TX11, 15, tyX11, ⟨rfl, by decide, gw2 125 (by decide +kernel) rfl, uw_10⟩, tyX11_ok, nmX11, rfl, rfl, by decide +kernel⟩
theorem fw_10_19 : FW RX11 19 10 1 (.object "StateJuggler$Juggler") true := ⟨RX11, TX11, 15, tyX11, ⟨rfl, by decide, gw2 126 (by decide +kernel) rfl, uw_10⟩, tyX11_ok, nmX11, rfl, rfl, by decide +kernel⟩
theorem fw_10_26 : FW RX11 26 10 2 (.object "StateJuggler$Past") true := ⟨RX11, TX11, 15, tyX11, ⟨rfl, by decide, gw2 127 (by decide +kernel) rfl, uw_10⟩, tyX11_ok, nmX11, rfl, rfl, by decide +kernel⟩
theorem fw_10_33 : FW RX11 33 10 3 (.object "StateJuggler$Hearsay") true := ⟨RX11, TX11, 15, tyX11, ⟨rfl, by decide, gw2 128 (by decide +kernel) rfl, uw_10⟩, tyX11_ok, nmX11, rfl, rfl, by decide +kernel⟩
theorem fw_10_40 : FW RX11 40 10 4 (.object "StateJuggler$Route") true := ⟨RX11, TX11, 15, tyX11, ⟨rfl, by decide, gw2 129 (by decide +kernel) rfl, uw_10⟩, tyX11_ok, nmX11, rfl, rfl, by decide +kernel⟩
theorem fw_10_47 : FW RX11 47 10 5 (.object "StateJuggler$Rows") true := ⟨RX11, TX11, 15, tyX11, ⟨rfl, by decide, gw2 130 (by decide +kernel) rfl, uw_10⟩, tyX11_ok, nmX11, rfl, rfl, by decide +kernel⟩
theorem fw_10_54 : FW RX11 54 10 6 (.object "StateJuggler$Air") true := ⟨RX11, TX11, 15, tyX11, ⟨rfl, by decide, gw2 131 (by decide +kernel) rfl, uw_10⟩, tyX11_ok, nmX11, rfl, rfl, by decide +kernel⟩
theorem fw_10_58 : FW RX11 58 10 7 (.object "StateJuggler$Air") true := ⟨RX11, TX11, 15, tyX11, ⟨rfl, by decide, gw2 132 (by decide +kernel) rfl, uw_10⟩, tyX11_ok, nmX11, rfl, rfl, by decide +kernel⟩
theorem fw_10_61 : FW RX11 61 10 8 (.array (.object "StateJuggler$Air")) true := ⟨RX11, TX11, 15, tyX11, ⟨rfl, by decide, gw2 133 (by decide +kernel) rfl, uw_10⟩, tyX11_ok, nmX11, rfl, rfl, by decide +kernel⟩
theorem fw_10_65 : FW RX11 65 10 9 (.array .boolean) true := ⟨RX11, TX11, 15, tyX11, ⟨rfl, by decide, gw2 134 (by decide +kernel) rfl, uw_10⟩, tyX11_ok, nmX11, rfl, rfl, by decide +kernel⟩
theorem fw_10_69 : FW RX11 69 10 10 (.array .int) true := ⟨RX11, TX11, 15, tyX11, ⟨rfl, by decide, gw2 135 (by decide +kernel) rfl, uw_10⟩, tyX11_ok, nmX11, rfl, rfl, by decide +kernel⟩
theorem fw_10_73 : FW RX11 73 10 11 (.array .int) true := ⟨RX11, TX11, 15, tyX11, ⟨rfl, by decide, gw2 136 (by decide +kernel) rfl, uw_10⟩, tyX11_ok, nmX11, rfl, rfl, by decide +kernel⟩
theorem fw_10_76 : FW RX11 76 10 12 (.array .int) true := ⟨RX11, TX11, 15, tyX11, ⟨rfl, by decide, gw2 137 (by decide +kernel) rfl, uw_10⟩, tyX11_ok, nmX11, rfl, rfl, by decide +kernel⟩
theorem fw_10_82 : FW RX11 82 10 13 (.object "StateJuggler$Text") false := ⟨RX11, TX11, 15, tyX11, ⟨rfl, by decide, gw2 138 (by decide +kernel) rfl, uw_10⟩, tyX11_ok, nmX11, rfl, rfl, by decide +kernel⟩
theorem fw_10_86 : FW RX11 86 10 14 (.object "StateJuggler$Text") false := ⟨RX11, TX11, 15, tyX11, ⟨rfl, by decide, gw2 139 (by decide +kernel) rfl, uw_10⟩, tyX11_ok, nmX11, rfl, rfl, by decide +kernel⟩
set_option maxRecDepth 20000 in
theorem nc_10_7 : NC RX11 7 5 10 [.null, .int 0, .int 0, .int 0, .int 0, .int 0, .int 0, .int 0, .null, .int 0] := ⟨RX6, TX6, tyX6, rfl, uw_5, tyX6_ok, gw1 31 (by decide +kernel) rfl, gw1 32 (by decide +kernel) rfl, gw1 2 (by decide +kernel) rfl, by decide +kernel⟩
set_option maxRecDepth 20000 in
theorem nc_10_16 : NC RX11 16 3 1 [.null] := ⟨RX4, TX4, tyX4, rfl, uw_3, tyX4_ok, gw1 101 (by decide +kernel) rfl, gw1 102 (by decide +kernel) rfl, gw1 4 (by decide +kernel) rfl, by decide +kernel⟩
set_option maxRecDepth 20000 in
theorem nc_10_23 : NC RX11 23 4 3 [.null, .int 0, .int 0] := ⟨RX5, TX5, tyX5, rfl, uw_4, tyX5_ok, gw1 131 (by decide +kernel) rfl, gw1 132 (by decide +kernel) rfl, gw1 6 (by decide +kernel) rfl, by decide +kernel⟩
set_option maxRecDepth 20000 in
theorem nc_10_30 : NC RX11 30 2 3 [.null, .null, .int 0] := ⟨RX2, TX2, tyX2, rfl, uw_2, tyX2_ok, gw1 212 (by decide +kernel) rfl, gw1 213 (by decide +kernel) rfl, gw1 8 (by decide +kernel) rfl, by decide +kernel⟩
set_option maxRecDepth 20000 in
theorem nc_10_37 : NC RX11 37 6 6 [.null, .int 0, .null, .null, .null, .int 0] := ⟨RX7, TX7, tyX7, rfl, uw_6, tyX7_ok, gw1 230 (by decide +kernel) rfl, gw1 231 (by decide +kernel) rfl, gw1 9 (by decide +kernel) rfl, by decide +kernel⟩
set_option maxRecDepth 20000 in
theorem nc_10_44 : NC RX11 44 7 5 [.null, .null, .int 0, .int 0, .int 0] := ⟨RX8, TX8, tyX8, rfl, uw_7, tyX8_ok, gw2 17 (by decide +kernel) rfl, gw2 18 (by decide +kernel) rfl, gw1 10 (by decide +kernel) rfl, by decide +kernel⟩
set_option maxRecDepth 20000 in
theorem nc_10_51 : NC RX11 51 0 12 [.int 0, .null, .null, .null, .int 0, .int 0, .int 0, .int 0, .int 0, .int 0, .int 0, .int 0] := ⟨RX0, TX0, tyX0, rfl, uw_0, tyX0_ok, gw2 41 (by decide +kernel) rfl, gw1 139 (by decide +kernel) rfl, gw1 7 (by decide +kernel) rfl, by decide +kernel⟩
set_option maxRecDepth 20000 in
theorem nc_10_79 : NC RX11 79 9 12 [.int 0, .null, .null, .null, .int 0, .null, .null, .null, .int 0, .null, .int 0, .int 0] := ⟨RX10, TX10, tyX10, rfl, uw_9, tyX10_ok, gw2 43 (by decide +kernel) rfl, gw2 44 (by decide +kernel) rfl, gw1 11 (by decide +kernel) rfl, by decide +kernel⟩
theorem oi_11 : Cond.methodLink RX12 7 Lib.objectInit ∈ gw_tbl := gw5 80 (by decide +kernel) rfl
theorem mn_11 : MN yX12_init cX12_init 1 0 := ⟨gw5 78 (by decide +kernel) rfl, gw1 12 (by decide +kernel) rfl, gw5 79 rfl rfl, rfl, ⟨by decide, by decide, by decide +kernel⟩⟩
theorem fw_11_13 : FW RX12 13 11 1 (.array .byte) true := ⟨RX12, TX12, 66, tyX12, ⟨rfl, by decide, gw5 100 (by decide +kernel) rfl, uw_11⟩, tyX12_ok, nmX12, rfl, rfl, by decide +kernel⟩
theorem fw_11_17 : FW RX12 17 11 3 (.array .byte) true := ⟨RX12, TX12, 66, tyX12, ⟨rfl, by decide, gw5 102 (by decide +kernel) rfl, uw_11⟩, tyX12_ok, nmX12, rfl, rfl, by decide +kernel⟩
theorem fw_11_20 : FW RX12 20 11 5 (.array .int) true := ⟨RX12, TX12, 66, tyX12, ⟨rfl, by decide, gw5 104 (by decide +kernel) rfl, uw_11⟩, tyX12_ok, nmX12, rfl, rfl, by decide +kernel⟩
theorem fw_11_24 : FW RX12 24 11 6 (.array .int) true := ⟨RX12, TX12, 66, tyX12, ⟨rfl, by decide, gw5 105 (by decide +kernel) rfl, uw_11⟩, tyX12_ok, nmX12, rfl, rfl, by decide +kernel⟩
theorem fw_11_27 : FW RX12 27 11 7 (.array .int) true := ⟨RX12, TX12, 66, tyX12, ⟨rfl, by decide, gw5 106 (by decide +kernel) rfl, uw_11⟩, tyX12_ok, nmX12, rfl, rfl, by decide +kernel⟩
theorem fw_11_30 : FW RX12 30 11 8 (.array .long) true := ⟨RX12, TX12, 66, tyX12, ⟨rfl, by decide, gw5 107 (by decide +kernel) rfl, uw_11⟩, tyX12_ok, nmX12, rfl, rfl, by decide +kernel⟩
theorem fw_11_34 : FW RX12 34 11 9 (.array .long) true := ⟨RX12, TX12, 66, tyX12, ⟨rfl, by decide, gw5 108 (by decide +kernel) rfl, uw_11⟩, tyX12_ok, nmX12, rfl, rfl, by decide +kernel⟩
theorem fw_11_37 : FW RX12 37 11 17 .int false := ⟨RX12, TX12, 66, tyX12, ⟨rfl, by decide, gw5 116 (by decide +kernel) rfl, uw_11⟩, tyX12_ok, nmX12, rfl, rfl, by decide +kernel⟩
theorem fw_11_40 : FW RX12 40 11 21 (.array .long) true := ⟨RX12, TX12, 66, tyX12, ⟨rfl, by decide, gw5 120 (by decide +kernel) rfl, uw_11⟩, tyX12_ok, nmX12, rfl, rfl, by decide +kernel⟩
theorem fw_11_43 : FW RX12 43 11 22 (.array .int) true := ⟨RX12, TX12, 66, tyX12, ⟨rfl, by decide, gw5 121 (by decide +kernel) rfl, uw_11⟩, tyX12_ok, nmX12, rfl, rfl, by decide +kernel⟩
theorem fw_11_46 : FW RX12 46 11 23 (.array .int) true := ⟨RX12, TX12, 66, tyX12, ⟨rfl, by decide, gw5 122 (by decide +kernel) rfl, uw_11⟩, tyX12_ok, nmX12, rfl, rfl, by decide +kernel⟩
theorem fw_11_49 : FW RX12 49 11 24 (.array .int) true := ⟨RX12, TX12, 66, tyX12, ⟨rfl, by decide, gw5 123 (by decide +kernel) rfl, uw_11⟩, tyX12_ok, nmX12, rfl, rfl, by decide +kernel⟩
theorem fw_11_52 : FW RX12 52 11 25 (.array .int) true := ⟨RX12, TX12, 66, tyX12, ⟨rfl, by decide, gw5 124 (by decide +kernel) rfl, uw_11⟩, tyX12_ok, nmX12, rfl, rfl, by decide +kernel⟩
theorem fw_11_55 : FW RX12 55 11 26 (.array .int) true := ⟨RX12, TX12, 66, tyX12, ⟨rfl, by decide, gw5 125 (by decide +kernel) rfl, uw_11⟩, tyX12_ok, nmX12, rfl, rfl, by decide +kernel⟩
theorem fw_11_58 : FW RX12 58 11 27 (.array .int) true := ⟨RX12, TX12, 66, tyX12, ⟨rfl, by decide, gw5 126 (by decide +kernel) rfl, uw_11⟩, tyX12_ok, nmX12, rfl, rfl, by decide +kernel⟩
theorem fw_11_61 : FW RX12 61 11 28 (.array .int) true := ⟨RX12, TX12, 66, tyX12, ⟨rfl, by decide, gw5 127 (by decide +kernel) rfl, uw_11⟩, tyX12_ok, nmX12, rfl, rfl, by decide +kernel⟩
theorem fw_11_64 : FW RX12 64 11 29 (.array .int) true := ⟨RX12, TX12, 66, tyX12, ⟨rfl, by decide, gw5 128 (by decide +kernel) rfl, uw_11⟩, tyX12_ok, nmX12, rfl, rfl, by decide +kernel⟩
theorem fw_11_67 : FW RX12 67 11 30 (.array .int) true := ⟨RX12, TX12, 66, tyX12, ⟨rfl, by decide, gw5 129 (by decide +kernel) rfl, uw_11⟩, tyX12_ok, nmX12, rfl, rfl, by decide +kernel⟩
theorem fw_11_70 : FW RX12 70 11 31 (.array .int) true := ⟨RX12, TX12, 66, tyX12, ⟨rfl, by decide, gw5 130 (by decide +kernel) rfl, uw_11⟩, tyX12_ok, nmX12, rfl, rfl, by decide +kernel⟩
theorem fw_11_73 : FW RX12 73 11 32 (.array .int) true := ⟨RX12, TX12, 66, tyX12, ⟨rfl, by decide, gw5 131 (by decide +kernel) rfl, uw_11⟩, tyX12_ok, nmX12, rfl, rfl, by decide +kernel⟩
theorem fw_11_76 : FW RX12 76 11 34 (.array .boolean) true := ⟨RX12, TX12, 66, tyX12, ⟨rfl, by decide, gw5 133 (by decide +kernel) rfl, uw_11⟩, tyX12_ok, nmX12, rfl, rfl, by decide +kernel⟩
theorem fw_11_80 : FW RX12 80 11 35 (.array .int) true := ⟨RX12, TX12, 66, tyX12, ⟨rfl, by decide, gw5 134 (by decide +kernel) rfl, uw_11⟩, tyX12_ok, nmX12, rfl, rfl, by decide +kernel⟩
theorem fw_11_83 : FW RX12 83 11 36 (.array .int) true := ⟨RX12, TX12, 66, tyX12, ⟨rfl, by decide, gw5 135 (by decide +kernel) rfl, uw_11⟩, tyX12_ok, nmX12, rfl, rfl, by decide +kernel⟩
theorem fw_11_86 : FW RX12 86 11 37 (.array .int) true := ⟨RX12, TX12, 66, tyX12, ⟨rfl, by decide, gw5 136 (by decide +kernel) rfl, uw_11⟩, tyX12_ok, nmX12, rfl, rfl, by decide +kernel⟩
theorem fw_11_89 : FW RX12 89 11 38 (.array .int) true := ⟨RX12, TX12, 66, tyX12, ⟨rfl, by decide, gw5 137 (by decide +kernel) rfl, uw_11⟩, tyX12_ok, nmX12, rfl, rfl, by decide +kernel⟩
theorem fw_11_92 : FW RX12 92 11 40 (.array .int) true := ⟨RX12, TX12, 66, tyX12, ⟨rfl, by decide, gw5 139 (by decide +kernel) rfl, uw_11⟩, tyX12_ok, nmX12, rfl, rfl, by decide +kernel⟩
theorem fw_11_95 : FW RX12 95 11 41 (.array .int) true := ⟨RX12, TX12, 66, tyX12, ⟨rfl, by decide, gw5 140 (by decide +kernel) rfl, uw_11⟩, tyX12_ok, nmX12, rfl, rfl, by decide +kernel⟩
theorem fw_11_98 : FW RX12 98 11 42 (.array .int) true := ⟨RX12, TX12, 66, tyX12, ⟨rfl, by decide, gw5 141 (by decide +kernel) rfl, uw_11⟩, tyX12_ok, nmX12, rfl, rfl, by decide +kernel⟩
theorem fw_11_101 : FW RX12 101 11 44 (.array .int) true := ⟨RX12, TX12, 66, tyX12, ⟨rfl, by decide, gw5 143 (by decide +kernel) rfl, uw_11⟩, tyX12_ok, nmX12, rfl, rfl, by decide +kernel⟩
theorem fw_11_104 : FW RX12 104 11 45 (.array .int) true := ⟨RX12, TX12, 66, tyX12, ⟨rfl, by decide, gw5 144 (by decide +kernel) rfl, uw_11⟩, tyX12_ok, nmX12, rfl, rfl, by decide +kernel⟩
theorem fw_11_107 : FW RX12 107 11 47 (.array .int) true := ⟨RX12, TX12, 66, tyX12, ⟨rfl, by decide, gw5 146 (by decide +kernel) rfl, uw_11⟩, tyX12_ok, nmX12, rfl, rfl, by decide +kernel⟩
theorem fw_11_110 : FW RX12 110 11 48 (.array .int) true := ⟨RX12, TX12, 66, tyX12, ⟨rfl, by decide, gw5 147 (by decide +kernel) rfl, uw_11⟩, tyX12_ok, nmX12, rfl, rfl, by decide +kernel⟩
theorem fw_11_113 : FW RX12 113 11 55 (.array .int) true := ⟨RX12, TX12, 66, tyX12, ⟨rfl, by decide, gw5 154 (by decide +kernel) rfl, uw_11⟩, tyX12_ok, nmX12, rfl, rfl, by decide +kernel⟩
theorem fw_11_116 : FW RX12 116 11 56 (.array .int) true := ⟨RX12, TX12, 66, tyX12, ⟨rfl, by decide, gw5 155 (by decide +kernel) rfl, uw_11⟩, tyX12_ok, nmX12, rfl, rfl, by decide +kernel⟩
theorem fw_11_119 : FW RX12 119 11 58 (.array .int) true := ⟨RX12, TX12, 66, tyX12, ⟨rfl, by decide, gw5 157 (by decide +kernel) rfl, uw_11⟩, tyX12_ok, nmX12, rfl, rfl, by decide +kernel⟩
theorem fw_11_122 : FW RX12 122 11 59 (.array .int) true := ⟨RX12, TX12, 66, tyX12, ⟨rfl, by decide, gw5 158 (by decide +kernel) rfl, uw_11⟩, tyX12_ok, nmX12, rfl, rfl, by decide +kernel⟩
theorem fw_11_125 : FW RX12 125 11 61 (.array .int) true := ⟨RX12, TX12, 66, tyX12, ⟨rfl, by decide, gw5 160 (by decide +kernel) rfl, uw_11⟩, tyX12_ok, nmX12, rfl, rfl, by decide +kernel⟩
theorem fw_11_128 : FW RX12 128 11 62 (.array .boolean) true := ⟨RX12, TX12, 66, tyX12, ⟨rfl, by decide, gw5 161 (by decide +kernel) rfl, uw_11⟩, tyX12_ok, nmX12, rfl, rfl, by decide +kernel⟩
theorem fw_11_131 : FW RX12 131 11 63 (.array .int) true := ⟨RX12, TX12, 66, tyX12, ⟨rfl, by decide, gw5 162 (by decide +kernel) rfl, uw_11⟩, tyX12_ok, nmX12, rfl, rfl, by decide +kernel⟩
theorem fw_11_134 : FW RX12 134 11 64 (.array .boolean) true := ⟨RX12, TX12, 66, tyX12, ⟨rfl, by decide, gw5 163 (by decide +kernel) rfl, uw_11⟩, tyX12_ok, nmX12, rfl, rfl, by decide +kernel⟩
theorem fw_11_137 : FW RX12 137 11 65 (.array .int) true := ⟨RX12, TX12, 66, tyX12, ⟨rfl, by decide, gw5 164 (by decide +kernel) rfl, uw_11⟩, tyX12_ok, nmX12, rfl, rfl, by decide +kernel⟩
set_option maxRecDepth 20000 in
theorem nc_L_7 : NC RL 7 10 15 [.null, .null, .null, .null, .null, .null, .null, .null, .null, .null, .null, .null, .null, .null, .null] := ⟨RX11, TX11, tyX11, rfl, uw_10, tyX11_ok, gw1 23 (by decide +kernel) rfl, gw1 24 (by decide +kernel) rfl, gw1 1 (by decide +kernel) rfl, by decide +kernel⟩
set_option maxRecDepth 20000 in
theorem nc_L_10 : NC RL 10 11 66 [.int 0, .null, .int 0, .null, .int 0, .null, .null, .null, .null, .null, .int 0, .int 0, .int 0, .int 0, .int 0, .int 0, .int 0, .int 0, .int 0, .int 0, .int 0, .null, .null, .null, .null, .null, .null, .null, .null, .null, .null, .null, .null, .int 0, .null, .null, .null, .null, .null, .int 0, .null, .null, .null, .int 0, .null, .null, .int 0, .null, .null, .int 0, .int 0, .int 0, .int 0, .int 0, .int 0, .null, .null, .int 0, .null, .null, .int 0, .null, .null, .null, .null, .null] := ⟨RX12, TX12, tyX12, rfl, uw_11, tyX12_ok, gw5 75 (by decide +kernel) rfl, gw5 76 (by decide +kernel) rfl, gw1 12 (by decide +kernel) rfl, by decide +kernel⟩
def kb_cX0_init_0 : List Nat := [42, 183, 0, 3, 42, 16, 7, 188, 10, 181, 0, 9, 42, 16, 7, 188, 10, 181, 0, 15]
theorem ac_cX0_init_0 : AL cX0_init 0 kb_cX0_init_0 := AL.of (m := 20) (by decide +kernel)
theorem dX0_init_0 : decode cX0_init 0 = .ok (.aload_n 0, 1) := o42 ac_cX0_init_0 0 rfl
theorem dX0_init_1 : decode cX0_init 1 = .ok (.invokespecial 3, 3) := o183 ac_cX0_init_0 1 0 3 rfl
theorem dX0_init_4 : decode cX0_init 4 = .ok (.aload_n 0, 1) := o42 ac_cX0_init_0 4 rfl
theorem dX0_init_5 : decode cX0_init 5 = .ok (.bipush 7, 2) := o16p ac_cX0_init_0 5 7 rfl rfl
theorem dX0_init_7 : decode cX0_init 7 = .ok (.newarray .int, 2) := by decide +kernel
theorem dX0_init_9 : decode cX0_init 9 = .ok (.putfield 9, 3) := o181 ac_cX0_init_0 9 0 9 rfl
theorem dX0_init_12 : decode cX0_init 12 = .ok (.aload_n 0, 1) := o42 ac_cX0_init_0 12 rfl
theorem dX0_init_13 : decode cX0_init 13 = .ok (.bipush 7, 2) := o16p ac_cX0_init_0 13 7 rfl rfl
theorem dX0_init_15 : decode cX0_init 15 = .ok (.newarray .int, 2) := by decide +kernel
def kb_cX0_init_16 : List Nat := [10, 181, 0, 15, 42, 16, 7, 188, 10, 181, 0, 18, 42, 2, 181, 0, 21, 42, 2, 181]
theorem ac_cX0_init_16 : AL cX0_init 16 kb_cX0_init_16 := AL.of (m := 20) (by decide +kernel)
theorem dX0_init_17 : decode cX0_init 17 = .ok (.putfield 15, 3) := o181 ac_cX0_init_16 1 0 15 rfl
theorem dX0_init_20 : decode cX0_init 20 = .ok (.aload_n 0, 1) := o42 ac_cX0_init_16 4 rfl
theorem dX0_init_21 : decode cX0_init 21 = .ok (.bipush 7, 2) := o16p ac_cX0_init_16 5 7 rfl rfl
theorem dX0_init_23 : decode cX0_init 23 = .ok (.newarray .int, 2) := by decide +kernel
theorem dX0_init_25 : decode cX0_init 25 = .ok (.putfield 18, 3) := o181 ac_cX0_init_16 9 0 18 rfl
theorem dX0_init_28 : decode cX0_init 28 = .ok (.aload_n 0, 1) := o42 ac_cX0_init_16 12 rfl
theorem dX0_init_29 : decode cX0_init 29 = .ok (.iconst (-1), 1) := o2 ac_cX0_init_16 13 rfl
theorem dX0_init_30 : decode cX0_init 30 = .ok (.putfield 21, 3) := o181 ac_cX0_init_16 14 0 21 rfl
def kb_cX0_init_32 : List Nat := [21, 42, 2, 181, 0, 25, 177]
theorem ac_cX0_init_32 : AL cX0_init 32 kb_cX0_init_32 := AL.of (m := 7) (by decide +kernel)
theorem dX0_init_33 : decode cX0_init 33 = .ok (.aload_n 0, 1) := o42 ac_cX0_init_32 1 rfl
theorem dX0_init_34 : decode cX0_init 34 = .ok (.iconst (-1), 1) := o2 ac_cX0_init_32 2 rfl
theorem dX0_init_35 : decode cX0_init 35 = .ok (.putfield 25, 3) := o181 ac_cX0_init_32 3 0 25 rfl
theorem dX0_init_38 : decode cX0_init 38 = .ok (.return_, 1) := o177 ac_cX0_init_32 6 rfl
set_option maxHeartbeats 4000000 in
set_option maxRecDepth 100000 in
theorem n_0 {l : Launch} {D : va_G} {a : Nat} : KN (S := UU) l D yX0_init cX0_init 1 1 12 3 21 [.ref a] [(a, .inr (0, [.int 0, .null, .null, .null, .int 0, .int 0, .int 0, .int 0, .int 0, .int 0, .int 0, .int 0]))] [] (fun u => mw [60, 61, 62, 63] u.1 u.2 s0) (fun u => tcl [61, 62, 63] u) (fun u => u.1 60 = a) := by
  refine KN.of (by decide) (Nat.le_of_ble_eq_true rfl) 0 (fun Γ C hin hG Rt => ?_)
  have hin := hin rfl
  show GW Γ 0 [some (.ref a)] [] [(a, .inr (0, [.int 0, .null, .null, .null, .int 0, .int 0, .int 0, .int 0, .int 0, .int 0, .int 0, .int 0]))] [] 0 0
  refine g_aload_n C dX0_init_0 (i := 0) rfl rfl ?_
  refine g_objInit C oi_0 oi_w.1 oi_w.2 (by decide) (Nat.le_of_ble_eq_true rfl) dX0_init_1 ?_
  refine g_aload_n C dX0_init_4 (i := 0) rfl rfl ?_
  refine g_bipush C dX0_init_5 (v := 7) rfl ?_
  refine g_newa C (atype := .int) (ty := .int) 7 (7, .inl (fun _ => 0)) aw_int rfl (fun _ => rfl) (by decide) rfl (by decide) (by omega) (by omega) dX0_init_7 (fun q1 c1 => ?_)
  refine g_eq (ws1 := [(a, .inr (0, [.int 0, .null, .null, .null, .int 0, .int 0, .int 0, .int 0, .int 0, .int 0, .int 0, .int 0])), (q1, .inl (c1, 7, .inl (fun _ => 0)))]) (ts1 := ([] ++ [(c1, .int)])) (kc1 := 1) (ks1 := 7) rfl rfl rfl rfl ?_
  refine g_put C hin (q0 := 0) fw_0_9 rfl rfl rfl (Nat.le_of_ble_eq_true rfl) dX0_init_9 (ws1 := [(a, .inr (0, [.int 0, .ref q1, .null, .null, .int 0, .int 0, .int 0, .int 0, .int 0, .int 0, .int 0, .int 0])), (q1, .inl (c1, 7, .inl (fun _ => 0)))]) rfl ?_
  refine g_aload_n C dX0_init_12 (i := 0) rfl rfl ?_
  refine g_bipush C dX0_init_13 (v := 7) rfl ?_
  refine g_newa C (atype := .int) (ty := .int) 7 (7, .inl (fun _ => 0)) aw_int rfl (fun _ => rfl) (by decide) rfl (by decide) (by omega) (by omega) dX0_init_15 (fun q2 c2 => ?_)
  refine g_eq (ws1 := [(a, .inr (0, [.int 0, .ref q1, .null, .null, .int 0, .int 0, .int 0, .int 0, .int 0, .int 0, .int 0, .int 0])), (q1, .inl (c1, 7, .inl (fun _ => 0))), (q2, .inl (c2, 7, .inl (fun _ => 0)))]) (ts1 := (([] ++ [(c1, .int)]) ++ [(c2, .int)])) (kc1 := 2) (ks1 := 14) rfl rfl rfl rfl ?_
  refine g_put C hin (q0 := 0) fw_0_15 rfl rfl rfl (Nat.le_of_ble_eq_true rfl) dX0_init_17 (ws1 := [(a, .inr (0, [.int 0, .ref q1, .ref q2, .null, .int 0, .int 0, .int 0, .int 0, .int 0, .int 0, .int 0, .int 0])), (q1, .inl (c1, 7, .inl (fun _ => 0))), (q2, .inl (c2, 7, .inl (fun _ => 0)))]) rfl ?_
  refine g_aload_n C dX0_init_20 (i := 0) rfl rfl ?_
  refine g_bipush C dX0_init_21 (v := 7) rfl ?_
  refine g_newa C (atype := .int) (ty := .int) 7 (7, .inl (fun _ => 0)) aw_int rfl (fun _ => rfl) (by decide) rfl (by decide) (by omega) (by omega) dX0_init_23 (fun q3 c3 => ?_)
  refine g_eq (ws1 := [(a, .inr (0, [.int 0, .ref q1, .ref q2, .null, .int 0, .int 0, .int 0, .int 0, .int 0, .int 0, .int 0, .int 0])), (q1, .inl (c1, 7, .inl (fun _ => 0))), (q2, .inl (c2, 7, .inl (fun _ => 0))), (q3, .inl (c3, 7, .inl (fun _ => 0)))]) (ts1 := ((([] ++ [(c1, .int)]) ++ [(c2, .int)]) ++ [(c3, .int)])) (kc1 := 3) (ks1 := 21) rfl rfl rfl rfl ?_
  refine g_put C hin (q0 := 0) fw_0_18 rfl rfl rfl (Nat.le_of_ble_eq_true rfl) dX0_init_25 (ws1 := [(a, .inr (0, [.int 0, .ref q1, .ref q2, .ref q3, .int 0, .int 0, .int 0, .int 0, .int 0, .int 0, .int 0, .int 0])), (q1, .inl (c1, 7, .inl (fun _ => 0))), (q2, .inl (c2, 7, .inl (fun _ => 0))), (q3, .inl (c3, 7, .inl (fun _ => 0)))]) rfl ?_
  refine g_aload_n C dX0_init_28 (i := 0) rfl rfl ?_
  refine g_iconst C dX0_init_29 (v := (-1)) rfl ?_
  refine g_put C hin (q0 := 0) fw_0_21 rfl rfl rfl (Nat.le_of_ble_eq_true rfl) dX0_init_30 (ws1 := [(a, .inr (0, [.int 0, .ref q1, .ref q2, .ref q3, .int 0, .int 0, .int 0, .int 0, .int 0, .int (-1), .int 0, .int 0])), (q1, .inl (c1, 7, .inl (fun _ => 0))), (q2, .inl (c2, 7, .inl (fun _ => 0))), (q3, .inl (c3, 7, .inl (fun _ => 0)))]) rfl ?_
  refine g_aload_n C dX0_init_33 (i := 0) rfl rfl ?_
  refine g_iconst C dX0_init_34 (v := (-1)) rfl ?_
  refine g_put C hin (q0 := 0) fw_0_25 rfl rfl rfl (Nat.le_of_ble_eq_true rfl) dX0_init_35 (ws1 := [(a, .inr (0, [.int 0, .ref q1, .ref q2, .ref q3, .int 0, .int 0, .int 0, .int 0, .int 0, .int (-1), .int 0, .int (-1)])), (q1, .inl (c1, 7, .inl (fun _ => 0))), (q2, .inl (c2, 7, .inl (fun _ => 0))), (q3, .inl (c3, 7, .inl (fun _ => 0)))]) rfl ?_
  exact g_vret Rt ((fun i => if i = 60 then a else if i = 61 then q1 else if i = 62 then q2 else if i = 63 then q3 else 0), (fun i => if i = 61 then c1 else if i = 62 then c2 else if i = 63 then c3 else c3)) dX0_init_38 (by decide) (by decide) rfl rfl rfl
def kb_cX1_init_0 : List Nat := [42, 183, 0, 3, 42, 16, 9, 188, 10, 181, 0, 9, 42, 16, 32, 188, 10, 181, 0, 15]
theorem ac_cX1_init_0 : AL cX1_init 0 kb_cX1_init_0 := AL.of (m := 20) (by decide +kernel)
theorem dX1_init_0 : decode cX1_init 0 = .ok (.aload_n 0, 1) := o42 ac_cX1_init_0 0 rfl
theorem dX1_init_1 : decode cX1_init 1 = .ok (.invokespecial 3, 3) := o183 ac_cX1_init_0 1 0 3 rfl
theorem dX1_init_4 : decode cX1_init 4 = .ok (.aload_n 0, 1) := o42 ac_cX1_init_0 4 rfl
theorem dX1_init_5 : decode cX1_init 5 = .ok (.bipush 9, 2) := o16p ac_cX1_init_0 5 9 rfl rfl
theorem dX1_init_7 : decode cX1_init 7 = .ok (.newarray .int, 2) := by decide +kernel
theorem dX1_init_9 : decode cX1_init 9 = .ok (.putfield 9, 3) := o181 ac_cX1_init_0 9 0 9 rfl
theorem dX1_init_12 : decode cX1_init 12 = .ok (.aload_n 0, 1) := o42 ac_cX1_init_0 12 rfl
theorem dX1_init_13 : decode cX1_init 13 = .ok (.bipush 32, 2) := o16p ac_cX1_init_0 13 32 rfl rfl
theorem dX1_init_15 : decode cX1_init 15 = .ok (.newarray .int, 2) := by decide +kernel
def kb_cX1_init_16 : List Nat := [10, 181, 0, 15, 177]
theorem ac_cX1_init_16 : AL cX1_init 16 kb_cX1_init_16 := AL.of (m := 5) (by decide +kernel)
theorem dX1_init_17 : decode cX1_init 17 = .ok (.putfield 15, 3) := o181 ac_cX1_init_16 1 0 15 rfl
theorem dX1_init_20 : decode cX1_init 20 = .ok (.return_, 1) := o177 ac_cX1_init_16 4 rfl
set_option maxHeartbeats 4000000 in
set_option maxRecDepth 100000 in
theorem n_1 {l : Launch} {D : va_G} {a : Nat} : KN (S := UU) l D yX1_init cX1_init 1 1 12 2 41 [.ref a] [(a, .inr (1, [.null, .null, .int 0, .int 0]))] [] (fun u => mw [9, 10, 11] u.1 u.2 s0) (fun u => tcl [10, 11] u) (fun u => u.1 9 = a) := by
  refine KN.of (by decide) (Nat.le_of_ble_eq_true rfl) 0 (fun Γ C hin hG Rt => ?_)
  have hin := hin rfl
  show GW Γ 0 [some (.ref a)] [] [(a, .inr (1, [.null, .null, .int 0, .int 0]))] [] 0 0
  refine g_aload_n C dX1_init_0 (i := 0) rfl rfl ?_
  refine g_objInit C oi_1 oi_w.1 oi_w.2 (by decide) (Nat.le_of_ble_eq_true rfl) dX1_init_1 ?_
  refine g_aload_n C dX1_init_4 (i := 0) rfl rfl ?_
  refine g_bipush C dX1_init_5 (v := 9) rfl ?_
  refine g_newa C (atype := .int) (ty := .int) 9 (9, .inl (fun _ => 0)) aw_int rfl (fun _ => rfl) (by decide) rfl (by decide) (by omega) (by omega) dX1_init_7 (fun q1 c1 => ?_)
  refine g_eq (ws1 := [(a, .inr (1, [.null, .null, .int 0, .int 0])), (q1, .inl (c1, 9, .inl (fun _ => 0)))]) (ts1 := ([] ++ [(c1, .int)])) (kc1 := 1) (ks1 := 9) rfl rfl rfl rfl ?_
  refine g_put C hin (q0 := 0) fw_1_9 rfl rfl rfl (Nat.le_of_ble_eq_true rfl) dX1_init_9 (ws1 := [(a, .inr (1, [.ref q1, .null, .int 0, .int 0])), (q1, .inl (c1, 9, .inl (fun _ => 0)))]) rfl ?_
  refine g_aload_n C dX1_init_12 (i := 0) rfl rfl ?_
  refine g_bipush C dX1_init_13 (v := 32) rfl ?_
  refine g_newa C (atype := .int) (ty := .int) 32 (32, .inl (fun _ => 0)) aw_int rfl (fun _ => rfl) (by decide) rfl (by decide) (by omega) (by omega) dX1_init_15 (fun q2 c2 => ?_)
  refine g_eq (ws1 := [(a, .inr (1, [.ref q1, .null, .int 0, .int 0])), (q1, .inl (c1, 9, .inl (fun _ => 0))), (q2, .inl (c2, 32, .inl (fun _ => 0)))]) (ts1 := (([] ++ [(c1, .int)]) ++ [(c2, .int)])) (kc1 := 2) (ks1 := 41) rfl rfl rfl rfl ?_
  refine g_put C hin (q0 := 0) fw_1_15 rfl rfl rfl (Nat.le_of_ble_eq_true rfl) dX1_init_17 (ws1 := [(a, .inr (1, [.ref q1, .ref q2, .int 0, .int 0])), (q1, .inl (c1, 9, .inl (fun _ => 0))), (q2, .inl (c2, 32, .inl (fun _ => 0)))]) rfl ?_
  exact g_vret Rt ((fun i => if i = 9 then a else if i = 10 then q1 else if i = 11 then q2 else 0), (fun i => if i = 10 then c1 else if i = 11 then c2 else c2)) dX1_init_20 (by decide) (by decide) rfl rfl rfl
def kb_cX2_init_0 : List Nat := [42, 183, 0, 3, 42, 16, 20, 188, 10, 181, 0, 9, 42, 16, 20, 188, 4, 181, 0, 15]
theorem ac_cX2_init_0 : AL cX2_init 0 kb_cX2_init_0 := AL.of (m := 20) (by decide +kernel)
theorem dX2_init_0 : decode cX2_init 0 = .ok (.aload_n 0, 1) := o42 ac_cX2_init_0 0 rfl
theorem dX2_init_1 : decode cX2_init 1 = .ok (.invokespecial 3, 3) := o183 ac_cX2_init_0 1 0 3 rfl
theorem dX2_init_4 : decode cX2_init 4 = .ok (.aload_n 0, 1) := o42 ac_cX2_init_0 4 rfl
theorem dX2_init_5 : decode cX2_init 5 = .ok (.bipush 20, 2) := o16p ac_cX2_init_0 5 20 rfl rfl
theorem dX2_init_7 : decode cX2_init 7 = .ok (.newarray .int, 2) := by decide +kernel
theorem dX2_init_9 : decode cX2_init 9 = .ok (.putfield 9, 3) := o181 ac_cX2_init_0 9 0 9 rfl
theorem dX2_init_12 : decode cX2_init 12 = .ok (.aload_n 0, 1) := o42 ac_cX2_init_0 12 rfl
theorem dX2_init_13 : decode cX2_init 13 = .ok (.bipush 20, 2) := o16p ac_cX2_init_0 13 20 rfl rfl
theorem dX2_init_15 : decode cX2_init 15 = .ok (.newarray .boolean, 2) := by decide +kernel
def kb_cX2_init_16 : List Nat := [4, 181, 0, 15, 177]
theorem ac_cX2_init_16 : AL cX2_init 16 kb_cX2_init_16 := AL.of (m := 5) (by decide +kernel)
theorem dX2_init_17 : decode cX2_init 17 = .ok (.putfield 15, 3) := o181 ac_cX2_init_16 1 0 15 rfl
theorem dX2_init_20 : decode cX2_init 20 = .ok (.return_, 1) := o177 ac_cX2_init_16 4 rfl
set_option maxHeartbeats 4000000 in
set_option maxRecDepth 100000 in
theorem n_2 {l : Launch} {D : va_G} {a : Nat} : KN (S := UU) l D yX2_init cX2_init 1 1 12 2 40 [.ref a] [(a, .inr (2, [.null, .null, .int 0]))] [] (fun u => mw [14, 15, 16] u.1 u.2 s0) (fun u => tcl [15, 16] u) (fun u => u.1 14 = a) := by
  refine KN.of (by decide) (Nat.le_of_ble_eq_true rfl) 0 (fun Γ C hin hG Rt => ?_)
  have hin := hin rfl
  show GW Γ 0 [some (.ref a)] [] [(a, .inr (2, [.null, .null, .int 0]))] [] 0 0
  refine g_aload_n C dX2_init_0 (i := 0) rfl rfl ?_
  refine g_objInit C oi_2 oi_w.1 oi_w.2 (by decide) (Nat.le_of_ble_eq_true rfl) dX2_init_1 ?_
  refine g_aload_n C dX2_init_4 (i := 0) rfl rfl ?_
  refine g_bipush C dX2_init_5 (v := 20) rfl ?_
  refine g_newa C (atype := .int) (ty := .int) 20 (20, .inl (fun _ => 0)) aw_int rfl (fun _ => rfl) (by decide) rfl (by decide) (by omega) (by omega) dX2_init_7 (fun q1 c1 => ?_)
  refine g_eq (ws1 := [(a, .inr (2, [.null, .null, .int 0])), (q1, .inl (c1, 20, .inl (fun _ => 0)))]) (ts1 := ([] ++ [(c1, .int)])) (kc1 := 1) (ks1 := 20) rfl rfl rfl rfl ?_
  refine g_put C hin (q0 := 0) fw_2_9 rfl rfl rfl (Nat.le_of_ble_eq_true rfl) dX2_init_9 (ws1 := [(a, .inr (2, [.ref q1, .null, .int 0])), (q1, .inl (c1, 20, .inl (fun _ => 0)))]) rfl ?_
  refine g_aload_n C dX2_init_12 (i := 0) rfl rfl ?_
  refine g_bipush C dX2_init_13 (v := 20) rfl ?_
  refine g_newa C (atype := .boolean) (ty := .boolean) 20 (20, .inl (fun _ => 0)) aw_boolean rfl (fun _ => rfl) (by decide) rfl (by decide) (by omega) (by omega) dX2_init_15 (fun q2 c2 => ?_)
  refine g_eq (ws1 := [(a, .inr (2, [.ref q1, .null, .int 0])), (q1, .inl (c1, 20, .inl (fun _ => 0))), (q2, .inl (c2, 20, .inl (fun _ => 0)))]) (ts1 := (([] ++ [(c1, .int)]) ++ [(c2, .boolean)])) (kc1 := 2) (ks1 := 40) rfl rfl rfl rfl ?_
  refine g_put C hin (q0 := 0) fw_2_15 rfl rfl rfl (Nat.le_of_ble_eq_true rfl) dX2_init_17 (ws1 := [(a, .inr (2, [.ref q1, .ref q2, .int 0])), (q1, .inl (c1, 20, .inl (fun _ => 0))), (q2, .inl (c2, 20, .inl (fun _ => 0)))]) rfl ?_
  exact g_vret Rt ((fun i => if i = 14 then a else if i = 15 then q1 else if i = 16 then q2 else 0), (fun i => if i = 15 then c1 else if i = 16 then c2 else c2)) dX2_init_20 (by decide) (by decide) rfl rfl rfl
def kb_cX7_init_0 : List Nat := [42, 183, 0, 3, 42, 17, 4, 0, 188, 10, 181, 0, 11, 42, 17, 4, 0, 188, 10, 181]
theorem ac_cX7_init_0 : AL cX7_init 0 kb_cX7_init_0 := AL.of (m := 20) (by decide +kernel)
theorem dX7_init_0 : decode cX7_init 0 = .ok (.aload_n 0, 1) := o42 ac_cX7_init_0 0 rfl
theorem dX7_init_1 : decode cX7_init 1 = .ok (.invokespecial 3, 3) := o183 ac_cX7_init_0 1 0 3 rfl
theorem dX7_init_4 : decode cX7_init 4 = .ok (.aload_n 0, 1) := o42 ac_cX7_init_0 4 rfl
theorem dX7_init_5 : decode cX7_init 5 = .ok (.sipush 1024, 3) := o17p ac_cX7_init_0 5 4 0 rfl rfl
theorem dX7_init_8 : decode cX7_init 8 = .ok (.newarray .int, 2) := by decide +kernel
theorem dX7_init_10 : decode cX7_init 10 = .ok (.putfield 11, 3) := o181 ac_cX7_init_0 10 0 11 rfl
theorem dX7_init_13 : decode cX7_init 13 = .ok (.aload_n 0, 1) := o42 ac_cX7_init_0 13 rfl
theorem dX7_init_14 : decode cX7_init 14 = .ok (.sipush 1024, 3) := o17p ac_cX7_init_0 14 4 0 rfl rfl
theorem dX7_init_17 : decode cX7_init 17 = .ok (.newarray .int, 2) := by decide +kernel
def kb_cX7_init_16 : List Nat := [0, 188, 10, 181, 0, 15, 42, 17, 4, 0, 188, 10, 181, 0, 18, 42, 16, 12, 188, 10]
theorem ac_cX7_init_16 : AL cX7_init 16 kb_cX7_init_16 := AL.of (m := 20) (by decide +kernel)
theorem dX7_init_19 : decode cX7_init 19 = .ok (.putfield 15, 3) := o181 ac_cX7_init_16 3 0 15 rfl
theorem dX7_init_22 : decode cX7_init 22 = .ok (.aload_n 0, 1) := o42 ac_cX7_init_16 6 rfl
theorem dX7_init_23 : decode cX7_init 23 = .ok (.sipush 1024, 3) := o17p ac_cX7_init_16 7 4 0 rfl rfl
theorem dX7_init_26 : decode cX7_init 26 = .ok (.newarray .int, 2) := by decide +kernel
theorem dX7_init_28 : decode cX7_init 28 = .ok (.putfield 18, 3) := o181 ac_cX7_init_16 12 0 18 rfl
theorem dX7_init_31 : decode cX7_init 31 = .ok (.aload_n 0, 1) := o42 ac_cX7_init_16 15 rfl
def kb_cX7_init_32 : List Nat := [16, 12, 188, 10, 181, 0, 21, 177]
theorem ac_cX7_init_32 : AL cX7_init 32 kb_cX7_init_32 := AL.of (m := 8) (by decide +kernel)
theorem dX7_init_32 : decode cX7_init 32 = .ok (.bipush 12, 2) := o16p ac_cX7_init_32 0 12 rfl rfl
theorem dX7_init_34 : decode cX7_init 34 = .ok (.newarray .int, 2) := by decide +kernel
theorem dX7_init_36 : decode cX7_init 36 = .ok (.putfield 21, 3) := o181 ac_cX7_init_32 4 0 21 rfl
theorem dX7_init_39 : decode cX7_init 39 = .ok (.return_, 1) := o177 ac_cX7_init_32 7 rfl
set_option maxHeartbeats 4000000 in
set_option maxRecDepth 100000 in
theorem n_6 {l : Launch} {D : va_G} {a : Nat} : KN (S := UU) l D yX7_init cX7_init 1 1 12 4 3084 [.ref a] [(a, .inr (6, [.null, .int 0, .null, .null, .null, .int 0]))] [] (fun u => mw [17, 18, 19, 20, 21] u.1 u.2 s0) (fun u => tcl [18, 19, 20, 21] u) (fun u => u.1 17 = a) := by
  refine KN.of (by decide) (Nat.le_of_ble_eq_true rfl) 0 (fun Γ C hin hG Rt => ?_)
  have hin := hin rfl
  show GW Γ 0 [some (.ref a)] [] [(a, .inr (6, [.null, .int 0, .null, .null, .null, .int 0]))] [] 0 0
  refine g_aload_n C dX7_init_0 (i := 0) rfl rfl ?_
  refine g_objInit C oi_6 oi_w.1 oi_w.2 (by decide) (Nat.le_of_ble_eq_true rfl) dX7_init_1 ?_
  refine g_aload_n C dX7_init_4 (i := 0) rfl rfl ?_
  refine g_sipush C dX7_init_5 (v := 1024) rfl ?_
  refine g_newa C (atype := .int) (ty := .int) 1024 (1024, .inl (fun _ => 0)) aw_int rfl (fun _ => rfl) (by decide) rfl (by decide) (by omega) (by omega) dX7_init_8 (fun q1 c1 => ?_)
  refine g_eq (ws1 := [(a, .inr (6, [.null, .int 0, .null, .null, .null, .int 0])), (q1, .inl (c1, 1024, .inl (fun _ => 0)))]) (ts1 := ([] ++ [(c1, .int)])) (kc1 := 1) (ks1 := 1024) rfl rfl rfl rfl ?_
  refine g_put C hin (q0 := 0) fw_6_11 rfl rfl rfl (Nat.le_of_ble_eq_true rfl) dX7_init_10 (ws1 := [(a, .inr (6, [.ref q1, .int 0, .null, .null, .null, .int 0])), (q1, .inl (c1, 1024, .inl (fun _ => 0)))]) rfl ?_
  refine g_aload_n C dX7_init_13 (i := 0) rfl rfl ?_
  refine g_sipush C dX7_init_14 (v := 1024) rfl ?_
  refine g_newa C (atype := .int) (ty := .int) 1024 (1024, .inl (fun _ => 0)) aw_int rfl (fun _ => rfl) (by decide) rfl (by decide) (by omega) (by omega) dX7_init_17 (fun q2 c2 => ?_)
  refine g_eq (ws1 := [(a, .inr (6, [.ref q1, .int 0, .null, .null, .null, .int 0])), (q1, .inl (c1, 1024, .inl (fun _ => 0))), (q2, .inl (c2, 1024, .inl (fun _ => 0)))]) (ts1 := (([] ++ [(c1, .int)]) ++ [(c2, .int)])) (kc1 := 2) (ks1 := 2048) rfl rfl rfl rfl ?_
  refine g_put C hin (q0 := 0) fw_6_15 rfl rfl rfl (Nat.le_of_ble_eq_true rfl) dX7_init_19 (ws1 := [(a, .inr (6, [.ref q1, .int 0, .ref q2, .null, .null, .int 0])), (q1, .inl (c1, 1024, .inl (fun _ => 0))), (q2, .inl (c2, 1024, .inl (fun _ => 0)))]) rfl ?_
  refine g_aload_n C dX7_init_22 (i := 0) rfl rfl ?_
  refine g_sipush C dX7_init_23 (v := 1024) rfl ?_
  refine g_newa C (atype := .int) (ty := .int) 1024 (1024, .inl (fun _ => 0)) aw_int rfl (fun _ => rfl) (by decide) rfl (by decide) (by omega) (by omega) dX7_init_26 (fun q3 c3 => ?_)
  refine g_eq (ws1 := [(a, .inr (6, [.ref q1, .int 0, .ref q2, .null, .null, .int 0])), (q1, .inl (c1, 1024, .inl (fun _ => 0))), (q2, .inl (c2, 1024, .inl (fun _ => 0))), (q3, .inl (c3, 1024, .inl (fun _ => 0)))]) (ts1 := ((([] ++ [(c1, .int)]) ++ [(c2, .int)]) ++ [(c3, .int)])) (kc1 := 3) (ks1 := 3072) rfl rfl rfl rfl ?_
  refine g_put C hin (q0 := 0) fw_6_18 rfl rfl rfl (Nat.le_of_ble_eq_true rfl) dX7_init_28 (ws1 := [(a, .inr (6, [.ref q1, .int 0, .ref q2, .ref q3, .null, .int 0])), (q1, .inl (c1, 1024, .inl (fun _ => 0))), (q2, .inl (c2, 1024, .inl (fun _ => 0))), (q3, .inl (c3, 1024, .inl (fun _ => 0)))]) rfl ?_
  refine g_aload_n C dX7_init_31 (i := 0) rfl rfl ?_
  refine g_bipush C dX7_init_32 (v := 12) rfl ?_
  refine g_newa C (atype := .int) (ty := .int) 12 (12, .inl (fun _ => 0)) aw_int rfl (fun _ => rfl) (by decide) rfl (by decide) (by omega) (by omega) dX7_init_34 (fun q4 c4 => ?_)
  refine g_eq (ws1 := [(a, .inr (6, [.ref q1, .int 0, .ref q2, .ref q3, .null, .int 0])), (q1, .inl (c1, 1024, .inl (fun _ => 0))), (q2, .inl (c2, 1024, .inl (fun _ => 0))), (q3, .inl (c3, 1024, .inl (fun _ => 0))), (q4, .inl (c4, 12, .inl (fun _ => 0)))]) (ts1 := (((([] ++ [(c1, .int)]) ++ [(c2, .int)]) ++ [(c3, .int)]) ++ [(c4, .int)])) (kc1 := 4) (ks1 := 3084) rfl rfl rfl rfl ?_
  refine g_put C hin (q0 := 0) fw_6_21 rfl rfl rfl (Nat.le_of_ble_eq_true rfl) dX7_init_36 (ws1 := [(a, .inr (6, [.ref q1, .int 0, .ref q2, .ref q3, .ref q4, .int 0])), (q1, .inl (c1, 1024, .inl (fun _ => 0))), (q2, .inl (c2, 1024, .inl (fun _ => 0))), (q3, .inl (c3, 1024, .inl (fun _ => 0))), (q4, .inl (c4, 12, .inl (fun _ => 0)))]) rfl ?_
  exact g_vret Rt ((fun i => if i = 17 then a else if i = 18 then q1 else if i = 19 then q2 else if i = 20 then q3 else if i = 21 then q4 else 0), (fun i => if i = 18 then c1 else if i = 19 then c2 else if i = 20 then c3 else if i = 21 then c4 else c4)) dX7_init_39 (by decide) (by decide) rfl rfl rfl
def kb_cX8_init_0 : List Nat := [42, 183, 0, 1, 42, 8, 188, 10, 181, 0, 9, 42, 8, 188, 10, 181, 0, 13, 177]
theorem ac_cX8_init_0 : AL cX8_init 0 kb_cX8_init_0 := AL.of (m := 19) (by decide +kernel)
theorem dX8_init_0 : decode cX8_init 0 = .ok (.aload_n 0, 1) := o42 ac_cX8_init_0 0 rfl
theorem dX8_init_1 : decode cX8_init 1 = .ok (.invokespecial 1, 3) := o183 ac_cX8_init_0 1 0 1 rfl
theorem dX8_init_4 : decode cX8_init 4 = .ok (.aload_n 0, 1) := o42 ac_cX8_init_0 4 rfl
theorem dX8_init_5 : decode cX8_init 5 = .ok (.iconst 5, 1) := o8 ac_cX8_init_0 5 rfl
theorem dX8_init_6 : decode cX8_init 6 = .ok (.newarray .int, 2) := by decide +kernel
theorem dX8_init_8 : decode cX8_init 8 = .ok (.putfield 9, 3) := o181 ac_cX8_init_0 8 0 9 rfl
theorem dX8_init_11 : decode cX8_init 11 = .ok (.aload_n 0, 1) := o42 ac_cX8_init_0 11 rfl
theorem dX8_init_12 : decode cX8_init 12 = .ok (.iconst 5, 1) := o8 ac_cX8_init_0 12 rfl
theorem dX8_init_13 : decode cX8_init 13 = .ok (.newarray .int, 2) := by decide +kernel
theorem dX8_init_15 : decode cX8_init 15 = .ok (.putfield 13, 3) := o181 ac_cX8_init_0 15 0 13 rfl
def kb_cX8_init_16 : List Nat := [0, 13, 177]
theorem ac_cX8_init_16 : AL cX8_init 16 kb_cX8_init_16 := AL.of (m := 3) (by decide +kernel)
theorem dX8_init_18 : decode cX8_init 18 = .ok (.return_, 1) := o177 ac_cX8_init_16 2 rfl
set_option maxHeartbeats 4000000 in
set_option maxRecDepth 100000 in
theorem n_7 {l : Launch} {D : va_G} {a : Nat} : KN (S := UU) l D yX8_init cX8_init 1 1 12 2 10 [.ref a] [(a, .inr (7, [.null, .null, .int 0, .int 0, .int 0]))] [] (fun u => mw [22, 23, 24] u.1 u.2 s0) (fun u => tcl [23, 24] u) (fun u => u.1 22 = a) := by
  refine KN.of (by decide) (Nat.le_of_ble_eq_true rfl) 0 (fun Γ C hin hG Rt => ?_)
  have hin := hin rfl
  show GW Γ 0 [some (.ref a)] [] [(a, .inr (7, [.null, .null, .int 0, .int 0, .int 0]))] [] 0 0
  refine g_aload_n C dX8_init_0 (i := 0) rfl rfl ?_
  refine g_objInit C oi_7 oi_w.1 oi_w.2 (by decide) (Nat.le_of_ble_eq_true rfl) dX8_init_1 ?_
  refine g_aload_n C dX8_init_4 (i := 0) rfl rfl ?_
  refine g_iconst C dX8_init_5 (v := 5) rfl ?_
  refine g_newa C (atype := .int) (ty := .int) 5 (5, .inl (fun _ => 0)) aw_int rfl (fun _ => rfl) (by decide) rfl (by decide) (by omega) (by omega) dX8_init_6 (fun q1 c1 => ?_)
  refine g_eq (ws1 := [(a, .inr (7, [.null, .null, .int 0, .int 0, .int 0])), (q1, .inl (c1, 5, .inl (fun _ => 0)))]) (ts1 := ([] ++ [(c1, .int)])) (kc1 := 1) (ks1 := 5) rfl rfl rfl rfl ?_
  refine g_put C hin (q0 := 0) fw_7_9 rfl rfl rfl (Nat.le_of_ble_eq_true rfl) dX8_init_8 (ws1 := [(a, .inr (7, [.ref q1, .null, .int 0, .int 0, .int 0])), (q1, .inl (c1, 5, .inl (fun _ => 0)))]) rfl ?_
  refine g_aload_n C dX8_init_11 (i := 0) rfl rfl ?_
  refine g_iconst C dX8_init_12 (v := 5) rfl ?_
  refine g_newa C (atype := .int) (ty := .int) 5 (5, .inl (fun _ => 0)) aw_int rfl (fun _ => rfl) (by decide) rfl (by decide) (by omega) (by omega) dX8_init_13 (fun q2 c2 => ?_)
  refine g_eq (ws1 := [(a, .inr (7, [.ref q1, .null, .int 0, .int 0, .int 0])), (q1, .inl (c1, 5, .inl (fun _ => 0))), (q2, .inl (c2, 5, .inl (fun _ => 0)))]) (ts1 := (([] ++ [(c1, .int)]) ++ [(c2, .int)])) (kc1 := 2) (ks1 := 10) rfl rfl rfl rfl ?_
  refine g_put C hin (q0 := 0) fw_7_13 rfl rfl rfl (Nat.le_of_ble_eq_true rfl) dX8_init_15 (ws1 := [(a, .inr (7, [.ref q1, .ref q2, .int 0, .int 0, .int 0])), (q1, .inl (c1, 5, .inl (fun _ => 0))), (q2, .inl (c2, 5, .inl (fun _ => 0)))]) rfl ?_
  exact g_vret Rt ((fun i => if i = 22 then a else if i = 23 then q1 else if i = 24 then q2 else 0), (fun i => if i = 23 then c1 else if i = 24 then c2 else c2)) dX8_init_18 (by decide) (by decide) rfl rfl rfl
def kb_cX9_init_0 : List Nat := [42, 183, 0, 3, 42, 17, 7, 208, 188, 10, 181, 0, 9, 42, 17, 1, 145, 188, 10, 181]
theorem ac_cX9_init_0 : AL cX9_init 0 kb_cX9_init_0 := AL.of (m := 20) (by decide +kernel)
theorem dX9_init_0 : decode cX9_init 0 = .ok (.aload_n 0, 1) := o42 ac_cX9_init_0 0 rfl
theorem dX9_init_1 : decode cX9_init 1 = .ok (.invokespecial 3, 3) := o183 ac_cX9_init_0 1 0 3 rfl
theorem dX9_init_4 : decode cX9_init 4 = .ok (.aload_n 0, 1) := o42 ac_cX9_init_0 4 rfl
theorem dX9_init_5 : decode cX9_init 5 = .ok (.sipush 2000, 3) := o17p ac_cX9_init_0 5 7 208 rfl rfl
theorem dX9_init_8 : decode cX9_init 8 = .ok (.newarray .int, 2) := by decide +kernel
theorem dX9_init_10 : decode cX9_init 10 = .ok (.putfield 9, 3) := o181 ac_cX9_init_0 10 0 9 rfl
theorem dX9_init_13 : decode cX9_init 13 = .ok (.aload_n 0, 1) := o42 ac_cX9_init_0 13 rfl
theorem dX9_init_14 : decode cX9_init 14 = .ok (.sipush 401, 3) := o17p ac_cX9_init_0 14 1 145 rfl rfl
theorem dX9_init_17 : decode cX9_init 17 = .ok (.newarray .int, 2) := by decide +kernel
def kb_cX9_init_16 : List Nat := [145, 188, 10, 181, 0, 15, 42, 17, 1, 145, 188, 10, 181, 0, 18, 42, 17, 1, 145, 188]
theorem ac_cX9_init_16 : AL cX9_init 16 kb_cX9_init_16 := AL.of (m := 20) (by decide +kernel)
theorem dX9_init_19 : decode cX9_init 19 = .ok (.putfield 15, 3) := o181 ac_cX9_init_16 3 0 15 rfl
theorem dX9_init_22 : decode cX9_init 22 = .ok (.aload_n 0, 1) := o42 ac_cX9_init_16 6 rfl
theorem dX9_init_23 : decode cX9_init 23 = .ok (.sipush 401, 3) := o17p ac_cX9_init_16 7 1 145 rfl rfl
theorem dX9_init_26 : decode cX9_init 26 = .ok (.newarray .int, 2) := by decide +kernel
theorem dX9_init_28 : decode cX9_init 28 = .ok (.putfield 18, 3) := o181 ac_cX9_init_16 12 0 18 rfl
theorem dX9_init_31 : decode cX9_init 31 = .ok (.aload_n 0, 1) := o42 ac_cX9_init_16 15 rfl
def kb_cX9_init_32 : List Nat := [17, 1, 145, 188, 11, 181, 0, 21, 177]
theorem ac_cX9_init_32 : AL cX9_init 32 kb_cX9_init_32 := AL.of (m := 9) (by decide +kernel)
theorem dX9_init_32 : decode cX9_init 32 = .ok (.sipush 401, 3) := o17p ac_cX9_init_32 0 1 145 rfl rfl
theorem dX9_init_35 : decode cX9_init 35 = .ok (.newarray .long, 2) := by decide +kernel
theorem dX9_init_37 : decode cX9_init 37 = .ok (.putfield 21, 3) := o181 ac_cX9_init_32 5 0 21 rfl
theorem dX9_init_40 : decode cX9_init 40 = .ok (.return_, 1) := o177 ac_cX9_init_32 8 rfl
set_option maxHeartbeats 4000000 in
set_option maxRecDepth 100000 in
theorem n_8 {l : Launch} {D : va_G} {a : Nat} : KN (S := UU) l D yX9_init cX9_init 1 1 12 4 3203 [.ref a] [(a, .inr (8, [.null, .int 0, .null, .null, .null, .int 0]))] [] (fun u => mw [2, 3, 4, 5, 6] u.1 u.2 s0) (fun u => tcl [3, 4, 5, 6] u) (fun u => u.1 2 = a) := by
  refine KN.of (by decide) (Nat.le_of_ble_eq_true rfl) 0 (fun Γ C hin hG Rt => ?_)
  have hin := hin rfl
  show GW Γ 0 [some (.ref a)] [] [(a, .inr (8, [.null, .int 0, .null, .null, .null, .int 0]))] [] 0 0
  refine g_aload_n C dX9_init_0 (i := 0) rfl rfl ?_
  refine g_objInit C oi_8 oi_w.1 oi_w.2 (by decide) (Nat.le_of_ble_eq_true rfl) dX9_init_1 ?_
  refine g_aload_n C dX9_init_4 (i := 0) rfl rfl ?_
  refine g_sipush C dX9_init_5 (v := 2000) rfl ?_
  refine g_newa C (atype := .int) (ty := .int) 2000 (2000, .inl (fun _ => 0)) aw_int rfl (fun _ => rfl) (by decide) rfl (by decide) (by omega) (by omega) dX9_init_8 (fun q1 c1 => ?_)
  refine g_eq (ws1 := [(a, .inr (8, [.null, .int 0, .null, .null, .null, .int 0])), (q1, .inl (c1, 2000, .inl (fun _ => 0)))]) (ts1 := ([] ++ [(c1, .int)])) (kc1 := 1) (ks1 := 2000) rfl rfl rfl rfl ?_
  refine g_put C hin (q0 := 0) fw_8_9 rfl rfl rfl (Nat.le_of_ble_eq_true rfl) dX9_init_10 (ws1 := [(a, .inr (8, [.ref q1, .int 0, .null, .null, .null, .int 0])), (q1, .inl (c1, 2000, .inl (fun _ => 0)))]) rfl ?_
  refine g_aload_n C dX9_init_13 (i := 0) rfl rfl ?_
  refine g_sipush C dX9_init_14 (v := 401) rfl ?_
  refine g_newa C (atype := .int) (ty := .int) 401 (401, .inl (fun _ => 0)) aw_int rfl (fun _ => rfl) (by decide) rfl (by decide) (by omega) (by omega) dX9_init_17 (fun q2 c2 => ?_)
  refine g_eq (ws1 := [(a, .inr (8, [.ref q1, .int 0, .null, .null, .null, .int 0])), (q1, .inl (c1, 2000, .inl (fun _ => 0))), (q2, .inl (c2, 401, .inl (fun _ => 0)))]) (ts1 := (([] ++ [(c1, .int)]) ++ [(c2, .int)])) (kc1 := 2) (ks1 := 2401) rfl rfl rfl rfl ?_
  refine g_put C hin (q0 := 0) fw_8_15 rfl rfl rfl (Nat.le_of_ble_eq_true rfl) dX9_init_19 (ws1 := [(a, .inr (8, [.ref q1, .int 0, .ref q2, .null, .null, .int 0])), (q1, .inl (c1, 2000, .inl (fun _ => 0))), (q2, .inl (c2, 401, .inl (fun _ => 0)))]) rfl ?_
  refine g_aload_n C dX9_init_22 (i := 0) rfl rfl ?_
  refine g_sipush C dX9_init_23 (v := 401) rfl ?_
  refine g_newa C (atype := .int) (ty := .int) 401 (401, .inl (fun _ => 0)) aw_int rfl (fun _ => rfl) (by decide) rfl (by decide) (by omega) (by omega) dX9_init_26 (fun q3 c3 => ?_)
  refine g_eq (ws1 := [(a, .inr (8, [.ref q1, .int 0, .ref q2, .null, .null, .int 0])), (q1, .inl (c1, 2000, .inl (fun _ => 0))), (q2, .inl (c2, 401, .inl (fun _ => 0))), (q3, .inl (c3, 401, .inl (fun _ => 0)))]) (ts1 := ((([] ++ [(c1, .int)]) ++ [(c2, .int)]) ++ [(c3, .int)])) (kc1 := 3) (ks1 := 2802) rfl rfl rfl rfl ?_
  refine g_put C hin (q0 := 0) fw_8_18 rfl rfl rfl (Nat.le_of_ble_eq_true rfl) dX9_init_28 (ws1 := [(a, .inr (8, [.ref q1, .int 0, .ref q2, .ref q3, .null, .int 0])), (q1, .inl (c1, 2000, .inl (fun _ => 0))), (q2, .inl (c2, 401, .inl (fun _ => 0))), (q3, .inl (c3, 401, .inl (fun _ => 0)))]) rfl ?_
  refine g_aload_n C dX9_init_31 (i := 0) rfl rfl ?_
  refine g_sipush C dX9_init_32 (v := 401) rfl ?_
  refine g_newa C (atype := .long) (ty := .long) 401 (401, .inr (.inl (fun _ => 0))) aw_long rfl (fun _ => rfl) (by decide) rfl (by decide) (by omega) (by omega) dX9_init_35 (fun q4 c4 => ?_)
  refine g_eq (ws1 := [(a, .inr (8, [.ref q1, .int 0, .ref q2, .ref q3, .null, .int 0])), (q1, .inl (c1, 2000, .inl (fun _ => 0))), (q2, .inl (c2, 401, .inl (fun _ => 0))), (q3, .inl (c3, 401, .inl (fun _ => 0))), (q4, .inl (c4, 401, .inr (.inl (fun _ => 0))))]) (ts1 := (((([] ++ [(c1, .int)]) ++ [(c2, .int)]) ++ [(c3, .int)]) ++ [(c4, .long)])) (kc1 := 4) (ks1 := 3203) rfl rfl rfl rfl ?_
  refine g_put C hin (q0 := 0) fw_8_21 rfl rfl rfl (Nat.le_of_ble_eq_true rfl) dX9_init_37 (ws1 := [(a, .inr (8, [.ref q1, .int 0, .ref q2, .ref q3, .ref q4, .int 0])), (q1, .inl (c1, 2000, .inl (fun _ => 0))), (q2, .inl (c2, 401, .inl (fun _ => 0))), (q3, .inl (c3, 401, .inl (fun _ => 0))), (q4, .inl (c4, 401, .inr (.inl (fun _ => 0))))]) rfl ?_
  exact g_vret Rt ((fun i => if i = 2 then a else if i = 3 then q1 else if i = 4 then q2 else if i = 5 then q3 else if i = 6 then q4 else 0), (fun i => if i = 3 then c1 else if i = 4 then c2 else if i = 5 then c3 else if i = 6 then c4 else c4)) dX9_init_40 (by decide) (by decide) rfl rfl rfl
def kb_cX4_init_0 : List Nat := [42, 183, 0, 3, 42, 187, 0, 9, 89, 183, 0, 11, 181, 0, 12, 177]
theorem ac_cX4_init_0 : AL cX4_init 0 kb_cX4_init_0 := AL.of (m := 16) (by decide +kernel)
theorem dX4_init_0 : decode cX4_init 0 = .ok (.aload_n 0, 1) := o42 ac_cX4_init_0 0 rfl
theorem dX4_init_1 : decode cX4_init 1 = .ok (.invokespecial 3, 3) := o183 ac_cX4_init_0 1 0 3 rfl
theorem dX4_init_4 : decode cX4_init 4 = .ok (.aload_n 0, 1) := o42 ac_cX4_init_0 4 rfl
theorem dX4_init_5 : decode cX4_init 5 = .ok (.new 9, 3) := o187 ac_cX4_init_0 5 0 9 rfl
theorem dX4_init_8 : decode cX4_init 8 = .ok (.dup, 1) := o89 ac_cX4_init_0 8 rfl
theorem dX4_init_9 : decode cX4_init 9 = .ok (.invokespecial 11, 3) := o183 ac_cX4_init_0 9 0 11 rfl
theorem dX4_init_12 : decode cX4_init 12 = .ok (.putfield 12, 3) := o181 ac_cX4_init_0 12 0 12 rfl
theorem dX4_init_15 : decode cX4_init 15 = .ok (.return_, 1) := o177 ac_cX4_init_0 15 rfl
set_option maxHeartbeats 4000000 in
set_option maxRecDepth 100000 in
theorem n_3 {l : Launch} {D : va_G} {a : Nat} : KN (S := UU) l D yX4_init cX4_init 1 2 32 3 45 [.ref a] [(a, .inr (3, [.null]))] [] (fun u => mw [8, 9, 10, 11] u.1 u.2 s0) (fun u => tcl [10, 11] u) (fun u => u.1 8 = a) := by
  refine KN.of (by decide) (Nat.le_of_ble_eq_true rfl) 0 (fun Γ C hin hG Rt => ?_)
  have hin := hin rfl
  show GW Γ 0 [some (.ref a)] [] [(a, .inr (3, [.null]))] [] 0 0
  refine g_aload_n C dX4_init_0 (i := 0) rfl rfl ?_
  refine g_objInit C oi_3 oi_w.1 oi_w.2 (by decide) (Nat.le_of_ble_eq_true rfl) dX4_init_1 ?_
  refine g_aload_n C dX4_init_4 (i := 0) rfl rfl ?_
  refine g_new C nc_3_9 (by omega) (by omega) dX4_init_5 (fun q1 => ?_)
  refine g_dup C dX4_init_8 rfl ?_
  refine g_initN C hG (X := [(a, .inr (3, [.null]))]) (n_1) mn_1 (host := "StateJuggler") (by decide +kernel) rfl (Nat.le_of_ble_eq_true rfl) (Nat.le_of_ble_eq_true rfl) (by omega) (by omega) (Nat.le_of_ble_eq_true rfl) dX4_init_9 (fun u2 huu2 => ?_)
  subst huu2
  refine g_eq (ws1 := ((a, .inr (3, [.null])) :: (mw [9, 10, 11] u2.1 u2.2 s0))) (ts1 := ([] ++ tcl [10, 11] u2)) (kc1 := 3) (ks1 := 45) rfl rfl rfl rfl ?_
  refine g_put C hin (q0 := 0) fw_3_12 rfl rfl rfl (Nat.le_of_ble_eq_true rfl) dX4_init_12 (ws1 := ((a, .inr (3, [.ref (u2.1 9)])) :: (mw [9, 10, 11] u2.1 u2.2 s0))) rfl ?_
  exact g_vret Rt ((fun i => if i = 8 then a else u2.1 i), (fun i => u2.2 i)) dX4_init_15 (by decide) (by decide) rfl rfl rfl
def kb_cX6_init_0 : List Nat := [42, 183, 0, 3, 42, 187, 0, 9, 89, 183, 0, 11, 181, 0, 12, 42, 2, 181, 0, 18]
theorem ac_cX6_init_0 : AL cX6_init 0 kb_cX6_init_0 := AL.of (m := 20) (by decide +kernel)
theorem dX6_init_0 : decode cX6_init 0 = .ok (.aload_n 0, 1) := o42 ac_cX6_init_0 0 rfl
theorem dX6_init_1 : decode cX6_init 1 = .ok (.invokespecial 3, 3) := o183 ac_cX6_init_0 1 0 3 rfl
theorem dX6_init_4 : decode cX6_init 4 = .ok (.aload_n 0, 1) := o42 ac_cX6_init_0 4 rfl
theorem dX6_init_5 : decode cX6_init 5 = .ok (.new 9, 3) := o187 ac_cX6_init_0 5 0 9 rfl
theorem dX6_init_8 : decode cX6_init 8 = .ok (.dup, 1) := o89 ac_cX6_init_0 8 rfl
theorem dX6_init_9 : decode cX6_init 9 = .ok (.invokespecial 11, 3) := o183 ac_cX6_init_0 9 0 11 rfl
theorem dX6_init_12 : decode cX6_init 12 = .ok (.putfield 12, 3) := o181 ac_cX6_init_0 12 0 12 rfl
theorem dX6_init_15 : decode cX6_init 15 = .ok (.aload_n 0, 1) := o42 ac_cX6_init_0 15 rfl
def kb_cX6_init_16 : List Nat := [2, 181, 0, 18, 42, 16, 12, 188, 11, 181, 0, 22, 177]
theorem ac_cX6_init_16 : AL cX6_init 16 kb_cX6_init_16 := AL.of (m := 13) (by decide +kernel)
theorem dX6_init_16 : decode cX6_init 16 = .ok (.iconst (-1), 1) := o2 ac_cX6_init_16 0 rfl
theorem dX6_init_17 : decode cX6_init 17 = .ok (.putfield 18, 3) := o181 ac_cX6_init_16 1 0 18 rfl
theorem dX6_init_20 : decode cX6_init 20 = .ok (.aload_n 0, 1) := o42 ac_cX6_init_16 4 rfl
theorem dX6_init_21 : decode cX6_init 21 = .ok (.bipush 12, 2) := o16p ac_cX6_init_16 5 12 rfl rfl
theorem dX6_init_23 : decode cX6_init 23 = .ok (.newarray .long, 2) := by decide +kernel
theorem dX6_init_25 : decode cX6_init 25 = .ok (.putfield 22, 3) := o181 ac_cX6_init_16 9 0 22 rfl
theorem dX6_init_28 : decode cX6_init 28 = .ok (.return_, 1) := o177 ac_cX6_init_16 12 rfl
set_option maxHeartbeats 4000000 in
set_option maxRecDepth 100000 in
theorem n_5 {l : Launch} {D : va_G} {a : Nat} : KN (S := UU) l D yX6_init cX6_init 1 2 32 6 3221 [.ref a] [(a, .inr (5, [.null, .int 0, .int 0, .int 0, .int 0, .int 0, .int 0, .int 0, .null, .int 0]))] [] (fun u => mw [1, 2, 3, 4, 5, 6, 7] u.1 u.2 s0) (fun u => tcl [3, 4, 5, 6, 7] u) (fun u => u.1 1 = a) := by
  refine KN.of (by decide) (Nat.le_of_ble_eq_true rfl) 0 (fun Γ C hin hG Rt => ?_)
  have hin := hin rfl
  show GW Γ 0 [some (.ref a)] [] [(a, .inr (5, [.null, .int 0, .int 0, .int 0, .int 0, .int 0, .int 0, .int 0, .null, .int 0]))] [] 0 0
  refine g_aload_n C dX6_init_0 (i := 0) rfl rfl ?_
  refine g_objInit C oi_5 oi_w.1 oi_w.2 (by decide) (Nat.le_of_ble_eq_true rfl) dX6_init_1 ?_
  refine g_aload_n C dX6_init_4 (i := 0) rfl rfl ?_
  refine g_new C nc_5_9 (by omega) (by omega) dX6_init_5 (fun q1 => ?_)
  refine g_dup C dX6_init_8 rfl ?_
  refine g_initN C hG (X := [(a, .inr (5, [.null, .int 0, .int 0, .int 0, .int 0, .int 0, .int 0, .int 0, .null, .int 0]))]) (n_8) mn_8 (host := "StateJuggler") (by decide +kernel) rfl (Nat.le_of_ble_eq_true rfl) (Nat.le_of_ble_eq_true rfl) (by omega) (by omega) (Nat.le_of_ble_eq_true rfl) dX6_init_9 (fun u2 huu2 => ?_)
  subst huu2
  refine g_eq (ws1 := ((a, .inr (5, [.null, .int 0, .int 0, .int 0, .int 0, .int 0, .int 0, .int 0, .null, .int 0])) :: (mw [2, 3, 4, 5, 6] u2.1 u2.2 s0))) (ts1 := ([] ++ tcl [3, 4, 5, 6] u2)) (kc1 := 5) (ks1 := 3209) rfl rfl rfl rfl ?_
  refine g_put C hin (q0 := 0) fw_5_12 rfl rfl rfl (Nat.le_of_ble_eq_true rfl) dX6_init_12 (ws1 := ((a, .inr (5, [.ref (u2.1 2), .int 0, .int 0, .int 0, .int 0, .int 0, .int 0, .int 0, .null, .int 0])) :: (mw [2, 3, 4, 5, 6] u2.1 u2.2 s0))) rfl ?_
  refine g_aload_n C dX6_init_15 (i := 0) rfl rfl ?_
  refine g_iconst C dX6_init_16 (v := (-1)) rfl ?_
  refine g_put C hin (q0 := 0) fw_5_18 rfl rfl rfl (Nat.le_of_ble_eq_true rfl) dX6_init_17 (ws1 := ((a, .inr (5, [.ref (u2.1 2), .int (-1), .int 0, .int 0, .int 0, .int 0, .int 0, .int 0, .null, .int 0])) :: (mw [2, 3, 4, 5, 6] u2.1 u2.2 s0))) rfl ?_
  refine g_aload_n C dX6_init_20 (i := 0) rfl rfl ?_
  refine g_bipush C dX6_init_21 (v := 12) rfl ?_
  refine g_newa C (atype := .long) (ty := .long) 12 (12, .inr (.inl (fun _ => 0))) aw_long rfl (fun _ => rfl) (by decide) rfl (by decide) (by omega) (by omega) dX6_init_23 (fun q3 c3 => ?_)
  refine g_eq (ws1 := ((a, .inr (5, [.ref (u2.1 2), .int (-1), .int 0, .int 0, .int 0, .int 0, .int 0, .int 0, .null, .int 0])) :: ((mw [2, 3, 4, 5, 6] u2.1 u2.2 s0) ++ [(q3, .inl (c3, 12, .inr (.inl (fun _ => 0))))]))) (ts1 := (([] ++ tcl [3, 4, 5, 6] u2) ++ [(c3, .long)])) (kc1 := 6) (ks1 := 3221) rfl rfl rfl rfl ?_
  refine g_put C hin (q0 := 0) fw_5_22 rfl rfl rfl (Nat.le_of_ble_eq_true rfl) dX6_init_25 (ws1 := ((a, .inr (5, [.ref (u2.1 2), .int (-1), .int 0, .int 0, .int 0, .int 0, .int 0, .int 0, .ref q3, .int 0])) :: ((mw [2, 3, 4, 5, 6] u2.1 u2.2 s0) ++ [(q3, .inl (c3, 12, .inr (.inl (fun _ => 0))))]))) rfl ?_
  exact g_vret Rt ((fun i => if i = 1 then a else if i = 7 then q3 else u2.1 i), (fun i => if i = 7 then c3 else u2.2 i)) dX6_init_28 (by decide) (by decide) rfl rfl rfl

theorem cons4 {α : Type} {a b c d a1 b1 c1 d1 : α} (h1 : a = a1) (h2 : b = b1) (h3 : c = c1) (h4 : d = d1) : [a, b, c, d] = [a1, b1, c1, d1] := by rw [h1, h2, h3, h4]
theorem GE.ao {Γ : GQ} (h : GE Γ) : match Γ with | (p, l, e, R, s, m, args, below, meth, c, Q, D, A, H0, nL) => va_AO RX0 s := by
  obtain ⟨p, l, e, R, s, m, args, below, meth, c, Q, D, A, H0, nL⟩ := Γ
  exact h.2.1
def ringN (n : Nat) : List Nat := (List.range n).map (76 + ·)
theorem K_mem {D : va_G} {t1 t2 : List (ClassId × FieldType)} {U : State} (h : va_K D vwCl t1 U) (hm : ∀ q ∈ t2, q ∈ t1) : va_K D vwCl t2 U := ⟨h.1, fun k q hk => by
  obtain ⟨i, hi⟩ := List.getElem?_of_mem (hm q (List.mem_of_getElem? hk))
  exact h.2 i q hi⟩
theorem kd_ring : ∀ k, k < 160 → kd (76 + k) = if k % 4 = 0 then 0 else 20 := by decide +kernel
theorem al_ring : ∀ k, k < 160 → k % 4 ≠ 0 → al (76 + k) = 7 := by decide +kernel
theorem s0_air {i : Nat} (h : kd i = 0) : s0I i = s0I 60 := by
  funext k
  have h2 : kd 60 = 0 := by decide
  unfold s0I
  rw [h, h2]
  rfl
theorem s0_arr {i : Nat} (h : kd i = 20) (h1 : 56 ≤ i) (h2 : i < 236) : s0I i = fun _ => 0 := by
  funext k
  unfold s0I
  rw [h]
  show (if i = 41 ∨ i = 54 then _ else if i = 42 ∨ i = 55 then _ else if i = 252 then _ else if i = 266 ∨ i = 267 then _ else (0 : Int32)) = 0
  rw [if_neg (by omega), if_neg (by omega), if_neg (by omega), if_neg (by omega)]
/-- the ring's addresses and array classes with one Air more -/
def rgU (j : Nat) (u u2 : UU) : UU := (fun i => if i < 76 + 4 * j then u.1 i else u2.1 (60 + (i - (76 + 4 * j))), fun i => if i < 76 + 4 * j then u.2 i else u2.2 (60 + (i - (76 + 4 * j))))
theorem ringN_step (j : Nat) : ringN (4 * (j + 1)) = ringN (4 * j) ++ [76 + 4 * j, 76 + 4 * j + 1, 76 + 4 * j + 2, 76 + 4 * j + 3] := by
  unfold ringN
  rw [show 4 * (j + 1) = 4 * j + 1 + 1 + 1 + 1 by omega, List.range_succ, List.range_succ, List.range_succ, List.range_succ]
  simp [List.map_append, Nat.add_assoc]
theorem rg_cell {u v : UU} {i : Nat} (hk : kd i = 0 ∨ kd i = 20) (h0 : v.1 i = u.1 i) (h1 : kd i = 0 → v.1 (i + 1) = u.1 (i + 1) ∧ v.1 (i + 2) = u.1 (i + 2) ∧ v.1 (i + 3) = u.1 (i + 3)) (h2 : v.2 i = u.2 i) : (v.1 i, ceK v.1 v.2 (kd i) i (s0.1 i) (s0.2.1 i) s0.2.2) = (u.1 i, ceK u.1 u.2 (kd i) i (s0.1 i) (s0.2.1 i) s0.2.2) := by
  rcases hk with h | h
  · obtain ⟨a, b, c⟩ := h1 h
    rw [h, h0]
    show (_, (.inr (0, [_, .ref (v.1 (i + 1)), .ref (v.1 (i + 2)), .ref (v.1 (i + 3)), _, _, _, _, _, _, _, _]) : va_E)) = _
    rw [a, b, c]
    try rfl
  · rw [h, h0]
    show (_, (.inl (v.2 i, _, _) : va_E)) = _
    rw [h2]
    try rfl
theorem rg_new {v u2 : UU} {i b : Nat} (hb : b < 4) (hi1 : 76 ≤ i) (hi2 : i + 3 < 236 ∨ kd i = 20 ∧ i < 236) (hk : kd i = kd (60 + b)) (ha : kd i = 20 → al i = 7) (h0 : v.1 i = u2.1 (60 + b)) (h1 : b = 0 → v.1 (i + 1) = u2.1 61 ∧ v.1 (i + 2) = u2.1 62 ∧ v.1 (i + 3) = u2.1 63) (h2 : v.2 i = u2.2 (60 + b)) : (v.1 i, ceK v.1 v.2 (kd i) i (s0.1 i) (s0.2.1 i) s0.2.2) = (u2.1 (60 + b), ceK u2.1 u2.2 (kd (60 + b)) (60 + b) (s0.1 (60 + b)) (s0.2.1 (60 + b)) s0.2.2) := by
  have hl : ∀ q, q < 236 → s0.2.1 q = fun _ => 0 := fun q hq => by
    funext k
    show (if q = 243 then _ else (0 : Int64)) = 0
    rw [if_neg (by omega)]
  have hi3 : i < 236 := by omega
  rw [h0, hl i hi3, hl (60 + b) (by omega)]
  have hc : b = 0 ∨ b = 1 ∨ b = 2 ∨ b = 3 := by omega
  have key : ∀ q : Nat, 60 < q → q < 64 → kd i = 20 → v.2 i = u2.2 q → kd q = 20 → ceK v.1 v.2 (kd i) i (s0.1 i) (fun _ => 0) s0.2.2 = ceK u2.1 u2.2 (kd q) q (s0.1 q) (fun _ => 0) s0.2.2 := by
    intro q q1 q2 hki hv hkq
    have e1 : s0.1 i = fun _ => 0 := s0_arr hki (by omega) hi3
    have e2 : s0.1 q = fun _ => 0 := s0_arr hkq (by omega) (by omega)
    have e3 : al q = 7 := by
      rcases (show q = 61 ∨ q = 62 ∨ q = 63 by omega) with rfl | rfl | rfl <;> decide
    rw [hki, hkq, e1, e2]
    show (.inl (v.2 i, al i, _) : va_E) = .inl (u2.2 q, al q, _)
    rw [hv, ha hki, e3]
    try rfl
  rcases hc with rfl | rfl | rfl | rfl
  · obtain ⟨a, b, c⟩ := h1 rfl
    have hk0 : kd i = 0 := by rw [hk]; decide
    have e1 : s0.1 i = s0.1 60 := s0_air hk0
    rw [hk0, e1]
    show (_, (.inr (0, [_, .ref (v.1 (i + 1)), .ref (v.1 (i + 2)), .ref (v.1 (i + 3)), _, _, _, _, _, _, _, _]) : va_E)) = _
    rw [a, b, c]
    try rfl
  · rw [key 61 (by omega) (by omega) (by rw [hk]; decide) h2 (by decide)]
  · rw [key 62 (by omega) (by omega) (by rw [hk]; decide) h2 (by decide)]
  · rw [key 63 (by omega) (by omega) (by rw [hk]; decide) h2 (by decide)]
theorem ring_step {j : Nat} (hj : j < 40) (u u2 : UU) : mw (ringN (4 * j)) u.1 u.2 s0 ++ mw [60, 61, 62, 63] u2.1 u2.2 s0 = mw (ringN (4 * (j + 1))) (rgU j u u2).1 (rgU j u u2).2 s0 := by
  have lo1 : ∀ i, i < 76 + 4 * j → (rgU j u u2).1 i = u.1 i := fun i h => if_pos h
  have lo2 : ∀ i, i < 76 + 4 * j → (rgU j u u2).2 i = u.2 i := fun i h => if_pos h
  have hi1 : ∀ b, (rgU j u u2).1 (76 + 4 * j + b) = u2.1 (60 + b) := fun b => (if_neg (by omega)).trans (congrArg u2.1 (by omega))
  have hi2 : ∀ b, (rgU j u u2).2 (76 + 4 * j + b) = u2.2 (60 + b) := fun b => (if_neg (by omega)).trans (congrArg u2.2 (by omega))
  have hkd : ∀ b, b < 4 → kd (76 + 4 * j + b) = kd (60 + b) := fun b hb => by
    rw [show 76 + 4 * j + b = 76 + (4 * j + b) by omega, kd_ring _ (by omega)]
    rcases (show b = 0 ∨ b = 1 ∨ b = 2 ∨ b = 3 by omega) with rfl | rfl | rfl | rfl
    · rw [if_pos (by omega)]; decide
    · rw [if_neg (by omega)]; decide
    · rw [if_neg (by omega)]; decide
    · rw [if_neg (by omega)]; decide
  have hal : ∀ b, b < 4 → kd (76 + 4 * j + b) = 20 → al (76 + 4 * j + b) = 7 := fun b hb h => by
    rw [show 76 + 4 * j + b = 76 + (4 * j + b) by omega] at h ⊢
    refine al_ring _ (by omega) (fun e => ?_)
    rw [kd_ring _ (by omega), if_pos e] at h
    cases h
  rw [ringN_step]
  unfold mw
  rw [List.map_append]
  congr 1
  · unfold ringN
    rw [List.map_map, List.map_map]
    apply List.map_congr_left
    intro k hk
    have hk := List.mem_range.mp hk
    have hkk := kd_ring k (by omega)
    refine (rg_cell (u := u) (v := rgU j u u2) (i := 76 + k) ?_ (lo1 _ (by omega)) (fun h => ?_) (lo2 _ (by omega))).symm
    · rw [hkk]
      split
      · exact Or.inl rfl
      · exact Or.inr rfl
    · rw [hkk] at h
      have : k % 4 = 0 := by
        by_cases e : k % 4 = 0
        · exact e
        · rw [if_neg e] at h; cases h
      exact ⟨lo1 _ (by omega), lo1 _ (by omega), lo1 _ (by omega)⟩
  · have q := fun (b : Nat) (hb : b < 4) => rg_new (v := rgU j u u2) (u2 := u2) (i := 76 + 4 * j + b) (b := b) hb (by omega) (by
      by_cases e : b = 0
      · subst e; exact Or.inl (by omega)
      · refine Or.inr ⟨?_, by omega⟩
        rw [hkd b hb]
        rcases (show b = 1 ∨ b = 2 ∨ b = 3 by omega) with rfl | rfl | rfl <;> decide) (hkd b hb) (hal b hb) (hi1 b) (fun e => by subst e; exact ⟨hi1 1, hi1 2, hi1 3⟩) (hi2 b)
    exact cons4 (q 0 (by decide)).symm (q 1 (by decide)).symm (q 2 (by decide)).symm (q 3 (by decide)).symm
def kb_cX5_init_0 : List Nat := [42, 183, 0, 3, 42, 16, 40, 189, 0, 9, 181, 0, 11, 3, 60, 27, 16, 40, 162, 0]
theorem ac_cX5_init_0 : AL cX5_init 0 kb_cX5_init_0 := AL.of (m := 20) (by decide +kernel)
theorem dX5_init_0 : decode cX5_init 0 = .ok (.aload_n 0, 1) := o42 ac_cX5_init_0 0 rfl
theorem dX5_init_1 : decode cX5_init 1 = .ok (.invokespecial 3, 3) := o183 ac_cX5_init_0 1 0 3 rfl
theorem dX5_init_4 : decode cX5_init 4 = .ok (.aload_n 0, 1) := o42 ac_cX5_init_0 4 rfl
theorem dX5_init_5 : decode cX5_init 5 = .ok (.bipush 40, 2) := o16p ac_cX5_init_0 5 40 rfl rfl
theorem dX5_init_7 : decode cX5_init 7 = .ok (.anewarray 9, 3) := o189 ac_cX5_init_0 7 0 9 rfl
theorem dX5_init_10 : decode cX5_init 10 = .ok (.putfield 11, 3) := o181 ac_cX5_init_0 10 0 11 rfl
theorem dX5_init_13 : decode cX5_init 13 = .ok (.iconst 0, 1) := o3 ac_cX5_init_0 13 rfl
theorem dX5_init_14 : decode cX5_init 14 = .ok (.istore_n 1, 1) := o60 ac_cX5_init_0 14 rfl
theorem dX5_init_15 : decode cX5_init 15 = .ok (.iload_n 1, 1) := o27 ac_cX5_init_0 15 rfl
def kb_cX5_init_16 : List Nat := [16, 40, 162, 0, 22, 42, 180, 0, 11, 27, 187, 0, 9, 89, 183, 0, 17, 83, 132, 1]
theorem ac_cX5_init_16 : AL cX5_init 16 kb_cX5_init_16 := AL.of (m := 20) (by decide +kernel)
theorem dX5_init_16 : decode cX5_init 16 = .ok (.bipush 40, 2) := o16p ac_cX5_init_16 0 40 rfl rfl
theorem dX5_init_18 : decode cX5_init 18 = .ok (.if_icmp .ge 22, 3) := o162p ac_cX5_init_16 2 0 22 rfl rfl
theorem dX5_init_21 : decode cX5_init 21 = .ok (.aload_n 0, 1) := o42 ac_cX5_init_16 5 rfl
theorem dX5_init_22 : decode cX5_init 22 = .ok (.getfield 11, 3) := o180 ac_cX5_init_16 6 0 11 rfl
theorem dX5_init_25 : decode cX5_init 25 = .ok (.iload_n 1, 1) := o27 ac_cX5_init_16 9 rfl
theorem dX5_init_26 : decode cX5_init 26 = .ok (.new 9, 3) := o187 ac_cX5_init_16 10 0 9 rfl
theorem dX5_init_29 : decode cX5_init 29 = .ok (.dup, 1) := o89 ac_cX5_init_16 13 rfl
theorem dX5_init_30 : decode cX5_init 30 = .ok (.invokespecial 17, 3) := o183 ac_cX5_init_16 14 0 17 rfl
def kb_cX5_init_32 : List Nat := [17, 83, 132, 1, 1, 167, 255, 234, 177]
theorem ac_cX5_init_32 : AL cX5_init 32 kb_cX5_init_32 := AL.of (m := 9) (by decide +kernel)
theorem dX5_init_33 : decode cX5_init 33 = .ok (.aastore, 1) := o83 ac_cX5_init_32 1 rfl
theorem dX5_init_34 : decode cX5_init 34 = .ok (.iinc 1 1, 3) := o132p ac_cX5_init_32 2 1 1 rfl rfl
theorem dX5_init_37 : decode cX5_init 37 = .ok (.goto (-22), 3) := o167n ac_cX5_init_32 5 255 234 21 rfl rfl rfl
theorem dX5_init_40 : decode cX5_init 40 = .ok (.return_, 1) := o177 ac_cX5_init_32 8 rfl
theorem ring_in {j : Nat} {u u2 : UU} {q : Nat} (hj : j < 40) (hq : u2.1 60 = q) : va_up (fun i => if i < j then some (u.1 (76 + 4 * i)) else none) j (some q) = fun i => if i < j + 1 then some ((rgU j u u2).1 (76 + 4 * i)) else none := by
  funext i
  unfold va_up
  by_cases e : i = j
  · subst e
    rw [if_pos rfl, if_pos (by omega)]
    show some q = some (if 76 + 4 * i < 76 + 4 * i then _ else u2.1 (60 + (76 + 4 * i - (76 + 4 * i))))
    rw [if_neg (by omega), Nat.sub_self, ← hq]
  · rw [if_neg e]
    show (if i < j then some (u.1 (76 + 4 * i)) else none) = _
    by_cases h : i < j
    · rw [if_pos h, if_pos (by omega)]
      show _ = some (if 76 + 4 * i < 76 + 4 * j then _ else _)
      rw [if_pos (by omega)]
    · rw [if_neg h, if_neg (by omega)]
theorem ring_end {a q1 : Nat} {c1 : ClassId} {u : UU} : mw (12 :: 13 :: ringN 160) (fun i => if i = 12 then a else if i = 13 then q1 else u.1 i) (fun i => if i = 13 then c1 else u.2 i) s0 = (a, .inr (4, [.ref q1, .int 0, .int 0])) :: (q1, .inl (c1, 40, .inr (.inr (.inr (.inr (fun i => if i < 40 then some (u.1 (76 + 4 * i)) else none)))))) :: mw (ringN (4 * 40)) u.1 u.2 s0 := by
  have e1 : ∀ k, (fun i => if i = 12 then a else if i = 13 then q1 else u.1 i) (76 + k) = u.1 (76 + k) := fun k => by
    show (if 76 + k = 12 then _ else if 76 + k = 13 then _ else _) = _
    rw [if_neg (by omega), if_neg (by omega)]
  have e2 : (fun i => if i < 40 then some ((fun i => if i = 12 then a else if i = 13 then q1 else u.1 i) (76 + 4 * i)) else none) = fun i => if i < 40 then some (u.1 (76 + 4 * i)) else none := by
    funext i
    rw [e1]
  have e3 : mw (ringN 160) (fun i => if i = 12 then a else if i = 13 then q1 else u.1 i) (fun i => if i = 13 then c1 else u.2 i) s0 = mw (ringN 160) u.1 u.2 s0 := by
    unfold mw ringN
    rw [List.map_map, List.map_map]
    apply List.map_congr_left
    intro k hk
    have hk := List.mem_range.mp hk
    have hkk := kd_ring k (by omega)
    refine rg_cell (u := u) (v := (fun i => if i = 12 then a else if i = 13 then q1 else u.1 i, fun i => if i = 13 then c1 else u.2 i)) (i := 76 + k) ?_ (e1 k) (fun _ => ⟨e1 (k + 1), e1 (k + 2), e1 (k + 3)⟩) (if_neg (by omega))
    rw [hkk]
    split
    · exact Or.inl rfl
    · exact Or.inr rfl
  rw [← e3, ← e2]
  rfl
set_option maxHeartbeats 4000000 in
set_option maxRecDepth 100000 in
theorem n_4 {l : Launch} {D : va_G} {a : Nat} : KN (S := UU) l D yX5_init cX5_init 2 2 32 161 1360 [.ref a] [(a, .inr (4, [.null, .int 0, .int 0]))] [] (fun u => mw (12 :: 13 :: ringN 160) u.1 u.2 s0) (fun u => tcl (13 :: (ringN 160).filter (fun i => decide (12 ≤ kd i))) u) (fun u => u.1 12 = a) := by
  refine KN.of (by decide) (Nat.le_of_ble_eq_true rfl) 1 (fun Γ C hin hG Rt => ?_)
  have hin := hin rfl
  show GW Γ 0 [some (.ref a), none] [] [(a, .inr (4, [.null, .int 0, .int 0]))] [] 0 0
  refine g_aload_n C dX5_init_0 (i := 0) rfl rfl ?_
  refine g_objInit C oi_4 oi_w.1 oi_w.2 (by decide) (Nat.le_of_ble_eq_true rfl) dX5_init_1 ?_
  refine g_aload_n C dX5_init_4 (i := 0) rfl rfl ?_
  refine g_bipush C dX5_init_5 (v := 40) rfl ?_
  refine g_newq C (Cn := RX0) 40 (gw1 137 (by decide +kernel) rfl) hG.ao (by decide) rfl (by decide) (by omega) (by omega) dX5_init_7 (fun q1 c1 => ?_)
  refine g_eq (ws1 := [(a, .inr (4, [.null, .int 0, .int 0])), (q1, .inl (c1, 40, .inr (.inr (.inr (.inr (fun _ => none))))))]) (ts1 := ([] ++ [(c1, .object RX0)])) (kc1 := 1) (ks1 := 40) rfl rfl rfl rfl ?_
  refine g_put C hin (q0 := 0) fw_4_11 rfl rfl rfl (Nat.le_of_ble_eq_true rfl) dX5_init_10 (ws1 := [(a, .inr (4, [.ref q1, .int 0, .int 0])), (q1, .inl (c1, 40, .inr (.inr (.inr (.inr (fun _ => none))))))]) rfl ?_
  refine g_iconst C dX5_init_13 (v := 0) rfl ?_
  refine g_istore_n C dX5_init_14 (i := 1) rfl (by decide) rfl (vs1 := [some (.ref a), some (.int 0)]) rfl ?_
  have loop : ∀ (d j : Nat) (u : UU) (tt : List (ClassId × FieldType)), j + d = 40 → tt[0]? = some (c1, .object RX0) → (∀ i, i < 4 * j → 12 ≤ kd (76 + i) → (u.2 (76 + i), aty (kd (76 + i))) ∈ tt) → GW Γ 15 [some (.ref a), some (.int (nI j))] [] ((a, .inr (4, [.ref q1, .int 0, .int 0])) :: (q1, .inl (c1, 40, .inr (.inr (.inr (.inr (fun i => if i < j then some (u.1 (76 + 4 * i)) else none)))))) :: mw (ringN (4 * j)) u.1 u.2 s0) tt (1 + 4 * j) (40 + 33 * j) := by
    intro d
    induction d with
    | zero =>
      intro j u tt hj ht hT
      obtain rfl : j = 40 := by omega
      refine g_iload_n C dX5_init_15 (i := 1) rfl rfl ?_
      refine g_bipush C dX5_init_16 (v := 40) rfl ?_
      refine g_ic_ge C dX5_init_18 (tgt := 40) rfl (fun _ => ?_) (fun h => absurd (by decide) h)
      refine g_by (ws1 := mw (12 :: 13 :: ringN 160) (fun i => if i = 12 then a else if i = 13 then q1 else u.1 i) (fun i => if i = 13 then c1 else u.2 i) s0) (ts1 := tcl (13 :: (ringN 160).filter (fun i => decide (12 ≤ kd i))) (fun i => if i = 12 then a else if i = 13 then q1 else u.1 i, fun i => if i = 13 then c1 else u.2 i)) ?_ ?_ ?_ ?_
      · intro D H h; rw [ring_end]; exact h
      · intro A h; rw [ring_end]; exact h
      · intro D s h
        refine K_mem h (fun q hq => ?_)
        rcases List.mem_cons.mp hq with rfl | hq
        · exact List.mem_of_getElem? ht
        · obtain ⟨i, hi, rfl⟩ := List.mem_map.mp hq
          obtain ⟨hi, hk⟩ := List.mem_filter.mp hi
          obtain ⟨k, hk2, rfl⟩ := List.mem_map.mp hi
          have := hT k (by have := List.mem_range.mp hk2; omega) (by simpa using hk)
          have e9 : (if 76 + k = 13 then c1 else u.2 (76 + k)) = u.2 (76 + k) := if_neg (by omega)
          show ((if 76 + k = 13 then c1 else u.2 (76 + k)), _) ∈ tt
          rw [e9]
          exact this
      · exact g_vret Rt (fun i => if i = 12 then a else if i = 13 then q1 else u.1 i, fun i => if i = 13 then c1 else u.2 i) dX5_init_40 (by omega) (by omega) rfl rfl rfl
    | succ d ih =>
      intro j u tt hj ht hT
      refine g_iload_n C dX5_init_15 (i := 1) rfl rfl ?_
      refine g_bipush C dX5_init_16 (v := 40) rfl ?_
      refine g_ic_ge C dX5_init_18 (tgt := 40) rfl (fun h => absurd h (nI_ge (a := j) (b := 40) (by omega) (by omega))) (fun _ => ?_)
      refine g_aload_n C dX5_init_21 (i := 0) rfl rfl ?_
      refine g_get C fl_RX5_11 (q0 := 0) (v := .ref q1) rfl rfl dX5_init_22 ?_
      refine g_iload_n C dX5_init_25 (i := 1) rfl rfl ?_
      refine g_new C nc_4_9 (by omega) (by omega) dX5_init_26 (fun q2 => ?_)
      refine g_dup C dX5_init_29 rfl ?_
      refine g_initN C hG (X := ((a, .inr (4, [.ref q1, .int 0, .int 0])) :: (q1, .inl (c1, 40, .inr (.inr (.inr (.inr (fun i => if i < j then some (u.1 (76 + 4 * i)) else none)))))) :: mw (ringN (4 * j)) u.1 u.2 s0)) n_0 mn_0 (host := "StateJuggler") (by decide +kernel) rfl (Nat.le_of_ble_eq_true rfl) (Nat.le_of_ble_eq_true rfl) (by omega) (by omega) (Nat.le_of_ble_eq_true rfl) dX5_init_30 (fun u2 hu2 => ?_)
      subst hu2
      have hmem : (u2.1 60, (.inr (0, fsK u2.1 0 60 (s0.1 60) s0.2.2) : va_E)) ∈ ((a, (.inr (4, [.ref q1, .int 0, .int 0]) : va_E)) :: (q1, .inl (c1, 40, .inr (.inr (.inr (.inr (fun i => if i < j then some (u.1 (76 + 4 * i)) else none)))))) :: mw (ringN (4 * j)) u.1 u.2 s0) ++ mw [60, 61, 62, 63] u2.1 u2.2 s0 := List.mem_append.mpr (Or.inr (List.mem_of_getElem? (i := 0) rfl))
      obtain ⟨qk, hqk⟩ := List.getElem?_of_mem hmem
      refine g_astq C (q0 := 1) (t0 := 0) (qk := qk) (ci := 0) (r := (RX0, TX0, 12)) j rfl (by rw [List.getElem?_append_left (List.getElem?_eq_some_iff.mp ht).1]; exact ht) hqk rfl (nI_pos (by omega)) (nI_clamp (by omega)) (by omega) dX5_init_33 (ws1 := (a, .inr (4, [.ref q1, .int 0, .int 0])) :: (q1, .inl (c1, 40, .inr (.inr (.inr (.inr (fun i => if i < j + 1 then some ((rgU j u u2).1 (76 + 4 * i)) else none)))))) :: mw (ringN (4 * (j + 1))) (rgU j u u2).1 (rgU j u u2).2 s0) (by rw [← ring_step (by omega) u u2, ← ring_in (by omega) rfl]; rfl) ?_
      refine g_iinc C dX5_init_34 rfl (v := nI (j + 1)) (nI_1 j) (by decide) rfl (vs1 := [some (.ref a), some (.int (nI (j + 1)))]) rfl ?_
      refine g_goto C dX5_init_37 (tgt := 15) rfl ?_
      refine g_eq (ts1 := tt ++ tcl [61, 62, 63] u2) (kc1 := 1 + 4 * (j + 1)) (ks1 := 40 + 33 * (j + 1)) rfl rfl (by omega) (by omega) ?_
      refine ih (j + 1) (rgU j u u2) (tt ++ tcl [61, 62, 63] u2) (by omega) (by rw [List.getElem?_append_left (List.getElem?_eq_some_iff.mp ht).1]; exact ht) (fun i hi hk => ?_)
      by_cases h : i < 4 * j
      · refine List.mem_append.mpr (Or.inl ?_)
        rw [show (rgU j u u2).2 (76 + i) = u.2 (76 + i) from if_pos (by omega)]
        exact hT i h hk
      · refine List.mem_append.mpr (Or.inr ?_)
        have hk2 := kd_ring i (by omega)
        have hm : i % 4 ≠ 0 := fun e => by
          rw [hk2, if_pos e] at hk
          omega
        rw [hk2, if_neg hm, show (rgU j u u2).2 (76 + i) = u2.2 (60 + (76 + i - (76 + 4 * j))) from if_neg (by omega)]
        rcases (show i = 4 * j + 1 ∨ i = 4 * j + 2 ∨ i = 4 * j + 3 by omega) with rfl | rfl | rfl
        · rw [show 60 + (76 + (4 * j + 1) - (76 + 4 * j)) = 61 by omega]; exact List.mem_of_getElem? (i := 0) rfl
        · rw [show 60 + (76 + (4 * j + 2) - (76 + 4 * j)) = 62 by omega]; exact List.mem_of_getElem? (i := 1) rfl
        · rw [show 60 + (76 + (4 * j + 3) - (76 + 4 * j)) = 63 by omega]; exact List.mem_of_getElem? (i := 2) rfl
  exact loop 40 0 (fun _ => 0, fun _ => c1) _ rfl rfl (fun i h => absurd h (by omega))

/-! from a world that grew to a world by numbers -/
def toGT (Γ : GQ) (kc ks : Nat) : GT := match Γ with
  | (p, l, e, R, s, m, args, below, meth, c, Q, D, A, H0, nL) => (p, l, e, R, s, m, args, below, meth, c, kc, ks, Q, D, A, H0, nL)
theorem g_aw {Γ : GQ} {cc : ByteArray} {own : String} {l0 : Launch} {D0 : va_G} {fr lo mc ms nL0 : Nat} {pc : Nat} {vs : List (Option Value)} {st : List Value} {ws : va_W} {ts : List (ClassId × FieldType)} {kc ks : Nat} {ids : List Nat} {ad : Nat → Nat} {ca : Nat → ClassId} {σ : HS} (C : CG Γ cc own l0 D0 fr lo mc ms nL0) (h1 : kc ≤ mc) (h2 : ks ≤ ms) (hws : ws = mw ids ad ca σ) (hT : ∀ q ∈ tys ids ca, q ∈ ts)
    (k : CT ids ad ca (toGT Γ kc ks) cc own l0 D0 fr lo nL0 → AW ids ad ca (toGT Γ kc ks) pc vs st σ) : GW Γ pc vs st ws ts kc ks := by
  obtain ⟨p, l, e, R, s, m, args, below, meth, c, Q, D, A, H0, nL⟩ := Γ
  obtain ⟨⟨hx, hb, hml, hown, hts⟩, hE, hA0, rfl, rfl, hfr, hlo, hmc, hms, rfl⟩ := C
  intro H locs ls hK hP hD hS hl
  subst hws
  exact k ⟨⟨hx, hb, hml, hown, hts⟩, K_mem hK hT, hE, fun σ' => mw_D hD σ', hA0, rfl, rfl, hfr, hlo, Nat.le_trans h1 hmc, Nat.le_trans h2 hms, rfl⟩ H locs ls hP hS hl
/-- two states are alike in the cells of ids -/
def agree (ids : List Nat) (σ σ1 : HS) : Prop := (∀ i ∈ ids, ∀ j, j < (if kd i < 12 then 66 else al i) → σ.1 i j = σ1.1 i j ∧ σ.2.1 i j = σ1.2.1 i j) ∧ (0 ∈ ids → σ.2.2 = σ1.2.2)
theorem arrV_ext {c : ClassId} {n : Nat} {f g : Nat → Value} (h : ∀ j, j < n → f j = g j) : arrV c n f = arrV c n g := by
  unfold arrV
  congr 1
  apply Array.ext
  · simp
  · intro i h1 h2
    simp at h1
    simp [h i h1]
theorem fsK_ext {ad : Nat → Nat} {n i : Nat} {g g1 : Nat → Int32} {tx : Nat → Nat} (h : ∀ j, j < 66 → g j = g1 j) : fsK ad n i g tx = fsK ad n i g1 tx := by
  unfold fsK
  split <;> simp [h]
theorem mw_ext {D : va_G} {ids : List Nat} {ad : Nat → Nat} {ca : Nat → ClassId} {σ σ1 : HS} {H : Heap} (h : agree ids σ σ1) (hP : va_P D vwCl (mw ids ad ca σ) H) : va_P D vwCl (mw ids ad ca σ1) H := by
  intro k q hq
  obtain ⟨i, hi, rfl⟩ := mw_at hq
  have h0 := hP k _ (mw_ats hi σ)
  have hm : i ∈ ids := List.mem_of_getElem? hi
  have ha := h.1 i hm
  by_cases hk : kd i < 12
  · rw [if_pos hk] at ha
    have e : ceK ad ca (kd i) i (σ1.1 i) (σ1.2.1 i) σ1.2.2 = ceK ad ca (kd i) i (σ.1 i) (σ.2.1 i) σ.2.2 := by
      rw [ceK_ob hk, ceK_ob hk, fsK_ext (g1 := σ1.1 i) (fun j hj => (ha j hj).1)]
      by_cases h10 : kd i = 10
      · have : i = 0 := kd_sj i h10
        subst this
        rw [h.2 hm]
      · rw [fsK_tx (tx := σ.2.2) (tx1 := σ1.2.2) h10]
    rw [e]
    exact h0
  · rw [if_neg hk] at ha
    unfold ceK at h0 ⊢
    rw [if_neg hk] at h0 ⊢
    by_cases h23 : kd i = 23
    · rw [if_pos h23] at h0 ⊢
      show H[ad i]? = some (arrV (ca i) (al i) (fun j => .long (σ1.2.1 i j)))
      rw [← arrV_ext (c := ca i) (f := fun j => .long (σ.2.1 i j)) (fun j hj => by rw [(ha j hj).2])]
      exact h0
    · rw [if_neg h23] at h0 ⊢
      by_cases h22 : kd i < 23
      · rw [if_pos h22] at h0 ⊢
        show H[ad i]? = some (arrV (ca i) (al i) (fun j => .int (σ1.1 i j)))
        rw [← arrV_ext (c := ca i) (f := fun j => .int (σ.1 i j)) (fun j hj => by rw [(ha j hj).1])]
        exact h0
      · rw [if_neg h22] at h0 ⊢
        exact h0
theorem rv_of_rn {Γ : GQ} {cc : ByteArray} {own : String} {l0 : Launch} {D0 : va_G} {fr lo mc ms nL0 : Nat} {kc ks : Nat} {ids : List Nat} {ad : Nat → Nat} {ca : Nat → ClassId} {post : UU → Prop} (C : CT ids ad ca (toGT Γ kc ks) cc own l0 D0 fr lo nL0) (Rt : RN Γ cc mc ms (fun u : UU => mw ids u.1 u.2 s0) (fun u => tys ids u.2) post) (h1 : kc ≤ mc) (h2 : ks ≤ ms) (hp : post (ad, ca)) : RV ids ad ca (toGT Γ kc ks) cc (fun σ => agree ids σ s0) := by
  obtain ⟨p, l, e, R, s, m, args, below, meth, c, Q, D, A, H0, nL⟩ := Γ
  obtain ⟨-, hK, -, hD, -⟩ := C
  intro H locs ls pc σ hP hS ha hd
  exact W.widen h1 h2 (Rt (ad, ca) H locs ls pc hK (mw_ext ha hP) (hD s0) hS hp hd)

set_option maxHeartbeats 4000000 in
set_option maxRecDepth 100000 in
theorem k_emitT_0 {l : Launch} {D : va_G} {ids : List Nat} {ad : Nat → Nat} {ca : Nat → ClassId} {σ : HS} {p0 : Int32} (hid : ∀ i, i ∈ [30, 31, 32, 33, 34, 35, 36, 37, 38, 39, 40, 41, 42] → i ∈ ids) (h_30_8 : σ.1 30 8 = 0) : Kv l D ids ad ca yX10_emit cX10_emit 2 0 0 [.ref (ad 30), .int p0] σ (fun σ1 => σ1 = (hI (hI σ 41 0 p0) 30 8 1)) := by
  refine Kv.of (by decide) (Nat.le_of_ble_eq_true rfl) 0 (fun Γ C Rt => ?_)
  show AW ids ad ca Γ 0 [some (.ref (ad 30)), some (.int p0)] [] σ
  refine a_aload_n C dX10_emit_0 (i := 0) rfl rfl ?_
  refine a_get C fl_RX10_51 (i := 30) kd_30 (hid 30 (by decide)) (v := .int 0) (congrArg (fun z => some (Value.int z)) h_30_8) dX10_emit_1 ?_
  refine a_aload_n C dX10_emit_4 (i := 0) rfl rfl ?_
  refine a_get C fl_RX10_29 (i := 30) kd_30 (hid 30 (by decide)) (v := .ref (ad 41)) rfl dX10_emit_5 ?_
  refine a_alen C (by rw [kd_41]; decide) (hid 41 (by decide)) (v := 408) (by rw [al_41]; rfl) dX10_emit_8 ?_
  refine a_ic_ge C dX10_emit_9 (tgt := 32) rfl (fun h => absurd h (by decide)) (fun _ => ?_)
  refine a_aload_n C dX10_emit_12 (i := 0) rfl rfl ?_
  refine a_get C fl_RX10_29 (i := 30) kd_30 (hid 30 (by decide)) (v := .ref (ad 41)) rfl dX10_emit_13 ?_
  refine a_aload_n C dX10_emit_16 (i := 0) rfl rfl ?_
  refine a_get C fl_RX10_51 (i := 30) kd_30 (hid 30 (by decide)) (v := .int 0) (congrArg (fun z => some (Value.int z)) h_30_8) dX10_emit_17 ?_
  refine a_iload_n C dX10_emit_20 (i := 1) rfl rfl ?_
  refine a_iast C (i := 41) 0 kd_41 (hid 41 (by decide)) (by decide) rfl (by rw [al_41]; decide) dX10_emit_21 ?_
  refine a_aload_n C dX10_emit_22 (i := 0) rfl rfl ?_
  refine a_dup C dX10_emit_23 rfl ?_
  refine a_get C fl_RX10_51 (i := 30) kd_30 (hid 30 (by decide)) (v := .int 0) (congrArg (fun z => some (Value.int z)) h_30_8) dX10_emit_24 ?_
  refine a_iconst C dX10_emit_27 (v := 1) rfl ?_
  refine a_iadd C dX10_emit_28 ?_
  refine a_put C fp_RX10_51 (i := 30) kd_30 (hid 30 (by decide)) rfl rfl dX10_emit_29 ?_
  exact a_vret Rt dX10_emit_32 (rfl)
set_option maxHeartbeats 4000000 in
set_option maxRecDepth 100000 in
theorem k_emitT_1 {l : Launch} {D : va_G} {ids : List Nat} {ad : Nat → Nat} {ca : Nat → ClassId} {σ : HS} {p0 : Int32} (hid : ∀ i, i ∈ [30, 31, 32, 33, 34, 35, 36, 37, 38, 39, 40, 41, 42] → i ∈ ids) (h_30_8 : σ.1 30 8 = 1) : Kv l D ids ad ca yX10_emit cX10_emit 2 0 0 [.ref (ad 30), .int p0] σ (fun σ1 => σ1 = (hI (hI σ 41 1 p0) 30 8 2)) := by
  refine Kv.of (by decide) (Nat.le_of_ble_eq_true rfl) 0 (fun Γ C Rt => ?_)
  show AW ids ad ca Γ 0 [some (.ref (ad 30)), some (.int p0)] [] σ
  refine a_aload_n C dX10_emit_0 (i := 0) rfl rfl ?_
  refine a_get C fl_RX10_51 (i := 30) kd_30 (hid 30 (by decide)) (v := .int 1) (congrArg (fun z => some (Value.int z)) h_30_8) dX10_emit_1 ?_
  refine a_aload_n C dX10_emit_4 (i := 0) rfl rfl ?_
  refine a_get C fl_RX10_29 (i := 30) kd_30 (hid 30 (by decide)) (v := .ref (ad 41)) rfl dX10_emit_5 ?_
  refine a_alen C (by rw [kd_41]; decide) (hid 41 (by decide)) (v := 408) (by rw [al_41]; rfl) dX10_emit_8 ?_
  refine a_ic_ge C dX10_emit_9 (tgt := 32) rfl (fun h => absurd h (by decide)) (fun _ => ?_)
  refine a_aload_n C dX10_emit_12 (i := 0) rfl rfl ?_
  refine a_get C fl_RX10_29 (i := 30) kd_30 (hid 30 (by decide)) (v := .ref (ad 41)) rfl dX10_emit_13 ?_
  refine a_aload_n C dX10_emit_16 (i := 0) rfl rfl ?_
  refine a_get C fl_RX10_51 (i := 30) kd_30 (hid 30 (by decide)) (v := .int 1) (congrArg (fun z => some (Value.int z)) h_30_8) dX10_emit_17 ?_
  refine a_iload_n C dX10_emit_20 (i := 1) rfl rfl ?_
  refine a_iast C (i := 41) 1 kd_41 (hid 41 (by decide)) (by decide) rfl (by rw [al_41]; decide) dX10_emit_21 ?_
  refine a_aload_n C dX10_emit_22 (i := 0) rfl rfl ?_
  refine a_dup C dX10_emit_23 rfl ?_
  refine a_get C fl_RX10_51 (i := 30) kd_30 (hid 30 (by decide)) (v := .int 1) (congrArg (fun z => some (Value.int z)) h_30_8) dX10_emit_24 ?_
  refine a_iconst C dX10_emit_27 (v := 1) rfl ?_
  refine a_iadd C dX10_emit_28 ?_
  refine a_put C fp_RX10_51 (i := 30) kd_30 (hid 30 (by decide)) rfl rfl dX10_emit_29 ?_
  exact a_vret Rt dX10_emit_32 (rfl)
set_option maxHeartbeats 4000000 in
set_option maxRecDepth 100000 in
theorem k_emitT_2 {l : Launch} {D : va_G} {ids : List Nat} {ad : Nat → Nat} {ca : Nat → ClassId} {σ : HS} {p0 : Int32} (hid : ∀ i, i ∈ [30, 31, 32, 33, 34, 35, 36, 37, 38, 39, 40, 41, 42] → i ∈ ids) (h_30_8 : σ.1 30 8 = 2) : Kv l D ids ad ca yX10_emit cX10_emit 2 0 0 [.ref (ad 30), .int p0] σ (fun σ1 => σ1 = (hI (hI σ 41 2 p0) 30 8 3)) := by
  refine Kv.of (by decide) (Nat.le_of_ble_eq_true rfl) 0 (fun Γ C Rt => ?_)
  show AW ids ad ca Γ 0 [some (.ref (ad 30)), some (.int p0)] [] σ
  refine a_aload_n C dX10_emit_0 (i := 0) rfl rfl ?_
  refine a_get C fl_RX10_51 (i := 30) kd_30 (hid 30 (by decide)) (v := .int 2) (congrArg (fun z => some (Value.int z)) h_30_8) dX10_emit_1 ?_
  refine a_aload_n C dX10_emit_4 (i := 0) rfl rfl ?_
  refine a_get C fl_RX10_29 (i := 30) kd_30 (hid 30 (by decide)) (v := .ref (ad 41)) rfl dX10_emit_5 ?_
  refine a_alen C (by rw [kd_41]; decide) (hid 41 (by decide)) (v := 408) (by rw [al_41]; rfl) dX10_emit_8 ?_
  refine a_ic_ge C dX10_emit_9 (tgt := 32) rfl (fun h => absurd h (by decide)) (fun _ => ?_)
  refine a_aload_n C dX10_emit_12 (i := 0) rfl rfl ?_
  refine a_get C fl_RX10_29 (i := 30) kd_30 (hid 30 (by decide)) (v := .ref (ad 41)) rfl dX10_emit_13 ?_
  refine a_aload_n C dX10_emit_16 (i := 0) rfl rfl ?_
  refine a_get C fl_RX10_51 (i := 30) kd_30 (hid 30 (by decide)) (v := .int 2) (congrArg (fun z => some (Value.int z)) h_30_8) dX10_emit_17 ?_
  refine a_iload_n C dX10_emit_20 (i := 1) rfl rfl ?_
  refine a_iast C (i := 41) 2 kd_41 (hid 41 (by decide)) (by decide) rfl (by rw [al_41]; decide) dX10_emit_21 ?_
  refine a_aload_n C dX10_emit_22 (i := 0) rfl rfl ?_
  refine a_dup C dX10_emit_23 rfl ?_
  refine a_get C fl_RX10_51 (i := 30) kd_30 (hid 30 (by decide)) (v := .int 2) (congrArg (fun z => some (Value.int z)) h_30_8) dX10_emit_24 ?_
  refine a_iconst C dX10_emit_27 (v := 1) rfl ?_
  refine a_iadd C dX10_emit_28 ?_
  refine a_put C fp_RX10_51 (i := 30) kd_30 (hid 30 (by decide)) rfl rfl dX10_emit_29 ?_
  exact a_vret Rt dX10_emit_32 (rfl)
set_option maxHeartbeats 4000000 in
set_option maxRecDepth 100000 in
theorem k_emitT_3 {l : Launch} {D : va_G} {ids : List Nat} {ad : Nat → Nat} {ca : Nat → ClassId} {σ : HS} {p0 : Int32} (hid : ∀ i, i ∈ [30, 31, 32, 33, 34, 35, 36, 37, 38, 39, 40, 41, 42] → i ∈ ids) (h_30_8 : σ.1 30 8 = 3) : Kv l D ids ad ca yX10_emit cX10_emit 2 0 0 [.ref (ad 30), .int p0] σ (fun σ1 => σ1 = (hI (hI σ 41 3 p0) 30 8 4)) := by
  refine Kv.of (by decide) (Nat.le_of_ble_eq_true rfl) 0 (fun Γ C Rt => ?_)
  show AW ids ad ca Γ 0 [some (.ref (ad 30)), some (.int p0)] [] σ
  refine a_aload_n C dX10_emit_0 (i := 0) rfl rfl ?_
  refine a_get C fl_RX10_51 (i := 30) kd_30 (hid 30 (by decide)) (v := .int 3) (congrArg (fun z => some (Value.int z)) h_30_8) dX10_emit_1 ?_
  refine a_aload_n C dX10_emit_4 (i := 0) rfl rfl ?_
  refine a_get C fl_RX10_29 (i := 30) kd_30 (hid 30 (by decide)) (v := .ref (ad 41)) rfl dX10_emit_5 ?_
  refine a_alen C (by rw [kd_41]; decide) (hid 41 (by decide)) (v := 408) (by rw [al_41]; rfl) dX10_emit_8 ?_
  refine a_ic_ge C dX10_emit_9 (tgt := 32) rfl (fun h => absurd h (by decide)) (fun _ => ?_)
  refine a_aload_n C dX10_emit_12 (i := 0) rfl rfl ?_
  refine a_get C fl_RX10_29 (i := 30) kd_30 (hid 30 (by decide)) (v := .ref (ad 41)) rfl dX10_emit_13 ?_
  refine a_aload_n C dX10_emit_16 (i := 0) rfl rfl ?_
  refine a_get C fl_RX10_51 (i := 30) kd_30 (hid 30 (by decide)) (v := .int 3) (congrArg (fun z => some (Value.int z)) h_30_8) dX10_emit_17 ?_
  refine a_iload_n C dX10_emit_20 (i := 1) rfl rfl ?_
  refine a_iast C (i := 41) 3 kd_41 (hid 41 (by decide)) (by decide) rfl (by rw [al_41]; decide) dX10_emit_21 ?_
  refine a_aload_n C dX10_emit_22 (i := 0) rfl rfl ?_
  refine a_dup C dX10_emit_23 rfl ?_
  refine a_get C fl_RX10_51 (i := 30) kd_30 (hid 30 (by decide)) (v := .int 3) (congrArg (fun z => some (Value.int z)) h_30_8) dX10_emit_24 ?_
  refine a_iconst C dX10_emit_27 (v := 1) rfl ?_
  refine a_iadd C dX10_emit_28 ?_
  refine a_put C fp_RX10_51 (i := 30) kd_30 (hid 30 (by decide)) rfl rfl dX10_emit_29 ?_
  exact a_vret Rt dX10_emit_32 (rfl)
set_option maxHeartbeats 4000000 in
set_option maxRecDepth 100000 in
theorem k_emitT_4 {l : Launch} {D : va_G} {ids : List Nat} {ad : Nat → Nat} {ca : Nat → ClassId} {σ : HS} {p0 : Int32} (hid : ∀ i, i ∈ [30, 31, 32, 33, 34, 35, 36, 37, 38, 39, 40, 41, 42] → i ∈ ids) (h_30_8 : σ.1 30 8 = 4) : Kv l D ids ad ca yX10_emit cX10_emit 2 0 0 [.ref (ad 30), .int p0] σ (fun σ1 => σ1 = (hI (hI σ 41 4 p0) 30 8 5)) := by
  refine Kv.of (by decide) (Nat.le_of_ble_eq_true rfl) 0 (fun Γ C Rt => ?_)
  show AW ids ad ca Γ 0 [some (.ref (ad 30)), some (.int p0)] [] σ
  refine a_aload_n C dX10_emit_0 (i := 0) rfl rfl ?_
  refine a_get C fl_RX10_51 (i := 30) kd_30 (hid 30 (by decide)) (v := .int 4) (congrArg (fun z => some (Value.int z)) h_30_8) dX10_emit_1 ?_
  refine a_aload_n C dX10_emit_4 (i := 0) rfl rfl ?_
  refine a_get C fl_RX10_29 (i := 30) kd_30 (hid 30 (by decide)) (v := .ref (ad 41)) rfl dX10_emit_5 ?_
  refine a_alen C (by rw [kd_41]; decide) (hid 41 (by decide)) (v := 408) (by rw [al_41]; rfl) dX10_emit_8 ?_
  refine a_ic_ge C dX10_emit_9 (tgt := 32) rfl (fun h => absurd h (by decide)) (fun _ => ?_)
  refine a_aload_n C dX10_emit_12 (i := 0) rfl rfl ?_
  refine a_get C fl_RX10_29 (i := 30) kd_30 (hid 30 (by decide)) (v := .ref (ad 41)) rfl dX10_emit_13 ?_
  refine a_aload_n C dX10_emit_16 (i := 0) rfl rfl ?_
  refine a_get C fl_RX10_51 (i := 30) kd_30 (hid 30 (by decide)) (v := .int 4) (congrArg (fun z => some (Value.int z)) h_30_8) dX10_emit_17 ?_
  refine a_iload_n C dX10_emit_20 (i := 1) rfl rfl ?_
  refine a_iast C (i := 41) 4 kd_41 (hid 41 (by decide)) (by decide) rfl (by rw [al_41]; decide) dX10_emit_21 ?_
  refine a_aload_n C dX10_emit_22 (i := 0) rfl rfl ?_
  refine a_dup C dX10_emit_23 rfl ?_
  refine a_get C fl_RX10_51 (i := 30) kd_30 (hid 30 (by decide)) (v := .int 4) (congrArg (fun z => some (Value.int z)) h_30_8) dX10_emit_24 ?_
  refine a_iconst C dX10_emit_27 (v := 1) rfl ?_
  refine a_iadd C dX10_emit_28 ?_
  refine a_put C fp_RX10_51 (i := 30) kd_30 (hid 30 (by decide)) rfl rfl dX10_emit_29 ?_
  exact a_vret Rt dX10_emit_32 (rfl)
set_option maxHeartbeats 4000000 in
set_option maxRecDepth 100000 in
theorem k_emitT_5 {l : Launch} {D : va_G} {ids : List Nat} {ad : Nat → Nat} {ca : Nat → ClassId} {σ : HS} {p0 : Int32} (hid : ∀ i, i ∈ [30, 31, 32, 33, 34, 35, 36, 37, 38, 39, 40, 41, 42] → i ∈ ids) (h_30_8 : σ.1 30 8 = 5) : Kv l D ids ad ca yX10_emit cX10_emit 2 0 0 [.ref (ad 30), .int p0] σ (fun σ1 => σ1 = (hI (hI σ 41 5 p0) 30 8 6)) := by
  refine Kv.of (by decide) (Nat.le_of_ble_eq_true rfl) 0 (fun Γ C Rt => ?_)
  show AW ids ad ca Γ 0 [some (.ref (ad 30)), some (.int p0)] [] σ
  refine a_aload_n C dX10_emit_0 (i := 0) rfl rfl ?_
  refine a_get C fl_RX10_51 (i := 30) kd_30 (hid 30 (by decide)) (v := .int 5) (congrArg (fun z => some (Value.int z)) h_30_8) dX10_emit_1 ?_
  refine a_aload_n C dX10_emit_4 (i := 0) rfl rfl ?_
  refine a_get C fl_RX10_29 (i := 30) kd_30 (hid 30 (by decide)) (v := .ref (ad 41)) rfl dX10_emit_5 ?_
  refine a_alen C (by rw [kd_41]; decide) (hid 41 (by decide)) (v := 408) (by rw [al_41]; rfl) dX10_emit_8 ?_
  refine a_ic_ge C dX10_emit_9 (tgt := 32) rfl (fun h => absurd h (by decide)) (fun _ => ?_)
  refine a_aload_n C dX10_emit_12 (i := 0) rfl rfl ?_
  refine a_get C fl_RX10_29 (i := 30) kd_30 (hid 30 (by decide)) (v := .ref (ad 41)) rfl dX10_emit_13 ?_
  refine a_aload_n C dX10_emit_16 (i := 0) rfl rfl ?_
  refine a_get C fl_RX10_51 (i := 30) kd_30 (hid 30 (by decide)) (v := .int 5) (congrArg (fun z => some (Value.int z)) h_30_8) dX10_emit_17 ?_
  refine a_iload_n C dX10_emit_20 (i := 1) rfl rfl ?_
  refine a_iast C (i := 41) 5 kd_41 (hid 41 (by decide)) (by decide) rfl (by rw [al_41]; decide) dX10_emit_21 ?_
  refine a_aload_n C dX10_emit_22 (i := 0) rfl rfl ?_
  refine a_dup C dX10_emit_23 rfl ?_
  refine a_get C fl_RX10_51 (i := 30) kd_30 (hid 30 (by decide)) (v := .int 5) (congrArg (fun z => some (Value.int z)) h_30_8) dX10_emit_24 ?_
  refine a_iconst C dX10_emit_27 (v := 1) rfl ?_
  refine a_iadd C dX10_emit_28 ?_
  refine a_put C fp_RX10_51 (i := 30) kd_30 (hid 30 (by decide)) rfl rfl dX10_emit_29 ?_
  exact a_vret Rt dX10_emit_32 (rfl)
set_option maxHeartbeats 4000000 in
set_option maxRecDepth 100000 in
theorem k_emitT_6 {l : Launch} {D : va_G} {ids : List Nat} {ad : Nat → Nat} {ca : Nat → ClassId} {σ : HS} {p0 : Int32} (hid : ∀ i, i ∈ [30, 31, 32, 33, 34, 35, 36, 37, 38, 39, 40, 41, 42] → i ∈ ids) (h_30_8 : σ.1 30 8 = 6) : Kv l D ids ad ca yX10_emit cX10_emit 2 0 0 [.ref (ad 30), .int p0] σ (fun σ1 => σ1 = (hI (hI σ 41 6 p0) 30 8 7)) := by
  refine Kv.of (by decide) (Nat.le_of_ble_eq_true rfl) 0 (fun Γ C Rt => ?_)
  show AW ids ad ca Γ 0 [some (.ref (ad 30)), some (.int p0)] [] σ
  refine a_aload_n C dX10_emit_0 (i := 0) rfl rfl ?_
  refine a_get C fl_RX10_51 (i := 30) kd_30 (hid 30 (by decide)) (v := .int 6) (congrArg (fun z => some (Value.int z)) h_30_8) dX10_emit_1 ?_
  refine a_aload_n C dX10_emit_4 (i := 0) rfl rfl ?_
  refine a_get C fl_RX10_29 (i := 30) kd_30 (hid 30 (by decide)) (v := .ref (ad 41)) rfl dX10_emit_5 ?_
  refine a_alen C (by rw [kd_41]; decide) (hid 41 (by decide)) (v := 408) (by rw [al_41]; rfl) dX10_emit_8 ?_
  refine a_ic_ge C dX10_emit_9 (tgt := 32) rfl (fun h => absurd h (by decide)) (fun _ => ?_)
  refine a_aload_n C dX10_emit_12 (i := 0) rfl rfl ?_
  refine a_get C fl_RX10_29 (i := 30) kd_30 (hid 30 (by decide)) (v := .ref (ad 41)) rfl dX10_emit_13 ?_
  refine a_aload_n C dX10_emit_16 (i := 0) rfl rfl ?_
  refine a_get C fl_RX10_51 (i := 30) kd_30 (hid 30 (by decide)) (v := .int 6) (congrArg (fun z => some (Value.int z)) h_30_8) dX10_emit_17 ?_
  refine a_iload_n C dX10_emit_20 (i := 1) rfl rfl ?_
  refine a_iast C (i := 41) 6 kd_41 (hid 41 (by decide)) (by decide) rfl (by rw [al_41]; decide) dX10_emit_21 ?_
  refine a_aload_n C dX10_emit_22 (i := 0) rfl rfl ?_
  refine a_dup C dX10_emit_23 rfl ?_
  refine a_get C fl_RX10_51 (i := 30) kd_30 (hid 30 (by decide)) (v := .int 6) (congrArg (fun z => some (Value.int z)) h_30_8) dX10_emit_24 ?_
  refine a_iconst C dX10_emit_27 (v := 1) rfl ?_
  refine a_iadd C dX10_emit_28 ?_
  refine a_put C fp_RX10_51 (i := 30) kd_30 (hid 30 (by decide)) rfl rfl dX10_emit_29 ?_
  exact a_vret Rt dX10_emit_32 (rfl)
set_option maxHeartbeats 4000000 in
set_option maxRecDepth 100000 in
theorem k_emitT_7 {l : Launch} {D : va_G} {ids : List Nat} {ad : Nat → Nat} {ca : Nat → ClassId} {σ : HS} {p0 : Int32} (hid : ∀ i, i ∈ [30, 31, 32, 33, 34, 35, 36, 37, 38, 39, 40, 41, 42] → i ∈ ids) (h_30_8 : σ.1 30 8 = 7) : Kv l D ids ad ca yX10_emit cX10_emit 2 0 0 [.ref (ad 30), .int p0] σ (fun σ1 => σ1 = (hI (hI σ 41 7 p0) 30 8 8)) := by
  refine Kv.of (by decide) (Nat.le_of_ble_eq_true rfl) 0 (fun Γ C Rt => ?_)
  show AW ids ad ca Γ 0 [some (.ref (ad 30)), some (.int p0)] [] σ
  refine a_aload_n C dX10_emit_0 (i := 0) rfl rfl ?_
  refine a_get C fl_RX10_51 (i := 30) kd_30 (hid 30 (by decide)) (v := .int 7) (congrArg (fun z => some (Value.int z)) h_30_8) dX10_emit_1 ?_
  refine a_aload_n C dX10_emit_4 (i := 0) rfl rfl ?_
  refine a_get C fl_RX10_29 (i := 30) kd_30 (hid 30 (by decide)) (v := .ref (ad 41)) rfl dX10_emit_5 ?_
  refine a_alen C (by rw [kd_41]; decide) (hid 41 (by decide)) (v := 408) (by rw [al_41]; rfl) dX10_emit_8 ?_
  refine a_ic_ge C dX10_emit_9 (tgt := 32) rfl (fun h => absurd h (by decide)) (fun _ => ?_)
  refine a_aload_n C dX10_emit_12 (i := 0) rfl rfl ?_
  refine a_get C fl_RX10_29 (i := 30) kd_30 (hid 30 (by decide)) (v := .ref (ad 41)) rfl dX10_emit_13 ?_
  refine a_aload_n C dX10_emit_16 (i := 0) rfl rfl ?_
  refine a_get C fl_RX10_51 (i := 30) kd_30 (hid 30 (by decide)) (v := .int 7) (congrArg (fun z => some (Value.int z)) h_30_8) dX10_emit_17 ?_
  refine a_iload_n C dX10_emit_20 (i := 1) rfl rfl ?_
  refine a_iast C (i := 41) 7 kd_41 (hid 41 (by decide)) (by decide) rfl (by rw [al_41]; decide) dX10_emit_21 ?_
  refine a_aload_n C dX10_emit_22 (i := 0) rfl rfl ?_
  refine a_dup C dX10_emit_23 rfl ?_
  refine a_get C fl_RX10_51 (i := 30) kd_30 (hid 30 (by decide)) (v := .int 7) (congrArg (fun z => some (Value.int z)) h_30_8) dX10_emit_24 ?_
  refine a_iconst C dX10_emit_27 (v := 1) rfl ?_
  refine a_iadd C dX10_emit_28 ?_
  refine a_put C fp_RX10_51 (i := 30) kd_30 (hid 30 (by decide)) rfl rfl dX10_emit_29 ?_
  exact a_vret Rt dX10_emit_32 (rfl)
set_option maxHeartbeats 4000000 in
set_option maxRecDepth 100000 in
theorem k_clearT {l : Launch} {D : va_G} {ids : List Nat} {ad : Nat → Nat} {ca : Nat → ClassId} {σ : HS} (hid : ∀ i, i ∈ [30, 31, 32, 33, 34, 35, 36, 37, 38, 39, 40, 41, 42] → i ∈ ids) : Kv l D ids ad ca yX10_clear cX10_clear 2 1 21 [.ref (ad 30)] σ (fun σ1 => σ1 = (hI (hI (hI (hI (hI (hI (hI (hI (hI (hI (hI (hI (hI (hI (hI (hI (hI (hI (hI (hI (hI (hI (hI (hI (hI σ 30 0 0) 30 4 0) 30 10 1) 30 11 0) 30 8 0) 42 0 0) 41 0 0) 30 8 1) 41 1 (-6)) 30 8 2) 42 1 2) 41 2 0) 30 8 3) 41 3 (-6)) 30 8 4) 42 2 4) 41 4 (-11)) 30 8 5) 41 5 (-6)) 30 8 6) 42 3 6) 41 6 0) 30 8 7) 41 7 (-6)) 30 8 8)) := by
  refine Kv.of (by decide) (Nat.le_of_ble_eq_true rfl) 1 (fun Γ C Rt => ?_)
  show AW ids ad ca Γ 0 [some (.ref (ad 30)), none] [] σ
  refine a_aload_n C dX10_clear_0 (i := 0) rfl rfl ?_
  refine a_iconst C dX10_clear_1 (v := 0) rfl ?_
  refine a_put C fp_RX10_38 (i := 30) kd_30 (hid 30 (by decide)) rfl rfl dX10_clear_2 ?_
  refine a_aload_n C dX10_clear_5 (i := 0) rfl rfl ?_
  refine a_iconst C dX10_clear_6 (v := 0) rfl ?_
  refine a_put C fp_RX10_42 (i := 30) kd_30 (hid 30 (by decide)) rfl rfl dX10_clear_7 ?_
  refine a_aload_n C dX10_clear_10 (i := 0) rfl rfl ?_
  refine a_iconst C dX10_clear_11 (v := 1) rfl ?_
  refine a_put C fp_RX10_45 (i := 30) kd_30 (hid 30 (by decide)) rfl rfl dX10_clear_12 ?_
  refine a_aload_n C dX10_clear_15 (i := 0) rfl rfl ?_
  refine a_iconst C dX10_clear_16 (v := 0) rfl ?_
  refine a_put C fp_RX10_48 (i := 30) kd_30 (hid 30 (by decide)) rfl rfl dX10_clear_17 ?_
  refine a_aload_n C dX10_clear_20 (i := 0) rfl rfl ?_
  refine a_iconst C dX10_clear_21 (v := 0) rfl ?_
  refine a_put C fp_RX10_51 (i := 30) kd_30 (hid 30 (by decide)) rfl rfl dX10_clear_22 ?_
  refine a_iconst C dX10_clear_25 (v := 0) rfl ?_
  refine a_istore_n C dX10_clear_26 (i := 1) rfl (by decide) rfl (vs1 := [some (.ref (ad 30)), some (.int 0)]) rfl ?_
  refine a_iload_n C dX10_clear_27 (i := 1) rfl rfl ?_
  refine a_iconst C dX10_clear_28 (v := 4) rfl ?_
  refine a_ic_ge C dX10_clear_29 (tgt := 69) rfl (fun h => absurd h (by decide)) (fun _ => ?_)
  refine a_aload_n C dX10_clear_32 (i := 0) rfl rfl ?_
  refine a_get C fl_RX10_32 (i := 30) kd_30 (hid 30 (by decide)) (v := .ref (ad 42)) rfl dX10_clear_33 ?_
  refine a_iload_n C dX10_clear_36 (i := 1) rfl rfl ?_
  refine a_aload_n C dX10_clear_37 (i := 0) rfl rfl ?_
  refine a_get C fl_RX10_51 (i := 30) kd_30 (hid 30 (by decide)) (v := .int 0) rfl dX10_clear_38 ?_
  refine a_iast C (i := 42) 0 kd_42 (hid 42 (by decide)) (by decide) rfl (by rw [al_42]; decide) dX10_clear_41 ?_
  refine a_aload_n C dX10_clear_42 (i := 0) rfl rfl ?_
  refine a_iload_n C dX10_clear_43 (i := 1) rfl rfl ?_
  refine a_iconst C dX10_clear_44 (v := 2) rfl ?_
  refine a_ic_ne C dX10_clear_45 (tgt := 53) rfl (fun _ => ?_) (fun h => absurd h (by decide))
  refine a_iconst C dX10_clear_53 (v := 0) rfl ?_
  refine a_callVv C (i := 30) kd_30 (hid 30 (by decide)) ⟨_, _, rfl⟩ (by decide) (k_emitT_0 hid rfl) mi_X10_emit ml_RX10_54 rfl rfl (Nat.le_of_ble_eq_true rfl) (Nat.le_of_ble_eq_true rfl) (Nat.le_of_ble_eq_true rfl) dX10_clear_54 (fun σ2 q3 => ?_)
  subst q3
  refine a_aload_n C dX10_clear_57 (i := 0) rfl rfl ?_
  refine a_bipush C dX10_clear_58 (v := (-6)) rfl ?_
  refine a_callVv C (i := 30) kd_30 (hid 30 (by decide)) ⟨_, _, rfl⟩ (by decide) (k_emitT_1 hid rfl) mi_X10_emit ml_RX10_54 rfl rfl (Nat.le_of_ble_eq_true rfl) (Nat.le_of_ble_eq_true rfl) (Nat.le_of_ble_eq_true rfl) dX10_clear_60 (fun σ5 q6 => ?_)
  subst q6
  refine a_iinc C dX10_clear_63 rfl (v := 1) rfl (by decide) rfl (vs1 := [some (.ref (ad 30)), some (.int 1)]) rfl ?_
  refine a_goto C dX10_clear_66 (tgt := 27) rfl ?_
  refine a_iload_n C dX10_clear_27 (i := 1) rfl rfl ?_
  refine a_iconst C dX10_clear_28 (v := 4) rfl ?_
  refine a_ic_ge C dX10_clear_29 (tgt := 69) rfl (fun h => absurd h (by decide)) (fun _ => ?_)
  refine a_aload_n C dX10_clear_32 (i := 0) rfl rfl ?_
  refine a_get C fl_RX10_32 (i := 30) kd_30 (hid 30 (by decide)) (v := .ref (ad 42)) rfl dX10_clear_33 ?_
  refine a_iload_n C dX10_clear_36 (i := 1) rfl rfl ?_
  refine a_aload_n C dX10_clear_37 (i := 0) rfl rfl ?_
  refine a_get C fl_RX10_51 (i := 30) kd_30 (hid 30 (by decide)) (v := .int 2) rfl dX10_clear_38 ?_
  refine a_iast C (i := 42) 1 kd_42 (hid 42 (by decide)) (by decide) rfl (by rw [al_42]; decide) dX10_clear_41 ?_
  refine a_aload_n C dX10_clear_42 (i := 0) rfl rfl ?_
  refine a_iload_n C dX10_clear_43 (i := 1) rfl rfl ?_
  refine a_iconst C dX10_clear_44 (v := 2) rfl ?_
  refine a_ic_ne C dX10_clear_45 (tgt := 53) rfl (fun _ => ?_) (fun h => absurd h (by decide))
  refine a_iconst C dX10_clear_53 (v := 0) rfl ?_
  refine a_callVv C (i := 30) kd_30 (hid 30 (by decide)) ⟨_, _, rfl⟩ (by decide) (k_emitT_2 hid rfl) mi_X10_emit ml_RX10_54 rfl rfl (Nat.le_of_ble_eq_true rfl) (Nat.le_of_ble_eq_true rfl) (Nat.le_of_ble_eq_true rfl) dX10_clear_54 (fun σ8 q9 => ?_)
  subst q9
  refine a_aload_n C dX10_clear_57 (i := 0) rfl rfl ?_
  refine a_bipush C dX10_clear_58 (v := (-6)) rfl ?_
  refine a_callVv C (i := 30) kd_30 (hid 30 (by decide)) ⟨_, _, rfl⟩ (by decide) (k_emitT_3 hid rfl) mi_X10_emit ml_RX10_54 rfl rfl (Nat.le_of_ble_eq_true rfl) (Nat.le_of_ble_eq_true rfl) (Nat.le_of_ble_eq_true rfl) dX10_clear_60 (fun σ11 q12 => ?_)
  subst q12
  refine a_iinc C dX10_clear_63 rfl (v := 2) rfl (by decide) rfl (vs1 := [some (.ref (ad 30)), some (.int 2)]) rfl ?_
  refine a_goto C dX10_clear_66 (tgt := 27) rfl ?_
  refine a_iload_n C dX10_clear_27 (i := 1) rfl rfl ?_
  refine a_iconst C dX10_clear_28 (v := 4) rfl ?_
  refine a_ic_ge C dX10_clear_29 (tgt := 69) rfl (fun h => absurd h (by decide)) (fun _ => ?_)
  refine a_aload_n C dX10_clear_32 (i := 0) rfl rfl ?_
  refine a_get C fl_RX10_32 (i := 30) kd_30 (hid 30 (by decide)) (v := .ref (ad 42)) rfl dX10_clear_33 ?_
  refine a_iload_n C dX10_clear_36 (i := 1) rfl rfl ?_
  refine a_aload_n C dX10_clear_37 (i := 0) rfl rfl ?_
  refine a_get C fl_RX10_51 (i := 30) kd_30 (hid 30 (by decide)) (v := .int 4) rfl dX10_clear_38 ?_
  refine a_iast C (i := 42) 2 kd_42 (hid 42 (by decide)) (by decide) rfl (by rw [al_42]; decide) dX10_clear_41 ?_
  refine a_aload_n C dX10_clear_42 (i := 0) rfl rfl ?_
  refine a_iload_n C dX10_clear_43 (i := 1) rfl rfl ?_
  refine a_iconst C dX10_clear_44 (v := 2) rfl ?_
  refine a_ic_ne C dX10_clear_45 (tgt := 53) rfl (fun h => absurd h (by decide)) (fun _ => ?_)
  refine a_bipush C dX10_clear_48 (v := (-11)) rfl ?_
  refine a_goto C dX10_clear_50 (tgt := 54) rfl ?_
  refine a_callVv C (i := 30) kd_30 (hid 30 (by decide)) ⟨_, _, rfl⟩ (by decide) (k_emitT_4 hid rfl) mi_X10_emit ml_RX10_54 rfl rfl (Nat.le_of_ble_eq_true rfl) (Nat.le_of_ble_eq_true rfl) (Nat.le_of_ble_eq_true rfl) dX10_clear_54 (fun σ14 q15 => ?_)
  subst q15
  refine a_aload_n C dX10_clear_57 (i := 0) rfl rfl ?_
  refine a_bipush C dX10_clear_58 (v := (-6)) rfl ?_
  refine a_callVv C (i := 30) kd_30 (hid 30 (by decide)) ⟨_, _, rfl⟩ (by decide) (k_emitT_5 hid rfl) mi_X10_emit ml_RX10_54 rfl rfl (Nat.le_of_ble_eq_true rfl) (Nat.le_of_ble_eq_true rfl) (Nat.le_of_ble_eq_true rfl) dX10_clear_60 (fun σ17 q18 => ?_)
  subst q18
  refine a_iinc C dX10_clear_63 rfl (v := 3) rfl (by decide) rfl (vs1 := [some (.ref (ad 30)), some (.int 3)]) rfl ?_
  refine a_goto C dX10_clear_66 (tgt := 27) rfl ?_
  refine a_iload_n C dX10_clear_27 (i := 1) rfl rfl ?_
  refine a_iconst C dX10_clear_28 (v := 4) rfl ?_
  refine a_ic_ge C dX10_clear_29 (tgt := 69) rfl (fun h => absurd h (by decide)) (fun _ => ?_)
  refine a_aload_n C dX10_clear_32 (i := 0) rfl rfl ?_
  refine a_get C fl_RX10_32 (i := 30) kd_30 (hid 30 (by decide)) (v := .ref (ad 42)) rfl dX10_clear_33 ?_
  refine a_iload_n C dX10_clear_36 (i := 1) rfl rfl ?_
  refine a_aload_n C dX10_clear_37 (i := 0) rfl rfl ?_
  refine a_get C fl_RX10_51 (i := 30) kd_30 (hid 30 (by decide)) (v := .int 6) rfl dX10_clear_38 ?_
  refine a_iast C (i := 42) 3 kd_42 (hid 42 (by decide)) (by decide) rfl (by rw [al_42]; decide) dX10_clear_41 ?_
  refine a_aload_n C dX10_clear_42 (i := 0) rfl rfl ?_
  refine a_iload_n C dX10_clear_43 (i := 1) rfl rfl ?_
  refine a_iconst C dX10_clear_44 (v := 2) rfl ?_
  refine a_ic_ne C dX10_clear_45 (tgt := 53) rfl (fun _ => ?_) (fun h => absurd h (by decide))
  refine a_iconst C dX10_clear_53 (v := 0) rfl ?_
  refine a_callVv C (i := 30) kd_30 (hid 30 (by decide)) ⟨_, _, rfl⟩ (by decide) (k_emitT_6 hid rfl) mi_X10_emit ml_RX10_54 rfl rfl (Nat.le_of_ble_eq_true rfl) (Nat.le_of_ble_eq_true rfl) (Nat.le_of_ble_eq_true rfl) dX10_clear_54 (fun σ20 q21 => ?_)
  subst q21
  refine a_aload_n C dX10_clear_57 (i := 0) rfl rfl ?_
  refine a_bipush C dX10_clear_58 (v := (-6)) rfl ?_
  refine a_callVv C (i := 30) kd_30 (hid 30 (by decide)) ⟨_, _, rfl⟩ (by decide) (k_emitT_7 hid rfl) mi_X10_emit ml_RX10_54 rfl rfl (Nat.le_of_ble_eq_true rfl) (Nat.le_of_ble_eq_true rfl) (Nat.le_of_ble_eq_true rfl) dX10_clear_60 (fun σ23 q24 => ?_)
  subst q24
  refine a_iinc C dX10_clear_63 rfl (v := 4) rfl (by decide) rfl (vs1 := [some (.ref (ad 30)), some (.int 4)]) rfl ?_
  refine a_goto C dX10_clear_66 (tgt := 27) rfl ?_
  refine a_iload_n C dX10_clear_27 (i := 1) rfl rfl ?_
  refine a_iconst C dX10_clear_28 (v := 4) rfl ?_
  refine a_ic_ge C dX10_clear_29 (tgt := 69) rfl (fun _ => ?_) (fun h => absurd h (by decide))
  exact a_vret Rt dX10_clear_69 (rfl)
def kb_cX10_init_0 : List Nat := [42, 183, 0, 3, 42, 16, 7, 188, 10, 181, 0, 9, 42, 16, 7, 188, 10, 181, 0, 15]
theorem ac_cX10_init_0 : AL cX10_init 0 kb_cX10_init_0 := AL.of (m := 20) (by decide +kernel)
theorem dX10_init_0 : decode cX10_init 0 = .ok (.aload_n 0, 1) := o42 ac_cX10_init_0 0 rfl
theorem dX10_init_1 : decode cX10_init 1 = .ok (.invokespecial 3, 3) := o183 ac_cX10_init_0 1 0 3 rfl
theorem dX10_init_4 : decode cX10_init 4 = .ok (.aload_n 0, 1) := o42 ac_cX10_init_0 4 rfl
theorem dX10_init_5 : decode cX10_init 5 = .ok (.bipush 7, 2) := o16p ac_cX10_init_0 5 7 rfl rfl
theorem dX10_init_7 : decode cX10_init 7 = .ok (.newarray .int, 2) := by decide +kernel
theorem dX10_init_9 : decode cX10_init 9 = .ok (.putfield 9, 3) := o181 ac_cX10_init_0 9 0 9 rfl
theorem dX10_init_12 : decode cX10_init 12 = .ok (.aload_n 0, 1) := o42 ac_cX10_init_0 12 rfl
theorem dX10_init_13 : decode cX10_init 13 = .ok (.bipush 7, 2) := o16p ac_cX10_init_0 13 7 rfl rfl
theorem dX10_init_15 : decode cX10_init 15 = .ok (.newarray .int, 2) := by decide +kernel
def kb_cX10_init_16 : List Nat := [10, 181, 0, 15, 42, 16, 7, 188, 10, 181, 0, 18, 42, 8, 16, 8, 197, 0, 21, 2]
theorem ac_cX10_init_16 : AL cX10_init 16 kb_cX10_init_16 := AL.of (m := 20) (by decide +kernel)
theorem dX10_init_17 : decode cX10_init 17 = .ok (.putfield 15, 3) := o181 ac_cX10_init_16 1 0 15 rfl
theorem dX10_init_20 : decode cX10_init 20 = .ok (.aload_n 0, 1) := o42 ac_cX10_init_16 4 rfl
theorem dX10_init_21 : decode cX10_init 21 = .ok (.bipush 7, 2) := o16p ac_cX10_init_16 5 7 rfl rfl
theorem dX10_init_23 : decode cX10_init 23 = .ok (.newarray .int, 2) := by decide +kernel
theorem dX10_init_25 : decode cX10_init 25 = .ok (.putfield 18, 3) := o181 ac_cX10_init_16 9 0 18 rfl
theorem dX10_init_28 : decode cX10_init 28 = .ok (.aload_n 0, 1) := o42 ac_cX10_init_16 12 rfl
theorem dX10_init_29 : decode cX10_init 29 = .ok (.iconst 5, 1) := o8 ac_cX10_init_16 13 rfl
theorem dX10_init_30 : decode cX10_init 30 = .ok (.bipush 8, 2) := o16p ac_cX10_init_16 14 8 rfl rfl
theorem dX10_init_32 : decode cX10_init 32 = .ok (.multianewarray 21 2, 4) := by decide +kernel
def kb_cX10_init_32 : List Nat := [197, 0, 21, 2, 181, 0, 23, 42, 8, 188, 10, 181, 0, 26, 42, 17, 1, 152, 188, 10]
theorem ac_cX10_init_32 : AL cX10_init 32 kb_cX10_init_32 := AL.of (m := 20) (by decide +kernel)
theorem dX10_init_36 : decode cX10_init 36 = .ok (.putfield 23, 3) := o181 ac_cX10_init_32 4 0 23 rfl
theorem dX10_init_39 : decode cX10_init 39 = .ok (.aload_n 0, 1) := o42 ac_cX10_init_32 7 rfl
theorem dX10_init_40 : decode cX10_init 40 = .ok (.iconst 5, 1) := o8 ac_cX10_init_32 8 rfl
theorem dX10_init_41 : decode cX10_init 41 = .ok (.newarray .int, 2) := by decide +kernel
theorem dX10_init_43 : decode cX10_init 43 = .ok (.putfield 26, 3) := o181 ac_cX10_init_32 11 0 26 rfl
theorem dX10_init_46 : decode cX10_init 46 = .ok (.aload_n 0, 1) := o42 ac_cX10_init_32 14 rfl
theorem dX10_init_47 : decode cX10_init 47 = .ok (.sipush 408, 3) := o17p ac_cX10_init_32 15 1 152 rfl rfl
theorem dX10_init_50 : decode cX10_init 50 = .ok (.newarray .int, 2) := by decide +kernel
def kb_cX10_init_48 : List Nat := [1, 152, 188, 10, 181, 0, 29, 42, 7, 188, 10, 181, 0, 32, 42, 182, 0, 35, 177]
theorem ac_cX10_init_48 : AL cX10_init 48 kb_cX10_init_48 := AL.of (m := 19) (by decide +kernel)
theorem dX10_init_52 : decode cX10_init 52 = .ok (.putfield 29, 3) := o181 ac_cX10_init_48 4 0 29 rfl
theorem dX10_init_55 : decode cX10_init 55 = .ok (.aload_n 0, 1) := o42 ac_cX10_init_48 7 rfl
theorem dX10_init_56 : decode cX10_init 56 = .ok (.iconst 4, 1) := o7 ac_cX10_init_48 8 rfl
theorem dX10_init_57 : decode cX10_init 57 = .ok (.newarray .int, 2) := by decide +kernel
theorem dX10_init_59 : decode cX10_init 59 = .ok (.putfield 32, 3) := o181 ac_cX10_init_48 11 0 32 rfl
theorem dX10_init_62 : decode cX10_init 62 = .ok (.aload_n 0, 1) := o42 ac_cX10_init_48 14 rfl
theorem dX10_init_63 : decode cX10_init 63 = .ok (.invokevirtual 35, 3) := o182 ac_cX10_init_48 15 0 35 rfl
def kb_cX10_init_64 : List Nat := [0, 35, 177]
theorem ac_cX10_init_64 : AL cX10_init 64 kb_cX10_init_64 := AL.of (m := 3) (by decide +kernel)
theorem dX10_init_66 : decode cX10_init 66 = .ok (.return_, 1) := o177 ac_cX10_init_64 2 rfl
set_option maxHeartbeats 4000000 in
set_option maxRecDepth 100000 in
theorem n_9 {l : Launch} {D : va_G} {a : Nat} : KN (S := UU) l D yX10_init cX10_init 1 2 42 12 483 [.ref a] [(a, .inr (9, [.int 0, .null, .null, .null, .int 0, .null, .null, .null, .int 0, .null, .int 0, .int 0]))] [] (fun u => mw [30, 31, 32, 33, 34, 35, 36, 37, 38, 39, 40, 41, 42] u.1 u.2 s0) (fun u => tys [30, 31, 32, 33, 34, 35, 36, 37, 38, 39, 40, 41, 42] u.2) (fun u => u.1 30 = a) := by
  refine KN.of (by decide) (Nat.le_of_ble_eq_true rfl) 0 (fun Γ C hin hG Rt => ?_)
  have hin := hin rfl
  show GW Γ 0 [some (.ref a)] [] [(a, .inr (9, [.int 0, .null, .null, .null, .int 0, .null, .null, .null, .int 0, .null, .int 0, .int 0]))] [] 0 0
  refine g_aload_n C dX10_init_0 (i := 0) rfl rfl ?_
  refine g_objInit C oi_9 oi_w.1 oi_w.2 (by decide) (Nat.le_of_ble_eq_true rfl) dX10_init_1 ?_
  refine g_aload_n C dX10_init_4 (i := 0) rfl rfl ?_
  refine g_bipush C dX10_init_5 (v := 7) rfl ?_
  refine g_newa C (atype := .int) (ty := .int) 7 (7, .inl (fun _ => 0)) aw_int rfl (fun _ => rfl) (by decide) rfl (by decide) (by omega) (by omega) dX10_init_7 (fun q1 c1 => ?_)
  refine g_eq (ws1 := [(a, .inr (9, [.int 0, .null, .null, .null, .int 0, .null, .null, .null, .int 0, .null, .int 0, .int 0])), (q1, .inl (c1, 7, .inl (fun _ => 0)))]) (ts1 := ([] ++ [(c1, .int)])) (kc1 := 1) (ks1 := 7) rfl rfl rfl rfl ?_
  refine g_put C hin (q0 := 0) fw_9_9 rfl rfl rfl (Nat.le_of_ble_eq_true rfl) dX10_init_9 (ws1 := [(a, .inr (9, [.int 0, .ref q1, .null, .null, .int 0, .null, .null, .null, .int 0, .null, .int 0, .int 0])), (q1, .inl (c1, 7, .inl (fun _ => 0)))]) rfl ?_
  refine g_aload_n C dX10_init_12 (i := 0) rfl rfl ?_
  refine g_bipush C dX10_init_13 (v := 7) rfl ?_
  refine g_newa C (atype := .int) (ty := .int) 7 (7, .inl (fun _ => 0)) aw_int rfl (fun _ => rfl) (by decide) rfl (by decide) (by omega) (by omega) dX10_init_15 (fun q2 c2 => ?_)
  refine g_eq (ws1 := [(a, .inr (9, [.int 0, .ref q1, .null, .null, .int 0, .null, .null, .null, .int 0, .null, .int 0, .int 0])), (q1, .inl (c1, 7, .inl (fun _ => 0))), (q2, .inl (c2, 7, .inl (fun _ => 0)))]) (ts1 := (([] ++ [(c1, .int)]) ++ [(c2, .int)])) (kc1 := 2) (ks1 := 14) rfl rfl rfl rfl ?_
  refine g_put C hin (q0 := 0) fw_9_15 rfl rfl rfl (Nat.le_of_ble_eq_true rfl) dX10_init_17 (ws1 := [(a, .inr (9, [.int 0, .ref q1, .ref q2, .null, .int 0, .null, .null, .null, .int 0, .null, .int 0, .int 0])), (q1, .inl (c1, 7, .inl (fun _ => 0))), (q2, .inl (c2, 7, .inl (fun _ => 0)))]) rfl ?_
  refine g_aload_n C dX10_init_20 (i := 0) rfl rfl ?_
  refine g_bipush C dX10_init_21 (v := 7) rfl ?_
  refine g_newa C (atype := .int) (ty := .int) 7 (7, .inl (fun _ => 0)) aw_int rfl (fun _ => rfl) (by decide) rfl (by decide) (by omega) (by omega) dX10_init_23 (fun q3 c3 => ?_)
  refine g_eq (ws1 := [(a, .inr (9, [.int 0, .ref q1, .ref q2, .null, .int 0, .null, .null, .null, .int 0, .null, .int 0, .int 0])), (q1, .inl (c1, 7, .inl (fun _ => 0))), (q2, .inl (c2, 7, .inl (fun _ => 0))), (q3, .inl (c3, 7, .inl (fun _ => 0)))]) (ts1 := ((([] ++ [(c1, .int)]) ++ [(c2, .int)]) ++ [(c3, .int)])) (kc1 := 3) (ks1 := 21) rfl rfl rfl rfl ?_
  refine g_put C hin (q0 := 0) fw_9_18 rfl rfl rfl (Nat.le_of_ble_eq_true rfl) dX10_init_25 (ws1 := [(a, .inr (9, [.int 0, .ref q1, .ref q2, .ref q3, .int 0, .null, .null, .null, .int 0, .null, .int 0, .int 0])), (q1, .inl (c1, 7, .inl (fun _ => 0))), (q2, .inl (c2, 7, .inl (fun _ => 0))), (q3, .inl (c3, 7, .inl (fun _ => 0)))]) rfl ?_
  refine g_aload_n C dX10_init_28 (i := 0) rfl rfl ?_
  refine g_iconst C dX10_init_29 (v := 5) rfl ?_
  refine g_bipush C dX10_init_30 (v := 8) rfl ?_
  refine g_mna C hG (t0 := 0) (c1 := c1) (gw2 49 (by decide +kernel) rfl) aw_int rfl (by omega) (by omega) dX10_init_32 (fun qh rh ch => ?_)
  refine g_eq (ws1 := [(a, .inr (9, [.int 0, .ref q1, .ref q2, .ref q3, .int 0, .null, .null, .null, .int 0, .null, .int 0, .int 0])), (q1, .inl (c1, 7, .inl (fun _ => 0))), (q2, .inl (c2, 7, .inl (fun _ => 0))), (q3, .inl (c3, 7, .inl (fun _ => 0))), (qh, .inl (ch, 5, .inr (.inr (.inr (.inr (fun i => if i < 5 then some (rh i) else none)))))), (rh 0, .inl (c1, 8, .inl (fun _ => 0))), (rh 1, .inl (c1, 8, .inl (fun _ => 0))), (rh 2, .inl (c1, 8, .inl (fun _ => 0))), (rh 3, .inl (c1, 8, .inl (fun _ => 0))), (rh 4, .inl (c1, 8, .inl (fun _ => 0)))]) (ts1 := (((([] ++ [(c1, .int)]) ++ [(c2, .int)]) ++ [(c3, .int)]) ++ [(ch, (.array .int))])) (kc1 := 9) (ks1 := 66) rfl rfl rfl rfl ?_
  refine g_put C hin (q0 := 0) fw_9_23 rfl rfl rfl (Nat.le_of_ble_eq_true rfl) dX10_init_36 (ws1 := [(a, .inr (9, [.int 0, .ref q1, .ref q2, .ref q3, .int 0, .ref qh, .null, .null, .int 0, .null, .int 0, .int 0])), (q1, .inl (c1, 7, .inl (fun _ => 0))), (q2, .inl (c2, 7, .inl (fun _ => 0))), (q3, .inl (c3, 7, .inl (fun _ => 0))), (qh, .inl (ch, 5, .inr (.inr (.inr (.inr (fun i => if i < 5 then some (rh i) else none)))))), (rh 0, .inl (c1, 8, .inl (fun _ => 0))), (rh 1, .inl (c1, 8, .inl (fun _ => 0))), (rh 2, .inl (c1, 8, .inl (fun _ => 0))), (rh 3, .inl (c1, 8, .inl (fun _ => 0))), (rh 4, .inl (c1, 8, .inl (fun _ => 0)))]) rfl ?_
  refine g_aload_n C dX10_init_39 (i := 0) rfl rfl ?_
  refine g_iconst C dX10_init_40 (v := 5) rfl ?_
  refine g_newa C (atype := .int) (ty := .int) 5 (5, .inl (fun _ => 0)) aw_int rfl (fun _ => rfl) (by decide) rfl (by decide) (by omega) (by omega) dX10_init_41 (fun q4 c4 => ?_)
  refine g_eq (ws1 := [(a, .inr (9, [.int 0, .ref q1, .ref q2, .ref q3, .int 0, .ref qh, .null, .null, .int 0, .null, .int 0, .int 0])), (q1, .inl (c1, 7, .inl (fun _ => 0))), (q2, .inl (c2, 7, .inl (fun _ => 0))), (q3, .inl (c3, 7, .inl (fun _ => 0))), (qh, .inl (ch, 5, .inr (.inr (.inr (.inr (fun i => if i < 5 then some (rh i) else none)))))), (rh 0, .inl (c1, 8, .inl (fun _ => 0))), (rh 1, .inl (c1, 8, .inl (fun _ => 0))), (rh 2, .inl (c1, 8, .inl (fun _ => 0))), (rh 3, .inl (c1, 8, .inl (fun _ => 0))), (rh 4, .inl (c1, 8, .inl (fun _ => 0))), (q4, .inl (c4, 5, .inl (fun _ => 0)))]) (ts1 := ((((([] ++ [(c1, .int)]) ++ [(c2, .int)]) ++ [(c3, .int)]) ++ [(ch, (.array .int))]) ++ [(c4, .int)])) (kc1 := 10) (ks1 := 71) rfl rfl rfl rfl ?_
  refine g_put C hin (q0 := 0) fw_9_26 rfl rfl rfl (Nat.le_of_ble_eq_true rfl) dX10_init_43 (ws1 := [(a, .inr (9, [.int 0, .ref q1, .ref q2, .ref q3, .int 0, .ref qh, .ref q4, .null, .int 0, .null, .int 0, .int 0])), (q1, .inl (c1, 7, .inl (fun _ => 0))), (q2, .inl (c2, 7, .inl (fun _ => 0))), (q3, .inl (c3, 7, .inl (fun _ => 0))), (qh, .inl (ch, 5, .inr (.inr (.inr (.inr (fun i => if i < 5 then some (rh i) else none)))))), (rh 0, .inl (c1, 8, .inl (fun _ => 0))), (rh 1, .inl (c1, 8, .inl (fun _ => 0))), (rh 2, .inl (c1, 8, .inl (fun _ => 0))), (rh 3, .inl (c1, 8, .inl (fun _ => 0))), (rh 4, .inl (c1, 8, .inl (fun _ => 0))), (q4, .inl (c4, 5, .inl (fun _ => 0)))]) rfl ?_
  refine g_aload_n C dX10_init_46 (i := 0) rfl rfl ?_
  refine g_sipush C dX10_init_47 (v := 408) rfl ?_
  refine g_newa C (atype := .int) (ty := .int) 408 (408, .inl (fun _ => 0)) aw_int rfl (fun _ => rfl) (by decide) rfl (by decide) (by omega) (by omega) dX10_init_50 (fun q5 c5 => ?_)
  refine g_eq (ws1 := [(a, .inr (9, [.int 0, .ref q1, .ref q2, .ref q3, .int 0, .ref qh, .ref q4, .null, .int 0, .null, .int 0, .int 0])), (q1, .inl (c1, 7, .inl (fun _ => 0))), (q2, .inl (c2, 7, .inl (fun _ => 0))), (q3, .inl (c3, 7, .inl (fun _ => 0))), (qh, .inl (ch, 5, .inr (.inr (.inr (.inr (fun i => if i < 5 then some (rh i) else none)))))), (rh 0, .inl (c1, 8, .inl (fun _ => 0))), (rh 1, .inl (c1, 8, .inl (fun _ => 0))), (rh 2, .inl (c1, 8, .inl (fun _ => 0))), (rh 3, .inl (c1, 8, .inl (fun _ => 0))), (rh 4, .inl (c1, 8, .inl (fun _ => 0))), (q4, .inl (c4, 5, .inl (fun _ => 0))), (q5, .inl (c5, 408, .inl (fun _ => 0)))]) (ts1 := (((((([] ++ [(c1, .int)]) ++ [(c2, .int)]) ++ [(c3, .int)]) ++ [(ch, (.array .int))]) ++ [(c4, .int)]) ++ [(c5, .int)])) (kc1 := 11) (ks1 := 479) rfl rfl rfl rfl ?_
  refine g_put C hin (q0 := 0) fw_9_29 rfl rfl rfl (Nat.le_of_ble_eq_true rfl) dX10_init_52 (ws1 := [(a, .inr (9, [.int 0, .ref q1, .ref q2, .ref q3, .int 0, .ref qh, .ref q4, .ref q5, .int 0, .null, .int 0, .int 0])), (q1, .inl (c1, 7, .inl (fun _ => 0))), (q2, .inl (c2, 7, .inl (fun _ => 0))), (q3, .inl (c3, 7, .inl (fun _ => 0))), (qh, .inl (ch, 5, .inr (.inr (.inr (.inr (fun i => if i < 5 then some (rh i) else none)))))), (rh 0, .inl (c1, 8, .inl (fun _ => 0))), (rh 1, .inl (c1, 8, .inl (fun _ => 0))), (rh 2, .inl (c1, 8, .inl (fun _ => 0))), (rh 3, .inl (c1, 8, .inl (fun _ => 0))), (rh 4, .inl (c1, 8, .inl (fun _ => 0))), (q4, .inl (c4, 5, .inl (fun _ => 0))), (q5, .inl (c5, 408, .inl (fun _ => 0)))]) rfl ?_
  refine g_aload_n C dX10_init_55 (i := 0) rfl rfl ?_
  refine g_iconst C dX10_init_56 (v := 4) rfl ?_
  refine g_newa C (atype := .int) (ty := .int) 4 (4, .inl (fun _ => 0)) aw_int rfl (fun _ => rfl) (by decide) rfl (by decide) (by omega) (by omega) dX10_init_57 (fun q6 c6 => ?_)
  refine g_eq (ws1 := [(a, .inr (9, [.int 0, .ref q1, .ref q2, .ref q3, .int 0, .ref qh, .ref q4, .ref q5, .int 0, .null, .int 0, .int 0])), (q1, .inl (c1, 7, .inl (fun _ => 0))), (q2, .inl (c2, 7, .inl (fun _ => 0))), (q3, .inl (c3, 7, .inl (fun _ => 0))), (qh, .inl (ch, 5, .inr (.inr (.inr (.inr (fun i => if i < 5 then some (rh i) else none)))))), (rh 0, .inl (c1, 8, .inl (fun _ => 0))), (rh 1, .inl (c1, 8, .inl (fun _ => 0))), (rh 2, .inl (c1, 8, .inl (fun _ => 0))), (rh 3, .inl (c1, 8, .inl (fun _ => 0))), (rh 4, .inl (c1, 8, .inl (fun _ => 0))), (q4, .inl (c4, 5, .inl (fun _ => 0))), (q5, .inl (c5, 408, .inl (fun _ => 0))), (q6, .inl (c6, 4, .inl (fun _ => 0)))]) (ts1 := ((((((([] ++ [(c1, .int)]) ++ [(c2, .int)]) ++ [(c3, .int)]) ++ [(ch, (.array .int))]) ++ [(c4, .int)]) ++ [(c5, .int)]) ++ [(c6, .int)])) (kc1 := 12) (ks1 := 483) rfl rfl rfl rfl ?_
  refine g_put C hin (q0 := 0) fw_9_32 rfl rfl rfl (Nat.le_of_ble_eq_true rfl) dX10_init_59 (ws1 := [(a, .inr (9, [.int 0, .ref q1, .ref q2, .ref q3, .int 0, .ref qh, .ref q4, .ref q5, .int 0, .ref q6, .int 0, .int 0])), (q1, .inl (c1, 7, .inl (fun _ => 0))), (q2, .inl (c2, 7, .inl (fun _ => 0))), (q3, .inl (c3, 7, .inl (fun _ => 0))), (qh, .inl (ch, 5, .inr (.inr (.inr (.inr (fun i => if i < 5 then some (rh i) else none)))))), (rh 0, .inl (c1, 8, .inl (fun _ => 0))), (rh 1, .inl (c1, 8, .inl (fun _ => 0))), (rh 2, .inl (c1, 8, .inl (fun _ => 0))), (rh 3, .inl (c1, 8, .inl (fun _ => 0))), (rh 4, .inl (c1, 8, .inl (fun _ => 0))), (q4, .inl (c4, 5, .inl (fun _ => 0))), (q5, .inl (c5, 408, .inl (fun _ => 0))), (q6, .inl (c6, 4, .inl (fun _ => 0)))]) rfl ?_
  have eh : (fun i => if i < 5 then some (rh i) else none) = rfK (fun i => if i = 30 then a else if i = 31 then q1 else if i = 32 then q2 else if i = 33 then q3 else if i = 34 then qh else if i = 35 then rh 0 else if i = 36 then rh 1 else if i = 37 then rh 2 else if i = 38 then rh 3 else if i = 39 then rh 4 else if i = 40 then q4 else if i = 41 then q5 else if i = 42 then q6 else 0) 26 34 := by
    funext i
    show _ = if i < 5 then some ((fun i => if i = 30 then a else if i = 31 then q1 else if i = 32 then q2 else if i = 33 then q3 else if i = 34 then qh else if i = 35 then rh 0 else if i = 36 then rh 1 else if i = 37 then rh 2 else if i = 38 then rh 3 else if i = 39 then rh 4 else if i = 40 then q4 else if i = 41 then q5 else if i = 42 then q6 else 0) (34 + 1 + i)) else none
    by_cases h : i < 5
    · rw [if_pos h, if_pos h]
      rcases (show i = 0 ∨ i = 1 ∨ i = 2 ∨ i = 3 ∨ i = 4 by omega) with rfl | rfl | rfl | rfl | rfl <;> rfl
    · rw [if_neg h, if_neg h]
  rw [eh]
  refine g_aw (ids := [30, 31, 32, 33, 34, 35, 36, 37, 38, 39, 40, 41, 42]) (ad := (fun i => if i = 30 then a else if i = 31 then q1 else if i = 32 then q2 else if i = 33 then q3 else if i = 34 then qh else if i = 35 then rh 0 else if i = 36 then rh 1 else if i = 37 then rh 2 else if i = 38 then rh 3 else if i = 39 then rh 4 else if i = 40 then q4 else if i = 41 then q5 else if i = 42 then q6 else 0)) (ca := (fun i => if i = 31 then c1 else if i = 32 then c2 else if i = 33 then c3 else if i = 34 then ch else if i = 35 then c1 else if i = 36 then c1 else if i = 37 then c1 else if i = 38 then c1 else if i = 39 then c1 else if i = 40 then c4 else if i = 41 then c5 else if i = 42 then c6 else c1)) (σ := (fun _ _ => 0, fun _ _ => 0, fun _ => 0)) C (by omega) (by omega) rfl (fun q hq => by
    have hq : q ∈ ([(c1, .int), (c2, .int), (c3, .int), (ch, .array .int), (c1, .int), (c1, .int), (c1, .int), (c1, .int), (c1, .int), (c4, .int), (c5, .int), (c6, .int)] : List (ClassId × FieldType)) := hq
    simp only [List.mem_cons, List.not_mem_nil, or_false] at hq
    rcases hq with rfl | rfl | rfl | rfl | rfl | rfl | rfl | rfl | rfl | rfl | rfl | rfl <;> simp) (fun C => ?_)
  have Rt := rv_of_rn C Rt (by decide) (by decide) rfl
  have hid : ∀ i, i ∈ ([30, 31, 32, 33, 34, 35, 36, 37, 38, 39, 40, 41, 42] : List Nat) → i ∈ ([30, 31, 32, 33, 34, 35, 36, 37, 38, 39, 40, 41, 42] : List Nat) := fun _ h => h
  show AW [30, 31, 32, 33, 34, 35, 36, 37, 38, 39, 40, 41, 42] (fun i => if i = 30 then a else if i = 31 then q1 else if i = 32 then q2 else if i = 33 then q3 else if i = 34 then qh else if i = 35 then rh 0 else if i = 36 then rh 1 else if i = 37 then rh 2 else if i = 38 then rh 3 else if i = 39 then rh 4 else if i = 40 then q4 else if i = 41 then q5 else if i = 42 then q6 else 0) (fun i => if i = 31 then c1 else if i = 32 then c2 else if i = 33 then c3 else if i = 34 then ch else if i = 35 then c1 else if i = 36 then c1 else if i = 37 then c1 else if i = 38 then c1 else if i = 39 then c1 else if i = 40 then c4 else if i = 41 then c5 else if i = 42 then c6 else c1) _ 62 [some (.ref ((fun i => if i = 30 then a else if i = 31 then q1 else if i = 32 then q2 else if i = 33 then q3 else if i = 34 then qh else if i = 35 then rh 0 else if i = 36 then rh 1 else if i = 37 then rh 2 else if i = 38 then rh 3 else if i = 39 then rh 4 else if i = 40 then q4 else if i = 41 then q5 else if i = 42 then q6 else 0) 30))] [] _
  refine a_aload_n C dX10_init_62 (i := 0) rfl rfl ?_
  refine a_callVv C (i := 30) kd_30 (hid 30 (by decide)) ⟨_, _, rfl⟩ (by decide) (k_clearT hid) mi_X10_clear ml_RX10_35 rfl rfl (Nat.le_of_ble_eq_true rfl) (Nat.le_of_ble_eq_true rfl) (Nat.le_of_ble_eq_true rfl) dX10_init_63 (fun σ2 q3 => ?_)
  subst q3
  exact a_vret Rt dX10_init_66 (by refine ⟨?_, fun h => absurd h (by decide)⟩; decide +kernel)


/-! contracts of constructors: what is made, and where it stands -/
theorem va_AOA.spec {s : State} (h : va_AOA .int s) : ∃ comp c k, s.vm.findClass (FieldType.array .int).toString = some comp ∧ (s.vm.classes.findIdx? fun (x : Class) => match x.kind with | .array component _ => component == comp | _ => false) = some c ∧ s.vm.classes[c]? = some k ∧ k.kind = .array comp (.array .int) ∧ s.vm.findClass ("[" ++ (FieldType.array .int).toString) = some c := by
  unfold va_AOA Cond.before at h
  simp only [Cond.holds, Cond.value, beq_iff_eq] at h
  cases hc : s.vm.findClass (FieldType.array .int).toString with
  | none => simp [hc] at h
  | some comp =>
    simp only [hc, Option.bind_some, Option.bind_eq_some_iff, Option.map_eq_some_iff] at h
    obtain ⟨c, hi, k, hk, hb⟩ := h
    obtain ⟨hlt, hp, -⟩ := Array.findIdx?_eq_some_iff_getElem.mp hi
    have hkk : s.vm.classes[c] = k := (Array.getElem?_eq_some_iff.mp hk).2
    rw [hkk] at hp
    cases hkind : k.kind with
    | array component ty =>
      rw [hkind] at hb hp
      simp at hb hp
      exact ⟨comp, c, k, rfl, hi, hk, by rw [hkind, hp, hb.1], hb.2⟩
    | _ => rw [hkind] at hb; simp at hb
theorem va_AOA.moved {u U : State} (hvm : u.vm.Alike U.vm) (h : va_AOA .int u) : va_AOA .int U := by
  obtain ⟨comp, c, k, h1, h2, h3, h4, h5⟩ := va_AOA.spec h
  obtain ⟨k', hk', he⟩ := hvm.2.2 _ _ h3
  have hi : (U.vm.classes.findIdx? fun (x : Class) => match x.kind with | .array component _ => component == comp | _ => false) = some c := by
    have e1 := va_idx_bare U.vm comp
    have e2 := va_idx_bare u.vm comp
    have e3 : U.vm.bare = u.vm.bare := by first | exact hvm.bare_eq | exact hvm.bare_eq.symm
    rw [e3] at e1
    exact e1.symm.trans (e2.trans h2)
  have hkind : k'.kind = .array comp (.array .int) := by rw [he]; exact h4
  have f1 : U.vm.findClass (FieldType.array .int).toString = some comp := by rw [hvm.findClass]; exact h1
  have f2 : U.vm.findClass ("[" ++ (FieldType.array .int).toString) = some c := by rw [hvm.findClass]; exact h5
  unfold va_AOA Cond.before Cond.holds
  simp only [Cond.value]
  rw [f1, Option.bind_some]
  refine (congrArg (fun o : Option Nat => (o.bind (fun c => (U.vm.classes[c]?).map fun (k : Class) => match k.kind with | .array _ ty => decide (ty = FieldType.array .int) && decide (U.vm.findClass ("[" ++ (FieldType.array .int).toString) = some c) | _ => false) == some true)) hi).trans ?_
  simp [hk', hkind, f2]
/-- the rest of what a constructor needs of the machine -/
def EG (U : State) : Prop := EN U ∧ va_AO RX0 U ∧ va_AOA .int U
theorem EG.warm {s U : State} (hW : s.WarmedH U.vm) (h : EG s) : EG U := ⟨h.1.warm hW, va_AO.moved hW.alike h.2.1, va_AOA.moved hW.alike h.2.2⟩
theorem EG.same {s U : State} (hv : s.vm = U.vm) (h : EG s) : EG U := ⟨h.1.same hv, va_AO.moved (hv ▸ Vm.Alike.refl s.vm) h.2.1, va_AOA.moved (hv ▸ Vm.Alike.refl s.vm) h.2.2⟩
def GE (Γ : GQ) : Prop := match Γ with
  | (p, l, e, R, s, m, args, below, meth, c, Q, D, A, H0, nL) => EG s
def NPre (D : va_G) (ws : va_W) (ts : List (ClassId × FieldType)) (sz : Nat) (V : State) : Prop := V.heap.size = sz ∧ va_P D vwCl ws V.heap ∧ va_K D vwCl ts V ∧ va_D (fun _ => True) ws ∧ EG V
def NAt {S : Type} (D : va_G) (W1 : S → va_W) (T1 : S → List (ClassId × FieldType)) (A : Nat → Prop) (u : S) (t : State) : Prop := va_P D vwCl (W1 u) t.heap ∧ va_K D vwCl (T1 u) t ∧ va_D A (W1 u)
/-- y, called with av in the world ws, makes mc cells of ms places, and leaves a world W1 u -/
def KN {S : Type} (l : Launch) (D : va_G) (y : MethodName) (cc : ByteArray) (nL : Nat) (fr lo mc ms : Nat) (av : List Value) (ws : va_W) (ts : List (ClassId × FieldType)) (W1 : S → va_W) (T1 : S → List (ClassId × FieldType)) (post : S → Prop) : Prop :=
  ∀ sz : Nat, Met l y (.code y cc nL none :: gw_tbl) { frames := fr, cells := mc, slots := ms, locals := lo } (va_Pc av (NPre D ws ts sz)) (va_Qv post (NAt D W1 T1 (va_A ws sz)) (va_A ws sz)) mc ms (va_A ws sz)
def RN {S : Type} (Γ : GQ) (cc : ByteArray) (mc ms : Nat) (W1 : S → va_W) (T1 : S → List (ClassId × FieldType)) (post : S → Prop) : Prop := match Γ with
  | (p, l, e, R, s, m, args, below, meth, c, Q, D, A, H0, nL) => ∀ (u : S) (H : Heap) (locs : List Loc) (ls : Array Slot) (pc : Nat), va_K D vwCl (T1 u) s → va_P D vwCl (W1 u) H → va_D A (W1 u) → va_S A H0 H locs → post u → decode cc pc = .ok (.return_, 1) → W p l e R s m args below meth c H locs mc ms Q (F0 m pc ls [])
theorem KN.of {S : Type} {l : Launch} {D : va_G} {y : MethodName} {cc : ByteArray} {nL fr lo mc ms : Nat} {av : List Value} {ws : va_W} {ts : List (ClassId × FieldType)} {W1 : S → va_W} {T1 : S → List (ClassId × FieldType)} {post : S → Prop} (hy : plainName y.cls = true) (hL : (lg_sl av).length ≤ nL) (z : Nat)
    (body : ∀ Γ : GQ, CG Γ cc y.cls l D fr lo mc ms nL → (y.name = "<init>" → GIn Γ) → GE Γ → RN Γ cc mc ms W1 T1 post → GW Γ 0 (entL av ++ List.replicate z none) [] ws ts 0 0) : KN l D y cc nL fr lo mc ms av ws ts W1 T1 post := by
  intro sz
  refine Met.ofW (cc := cc) (maxL := nL) (ret := none) hy rfl ?_
  intro p e s m args below meth c s₁ B hml hv
  obtain ⟨rfl, hsz, hP, hK, hD0, hE⟩ := hv
  have hts := atoms_spec (ws := (.code y cc nL none :: gw_tbl)) B.pre
  subst hsz
  have hD := hD0.self (sz := s.heap.size)
  rw [lg_entry_eq]
  refine body (p, l, e, { frames := fr, cells := mc, slots := ms, locals := lo }, s, m, av.toArray, below, meth, c, _, D, va_A ws s.heap.size, s.heap, nL) ⟨⟨B.exec, B.bytes, hml, findClass_of_methodNamed B.named, fun w h => hts w (List.mem_cons_of_mem _ h)⟩, hE.1, fun q h => Or.inr h, rfl, rfl, Nat.le_refl _, Nat.le_refl _, Nat.le_refl _, Nat.le_refl _, rfl⟩ (fun hn => (name_of_methodNamed B.named B.method).1.trans hn) hE ?_ s.heap [] _ hK hP hD va_S.rf (LV.entry av hL z)
  intro u H locs ls pc hK' hP' hD' hS hp hd
  exact W.vret B.exec B.bytes B.returns (fun t ht hW => ⟨⟨u, rfl, hp, by rw [ht]; exact hP', va_K.moved hW.alike hK', hD'⟩, hS.F ht⟩) hS.2.2 hd B.notSynchronized
theorem join_app {A0 : Nat → Prop} {D : va_G} {cl : List vw_C} {X wc w1 : va_W} {H H1 : Heap} (hP : va_P D cl (X ++ wc) H) (hD : va_D A0 (X ++ wc)) (hk : ∀ q : Nat, q < H.size → ¬ va_A wc H.size q → H1[q]? = H[q]?) (hF : ∀ q, va_A wc H.size q → A0 q) (hP1 : va_P D cl w1 H1) (hD1 : va_D (va_A wc H.size) w1) : va_P D cl (X ++ w1) H1 ∧ va_D A0 (X ++ w1) := by
  have hl : ∀ (k : Nat) (q : Nat × va_E), X[k]? = some q → (X ++ wc)[k]? = some q := fun k q h => by
    rw [List.getElem?_append_left (List.getElem?_eq_some_iff.mp h).1]
    exact h
  have apart : ∀ (k : Nat) (q : Nat × va_E), X[k]? = some q → q.1 < H.size ∧ ¬ va_A wc H.size q.1 := by
    intro k q hq
    have hlt := (hP k q (hl k q hq)).lt
    refine ⟨hlt, fun h => ?_⟩
    rcases h with ⟨j, e, hj⟩ | h
    · have h2 : (X ++ wc)[X.length + j]? = some (q.1, e) := by
        rw [List.getElem?_append_right (by omega), show X.length + j - X.length = j by omega]
        exact hj
      have := hD.1 k (X.length + j) q (q.1, e) (hl k q hq) h2 rfl
      have := (List.getElem?_eq_some_iff.mp hq).1
      omega
    · omega
  have hPX : va_P D cl X H := fun k q h => hP k q (hl k q h)
  refine ⟨(hPX.kept (fun k x hx => hk x.1 (apart k x hx).1 (apart k x hx).2)).app hP1, va_D.app ⟨fun i j p q hp hq e => hD.1 i j p q (hl i p hp) (hl j q hq) e, fun k q h => hD.2 k q (hl k q h)⟩ (hD1.weaken (fun _ q _ h => hF q.1 h)) ?_⟩
  intro i j p q hp hq e
  have := apart i p hp
  rw [e] at this
  exact this.2 (hD1.2 j q hq)
theorem NPre.blind {D : va_G} {av : List Value} {ws : va_W} {ts : List (ClassId × FieldType)} {sz : Nat} : FrameBlind (va_Pc av (NPre D ws ts sz)) := fun a U g mk q => by
  obtain ⟨q0, q1, qP, qK, qD, qE⟩ := q
  exact ⟨q0, q1, qP, va_K.moved (u := U) (U := U.calling g mk a) (Vm.Alike.refl U.vm) qK, qD, EG.same (s := U) (U := U.calling g mk a) rfl qE⟩
section KNR
variable {Γ : GQ} {cc : ByteArray} {own : String} {l0 : Launch} {D0 : va_G} {fr lo mc ms nL0 : Nat} {pc : Nat} {vs : List (Option Value)} {st : List Value} {ws : va_W} {ts : List (ClassId × FieldType)} {kc ks : Nat}
theorem g_vret {S : Type} {W1 : S → va_W} {T1 : S → List (ClassId × FieldType)} {post : S → Prop} (Rt : RN Γ cc mc ms W1 T1 post) (u : S) (hd : decode cc pc = .ok (.return_, 1)) (h1 : kc ≤ mc) (h2 : ks ≤ ms) (hw : ws = W1 u) (ht : ts = T1 u) (hp : post u) : GW Γ pc vs [] ws ts kc ks := by
  obtain ⟨p, l, e, R, s, m, args, below, meth, c, Q, D, A, H0, nL⟩ := Γ
  intro H locs ls hK hP hD hS hl
  subst hw ht
  exact W.widen h1 h2 (Rt u H locs ls pc hK hP hD hS hp hd)
theorem g_eq {ws1 : va_W} {ts1 : List (ClassId × FieldType)} {kc1 ks1 : Nat} (hw : ws = ws1) (ht : ts = ts1) (hk : kc = kc1) (hs : ks = ks1) (k : GW Γ pc vs st ws1 ts1 kc1 ks1) : GW Γ pc vs st ws ts kc ks := by
  subst hw ht hk hs
  exact k
/-- fewer cells, another order: what is told of the world may be told again otherwise -/
theorem g_by {ws1 : va_W} {ts1 : List (ClassId × FieldType)} (hP1 : ∀ (D : va_G) (H : Heap), va_P D vwCl ws H → va_P D vwCl ws1 H) (hD1 : ∀ A : Nat → Prop, va_D A ws → va_D A ws1) (hK1 : ∀ (D : va_G) (s : State), va_K D vwCl ts s → va_K D vwCl ts1 s) (k : GW Γ pc vs st ws1 ts1 kc ks) : GW Γ pc vs st ws ts kc ks := by
  obtain ⟨p, l, e, R, s, m, args, below, meth, c, Q, D, A, H0, nL⟩ := Γ
  intro H locs ls hK hP hD hS hl
  exact k H locs ls (hK1 _ _ hK) (hP1 _ _ hP) (hD1 _ hD) hS hl
/-- the words of a constructor -/
def MN (y : MethodName) (cc : ByteArray) (nL : Nat) (n : Nat) : Prop := Cond.instanceMethod y ∈ gw_tbl ∧ Cond.initialized y.cls ∈ gw_tbl ∧ Cond.code y cc nL none ∈ gw_tbl ∧ y.name = "<init>" ∧ (y.cls ≠ "java/lang/invoke/MethodHandle" ∧ y.cls ≠ "java/lang/invoke/VarHandle" ∧ (parseMethodDescriptor y.desc).map (fun d => d.parameters.length) = some n)
theorem fr_app {A : Nat → Prop} {X wc : va_W} {H0 H : Heap} {locs : List Loc} (hD : va_D A (X ++ wc)) (hS : va_S A H0 H locs) (hA : ∀ q, H0.size ≤ q → A q) : ∀ q, va_A wc H.size q → A q := fun q h => by
  rcases h with ⟨k, e, h⟩ | h
  · refine hD.2 (X.length + k) (q, e) ?_
    rw [List.getElem?_append_right (by omega), show X.length + k - X.length = k by omega]
    exact h
  · exact hA q (Nat.le_trans hS.1 h)
theorem va_K.nil {D : va_G} {t1 : List (ClassId × FieldType)} {U : State} (h : va_K D vwCl t1 U) : va_K D vwCl [] U := ⟨h.1, fun k q hk => by simp at hk⟩
theorem g_initN (C : CG Γ cc own l0 D0 fr lo mc ms nL0) (hG : GE Γ) {S : Type} {y : MethodName} {cc' : ByteArray} {nL' fr' lo' mc' ms' ix a : Nat} {host : String} {e0 : va_E} {X : va_W} {W1 : S → va_W} {T1 : S → List (ClassId × FieldType)} {post : S → Prop} (hM : KN l0 D0 y cc' nL' fr' lo' mc' ms' [.ref a] [(a, e0)] [] W1 T1 post) (hw : MN y cc' nL' 0) (hnl : (own, ix, y, host) ∈ nestL) (hws : ws = X ++ [(a, e0)]) (hf1 : fr' + 1 ≤ fr) (hl1 : 8 + (nL' + 11) + lo' ≤ lo) (h1 : kc + mc' ≤ mc) (h2 : ks + ms' ≤ ms) (hcat : (st.map fun v => v.category).sum ≤ 8) (hd : decode cc pc = .ok (.invokespecial ix, 3)) (k : ∀ u : S, post u → GW Γ (pc + 3) vs st (X ++ W1 u) (ts ++ T1 u) (kc + mc') (ks + ms')) : GW Γ pc vs (.ref a :: st) ws ts kc ks := by
  obtain ⟨p, l, e, R, s, m, args, below, meth, c, Q, D, A, H0, nL⟩ := Γ
  obtain ⟨⟨hx, hb, hml, hown, hts⟩, hE, hA0, rfl, rfl, hfr, hlo, hmc, hms, rfl⟩ := C
  intro H locs ls hK hP hD hS hl
  have hG : EG s := hG
  obtain ⟨w1, w3, w4, w5, w6⟩ := hw
  subst hws
  have hFc := fr_app hD hS hA0
  have hPc : va_P D vwCl [(a, e0)] H := fun k q h => hP (X.length + k) q (by rw [List.getElem?_append_right (by omega), show X.length + k - X.length = k by omega]; exact h)
  have hDc : va_D A [(a, e0)] := ⟨fun i j p q hp hq _ => by
    have h3 := (List.getElem?_eq_some_iff.mp hp).1
    have h4 := (List.getElem?_eq_some_iff.mp hq).1
    simp at h3 h4
    omega, fun k q h => hD.2 (X.length + k) q (by rw [List.getElem?_append_right (by omega), show X.length + k - X.length = k by omega]; exact h)⟩
  refine va_callv (va_runIN (As := []) (rest := st) ⟨hx, hb, hml, hown, hts⟩ (hM H.size) ⟨va_cnB 0 hts (lw_goodIn (fun w h => (List.mem_cons.mp h).elim (fun e => e ▸ w4) id)) rfl rfl rfl (hE _ hnl) (hts _ w3) w6 ⟨Nat.le_trans hf1 hfr, Nat.le_trans hl1 hlo⟩, w5, hts _ w1⟩ ⟨NPre.blind, fun U hU hW => ⟨rfl, by rw [hU], by rw [hU]; exact hPc, va_K.moved hW.alike hK.nil, hDc.weaken (fun _ _ _ _ => trivial), EG.warm hW hG⟩⟩ rfl rfl hl.1 rfl (lv_room hcat) hd ⟨Nat.le_trans h1 hmc, Nat.le_trans h2 hms⟩) hS (fun q _ h => hFc q h) hFc (fun u t H1 locs1 ht hvm hw hB hz1 hk1 hS1 => ?_)
  obtain ⟨hP1, hK1, hD1⟩ := hB
  rw [ht] at hP1
  have hK1 := va_K.moved hvm.symm hK1
  obtain ⟨hP2, hD2⟩ := join_app hP hD hk1 hFc hP1 hD1
  exact k u hw H1 locs1 ls (hK.app hK1) hP2 hD2 hS1 hl
theorem g_initI (C : CG Γ cc own l0 D0 fr lo mc ms nL0) (hG : GE Γ) {S : Type} {y : MethodName} {cc' : ByteArray} {nL' fr' lo' mc' ms' ix a : Nat} {host : String} {e0 : va_E} {X : va_W} {W1 : S → va_W} {T1 : S → List (ClassId × FieldType)} {post : S → Prop} (hM : KN l0 D0 y cc' nL' fr' lo' mc' ms' [.ref a] [(a, e0)] [] W1 T1 post) (hw : MN y cc' nL' 0) (hml2 : Cond.methodLink own ix y ∈ gw_tbl) (hws : ws = X ++ [(a, e0)]) (hf1 : fr' + 1 ≤ fr) (hl1 : 8 + (nL' + 11) + lo' ≤ lo) (h1 : kc + mc' ≤ mc) (h2 : ks + ms' ≤ ms) (hcat : (st.map fun v => v.category).sum ≤ 8) (hd : decode cc pc = .ok (.invokespecial ix, 3)) (k : ∀ u : S, post u → GW Γ (pc + 3) vs st (X ++ W1 u) (ts ++ T1 u) (kc + mc') (ks + ms')) : GW Γ pc vs (.ref a :: st) ws ts kc ks := by
  obtain ⟨p, l, e, R, s, m, args, below, meth, c, Q, D, A, H0, nL⟩ := Γ
  obtain ⟨⟨hx, hb, hml, hown, hts⟩, hE, hA0, rfl, rfl, hfr, hlo, hmc, hms, rfl⟩ := C
  intro H locs ls hK hP hD hS hl
  have hG : EG s := hG
  obtain ⟨w1, w3, w4, w5, w6⟩ := hw
  subst hws
  have hFc := fr_app hD hS hA0
  have hPc : va_P D vwCl [(a, e0)] H := fun k q h => hP (X.length + k) q (by rw [List.getElem?_append_right (by omega), show X.length + k - X.length = k by omega]; exact h)
  have hDc : va_D A [(a, e0)] := ⟨fun i j p q hp hq _ => by
    have h3 := (List.getElem?_eq_some_iff.mp hp).1
    have h4 := (List.getElem?_eq_some_iff.mp hq).1
    simp at h3 h4
    omega, fun k q h => hD.2 (X.length + k) q (by rw [List.getElem?_append_right (by omega), show X.length + k - X.length = k by omega]; exact h)⟩
  refine va_callv (va_runI (As := []) (rest := st) ⟨hx, hb, hml, hown, hts⟩ (hM H.size) (cwI 0 hts (lw_goodIn (fun w h => (List.mem_cons.mp h).elim (fun e => e ▸ w4) id)) rfl rfl rfl (hts _ w3) (hts _ hml2) (hts _ w1) w5 w6 ⟨Nat.le_trans hf1 hfr, Nat.le_trans hl1 hlo⟩) ⟨NPre.blind, fun U hU hW => ⟨rfl, by rw [hU], by rw [hU]; exact hPc, va_K.moved hW.alike hK.nil, hDc.weaken (fun _ _ _ _ => trivial), EG.warm hW hG⟩⟩ rfl rfl hl.1 rfl (lv_room hcat) hd ⟨Nat.le_trans h1 hmc, Nat.le_trans h2 hms⟩) hS (fun q _ h => hFc q h) hFc (fun u t H1 locs1 ht hvm hw hB hz1 hk1 hS1 => ?_)
  obtain ⟨hP1, hK1, hD1⟩ := hB
  rw [ht] at hP1
  have hK1 := va_K.moved hvm.symm hK1
  obtain ⟨hP2, hD2⟩ := join_app hP hD hk1 hFc hP1 hD1
  exact k u hw H1 locs1 ls (hK.app hK1) hP2 hD2 hS1 hl
end KNR
/-! ===== BEGIN new T[n][m]: the outer array a place, the inner ones among the pooled ===== -/
/-- f, but v at every address of l -/
def vr_up {α : Type} (f : Nat → α) (l : List Nat) (v : α) : Nat → α := fun a => if a ∈ l then v else f a
theorem vr_up_in {α : Type} {f : Nat → α} {l : List Nat} {v : α} {a : Nat} (h : a ∈ l) : vr_up f l v a = v := if_pos h
theorem vr_up_ne {α : Type} {f : Nat → α} {l : List Nat} {v : α} {a : Nat} (h : a ∉ l) : vr_up f l v a = f a := if_neg h
theorem vr_rows {L l : List Nat} {f : Nat → va_E} {e : va_E} (h : ∀ a, a ∈ l → a ∉ L) : va_pl L f ++ l.map (fun a => (a, e)) = va_pl (L ++ l) (vr_up f l e) := by
  unfold va_pl
  rw [List.map_append]
  congr 1
  · apply List.map_congr_left
    intro a ha
    rw [vr_up_ne (fun q => h a q ha)]
  · apply List.map_congr_left
    intro a ha
    rw [vr_up_in ha]
theorem vr_lay {X rows : va_W} {x : Nat × va_E} {pl : va_W} {D : va_G} {cl : List vw_C} {H : Heap} (hP : va_P D cl (((X ++ pl) ++ [x]) ++ rows) H) : va_P D cl ((X ++ [x]) ++ (pl ++ rows)) H := by
  rw [List.append_assoc (X ++ pl)] at hP
  have h := va_P.swap hP
  rw [← List.append_assoc X] at h
  have h2 := va_P.swap h
  rw [List.append_assoc (X ++ [x])] at h2
  exact h2
theorem vr_layD {X rows : va_W} {x : Nat × va_E} {pl : va_W} {A : Nat → Prop} (hD : va_D A (((X ++ pl) ++ [x]) ++ rows)) : va_D A ((X ++ [x]) ++ (pl ++ rows)) := by
  rw [List.append_assoc (X ++ pl)] at hD
  have h := va_D.swap hD
  rw [← List.append_assoc X] at h
  have h2 := va_D.swap h
  rw [List.append_assoc (X ++ [x])] at h2
  exact h2
theorem vr_outer (c : ClassId) (N h0 : Nat) : ∀ i : Nat, Jvm.Free.Multi.outerC c N h0 i = arrV c N (fun j => va_rf (if j < i then some (h0 + 1 + j) else none))
  | 0 => by
    show ({ cls := c, slots := Array.replicate N .null, vm := .none } : Cell) = _
    rw [arrV_new]
    refine congrArg (arrV c N) (funext fun j => ?_)
    simp [va_rf]
  | i + 1 => by
    show (Jvm.Free.Multi.outerC c N h0 i).setSlot i (.ref (h0 + 1 + i)) = _
    rw [vr_outer c N h0 i, arrV_store]
    refine congrArg (arrV c N) (funext fun j => ?_)
    by_cases e : j = i
    · subst e
      simp [updV, va_rf]
    · by_cases h : j < i
      · simp [updV, e, h, Nat.lt_succ_of_lt h]
      · simp [updV, e, h, show ¬ j < i + 1 by omega]
section VGM
variable {p : Program} {l : Launch} {e : Env} {R : Room} {s : State} {m : MethodId} {args : Array Value} {below : List Frame} {meth : Method} {c : Code} {H : Heap} {locs : List Loc} {cells slots : Nat} {Q : State → Prop}
variable {cc : ByteArray} {pc : Nat} {ls : Array Slot} {rest : List Value} {D : va_G} {cl : List vw_C} {A : Nat → Prop} {a : Nat} {tys : List (ClassId × FieldType)} {ws : va_W} {H0 : Heap}
theorem va_mna {X : va_W} {L : List Nat} {f : Nat → va_E} {cc : ByteArray} (hexec : p.tables.exec = Jvm.exec) (hb : c.code = cc) {own : String} {index : Nat} {ty : FieldType} {cy : ClassId} (hown : s.vm.findClass own = some m.cls) (hclink : (Cond.classLink own index ("[" ++ (FieldType.array ty).toString)).before args s = true) (hover : va_AOA ty s) (harr : (Cond.arrayClass ty).before args s = true) (hcy : s.vm.findClass (FieldType.array ty).toString = some cy)
    (hK : va_K D cl tys s) (hP : va_P D cl (X ++ va_pl L f) H) (hD : va_D A (X ++ va_pl L f)) (hS : va_S A H0 H locs) (hA : ∀ q, H0.size ≤ q → A q) {n k : Int32} {N' K' : Nat} {z : vp_A} (hn : ¬ n < 0) (hk : ¬ k < 0) (hN : n.toNatClampNeg = N') (hM : k.toNatClampNeg = K')
    (hb1 : N' * 4 ≤ 536870912) (hb2 : K' * componentBytes ty ≤ 536870912) (hb3 : K' ≤ 536870912) (hdf : fits ty (defaultValue ty) = true) (hdd : (defaultValue ty).isDefault = true) (hcells : cells + (1 + N') ≤ R.cells) (hslots : slots + (N' + N' * K') ≤ R.slots) (hz : ∀ c : ClassId, Jvm.Free.Multi.innerC c K' (defaultValue ty) = vp_cell c z) (hdg : decode cc pc = .ok (.multianewarray index 2, 4))
    (kk : ∀ (q : Nat) (r : Nat → Nat) (cA : ClassId) (H1 : Heap), (∀ i j : Nat, i < N' → j < N' → r i = r j → i = j) → (∀ i : Nat, i < N' → r i ∉ L) → va_K D cl (tys ++ [(cA, .array ty)]) s →
      va_P D cl ((X ++ [(q, .inl (cA, N', .inr (.inr (.inr (.inr (fun i => if i < N' then some (r i) else none))))))]) ++ va_pl (L ++ (List.range N').map r) (vr_up f ((List.range N').map r) (.inl (cy, z)))) H1 → va_D A ((X ++ [(q, .inl (cA, N', .inr (.inr (.inr (.inr (fun i => if i < N' then some (r i) else none))))))]) ++ va_pl (L ++ (List.range N').map r) (vr_up f ((List.range N').map r) (.inl (cy, z)))) → va_S A H0 H1 locs →
      W p l e R s m args below meth c H1 locs (cells + 1 + N') (slots + N' + N' * K') Q (F0 m (pc + 4) ls (.ref q :: rest))) : W p l e R s m args below meth c H locs cells slots Q (F0 m pc ls (.int k :: .int n :: rest)) := by
  subst hN
  subst hM
  intro T hT Xs
  obtain ⟨vm₁, cA, comp, -, fA, fC, hO, -, X', step⟩ := Xs.multianewarray2F hexec hown hclink (va_AOA.use hover) harr (g := F0 m pc ls (.int k :: .int n :: rest)) rfl (by rw [hb]; exact hdg) rfl hn hk hb1 hb2 hb3 hdf hdd hcells hslots
  have ec : some cy = some comp := hcy.symm.trans fC
  cases ec
  generalize hF : Jvm.Free.Multi.fill (T.setVm vm₁) cA cy n.toNatClampNeg k.toNatClampNeg (defaultValue ty) n.toNatClampNeg = F at X' step
  have hTh : (T.setVm vm₁).heap = H := hT
  obtain ⟨f1, f2, -, -⟩ := Jvm.Free.Multi.fill_facts (T.setVm vm₁) cA cy n.toNatClampNeg k.toNatClampNeg (defaultValue ty) n.toNatClampNeg
  rw [hF, hTh] at f1 f2
  have hold : ∀ x : Nat, x < H.size → F.heap[x]? = H[x]? := fun x hx => by
    have := Jvm.Free.Multi.fill_old (T.setVm vm₁) cA cy n.toNatClampNeg k.toNatClampNeg (defaultValue ty) (a := x) (by rw [hTh]; exact hx) n.toNatClampNeg
    rw [hF, hTh] at this
    exact this
  have hrow : ∀ j : Nat, j < n.toNatClampNeg → F.heap[H.size + 1 + j]? = some (vp_cell cy z) := fun j hj => by
    have := Jvm.Free.Multi.fill_inner (T.setVm vm₁) cA cy n.toNatClampNeg k.toNatClampNeg (defaultValue ty) n.toNatClampNeg j hj
    rw [hF, hTh, hz] at this
    exact this
  have hout : Jvm.Free.Multi.outerC cA n.toNatClampNeg H.size n.toNatClampNeg = vp_cell cA (n.toNatClampNeg, .inr (.inr (.inr (.inr (fun i => if i < n.toNatClampNeg then some (H.size + 1 + i) else none))))) := by
    rw [vp_cell_q]
    exact vr_outer cA n.toNatClampNeg H.size n.toNatClampNeg
  rw [hout] at f2
  have hlt : ∀ a, a ∈ L → a < H.size := fun a ha => by
    obtain ⟨k9, hk9⟩ := va_pl_get (X := X) (f := f) ha
    exact (hP k9 _ hk9).lt
  have hnl : ∀ i : Nat, i < n.toNatClampNeg → H.size + 1 + i ∉ L := fun i _ h => by
    have := hlt _ h
    omega
  have hnm : ∀ a, a ∈ (List.range n.toNatClampNeg).map (fun i => H.size + 1 + i) → a ∉ L := fun a ha h => by
    obtain ⟨i, -, rfl⟩ := List.mem_map.mp ha
    have := hlt _ h
    omega
  have hP0 : va_P D cl (X ++ va_pl L f) F.heap := hP.kept (fun k9 x hx => hold x.1 ((hP k9 x hx).lt))
  have hP1 : va_P D cl ((X ++ va_pl L f) ++ [(H.size, .inl (cA, n.toNatClampNeg, .inr (.inr (.inr (.inr (fun i => if i < n.toNatClampNeg then some (H.size + 1 + i) else none))))))]) F.heap := hP0.app (fun k9 x hx => by
    have h0 : k9 < 1 := (List.getElem?_eq_some_iff.mp hx).1
    rw [show k9 = 0 by omega] at hx
    cases hx
    exact f2)
  have hP2 : va_P D cl (((X ++ va_pl L f) ++ [(H.size, .inl (cA, n.toNatClampNeg, .inr (.inr (.inr (.inr (fun i => if i < n.toNatClampNeg then some (H.size + 1 + i) else none))))))]) ++ ((List.range n.toNatClampNeg).map (fun i => H.size + 1 + i)).map (fun a => (a, .inl (cy, z)))) F.heap := hP1.app (fun k9 x hx => by
    obtain ⟨a, ha, rfl⟩ := List.mem_map.mp (List.mem_of_getElem? hx)
    obtain ⟨i, hi, rfl⟩ := List.mem_map.mp ha
    exact hrow i (List.mem_range.mp hi))
  have hD2 : va_D A (((X ++ va_pl L f) ++ [(H.size, .inl (cA, n.toNatClampNeg, .inr (.inr (.inr (.inr (fun i => if i < n.toNatClampNeg then some (H.size + 1 + i) else none))))))]) ++ ((List.range n.toNatClampNeg).map (fun i => H.size + 1 + i)).map (fun a => (a, .inl (cy, z)))) := by
    have hD1 := hD.push (e := .inl (cA, n.toNatClampNeg, .inr (.inr (.inr (.inr (fun i => if i < n.toNatClampNeg then some (H.size + 1 + i) else none)))))) hP rfl (hA _ hS.1)
    generalize hW1 : (X ++ va_pl L f) ++ [(H.size, .inl (cA, n.toNatClampNeg, .inr (.inr (.inr (.inr (fun i => if i < n.toNatClampNeg then some (H.size + 1 + i) else none))))))] = W1 at hD1 hP1 ⊢
    have hle : ∀ (k9 : Nat) (x : Nat × va_E), W1[k9]? = some x → x.1 ≤ H.size := fun k9 x hx => by
      rw [← hW1] at hx
      by_cases hl : k9 < (X ++ va_pl L f).length
      · rw [List.getElem?_append_left hl] at hx
        exact Nat.le_of_lt ((hP k9 x hx).lt)
      · rw [List.getElem?_append_right (by omega)] at hx
        have h0 : k9 - (X ++ va_pl L f).length < 1 := (List.getElem?_eq_some_iff.mp hx).1
        rw [show k9 - (X ++ va_pl L f).length = 0 by omega] at hx
        cases hx
        exact Nat.le_refl _
    have hr : ∀ (k9 : Nat) (x : Nat × va_E), (((List.range n.toNatClampNeg).map (fun i => H.size + 1 + i)).map (fun a => ((a, .inl (cy, z)) : Nat × va_E)))[k9]? = some x → x.1 = H.size + 1 + k9 := fun k9 x hx => by
      rw [List.getElem?_map, List.getElem?_map] at hx
      by_cases h9 : k9 < n.toNatClampNeg
      · rw [List.getElem?_range h9] at hx
        cases hx
        rfl
      · have hn0 : (List.range n.toNatClampNeg)[k9]? = none := List.getElem?_eq_none (by rw [List.length_range]; omega)
        rw [hn0] at hx
        cases hx
    refine ⟨fun i j x y hi hj hxy => ?_, fun k9 x hx => ?_⟩
    · by_cases h1 : i < W1.length <;> by_cases h2 : j < W1.length
      · rw [List.getElem?_append_left h1] at hi
        rw [List.getElem?_append_left h2] at hj
        exact hD1.1 i j x y hi hj hxy
      · rw [List.getElem?_append_left h1] at hi
        rw [List.getElem?_append_right (by omega)] at hj
        have := hle _ _ hi
        have := hr _ _ hj
        omega
      · rw [List.getElem?_append_right (by omega)] at hi
        rw [List.getElem?_append_left h2] at hj
        have := hle _ _ hj
        have := hr _ _ hi
        omega
      · rw [List.getElem?_append_right (by omega)] at hi hj
        have := hr _ _ hi
        have := hr _ _ hj
        omega
    · by_cases h1 : k9 < W1.length
      · rw [List.getElem?_append_left h1] at hx
        exact hD1.2 k9 x hx
      · rw [List.getElem?_append_right (by omega)] at hx
        have := hr _ _ hx
        exact hA _ (by have := hS.1; omega)
  have hAr : ArrOfT s cA (.array ty) := fun N9 z9 => by
    obtain ⟨-, k9, hk9, cm9, hkk9⟩ := (hO 0 0 0).1
    exact ⟨(fun q hq => by cases hq), k9, hk9, cm9, hkk9⟩
  have hK2 : va_K D cl (tys ++ [(cA, .array ty)]) s := ⟨hK.1, fun k9 x hx => by
    by_cases hl : k9 < tys.length
    · rw [List.getElem?_append_left hl] at hx
      exact hK.2 k9 x hx
    · rw [List.getElem?_append_right (by omega)] at hx
      have h0 : k9 - tys.length < 1 := (List.getElem?_eq_some_iff.mp hx).1
      rw [show k9 - tys.length = 0 by omega] at hx
      cases hx
      exact ⟨hAr, fA⟩⟩
  obtain ⟨t, a1, b1⟩ := kk H.size (fun i => H.size + 1 + i) cA F.heap (fun i j _ _ h => by have h9 : H.size + 1 + i = H.size + 1 + j := h; omega) hnl hK2 (by rw [← vr_rows hnm]; exact vr_lay hP2) (by rw [← vr_rows hnm]; exact vr_layD hD2) ⟨by rw [f1]; have := hS.1; omega, fun x h1 h2 => (hold x (Nat.lt_of_lt_of_le h1 hS.1)).trans (hS.2.1 x h1 h2), hS.2.2⟩ F rfl X'
  refine ⟨t, step t ?_, b1⟩
  have e : T.heap.size = H.size := by rw [hT]
  rw [e]
  exact a1
end VGM
/-! ===== END ===== -/
section GMN
variable {Γ : GQ} {cc : ByteArray} {own : String} {l0 : Launch} {D0 : va_G} {fr lo mc ms nL0 : Nat} {pc : Nat} {vs : List (Option Value)} {st : List Value} {ws : va_W} {ts : List (ClassId × FieldType)} {kc ks : Nat}
theorem g_mna (C : CG Γ cc own l0 D0 fr lo mc ms nL0) (hG : GE Γ) {ix t0 : Nat} {c1 : ClassId} (w1 : Cond.classLink own ix "[[I" ∈ gw_tbl) (w2 : Cond.arrayClass .int ∈ gw_tbl) (ht : ts[t0]? = some (c1, .int)) (h1 : kc + 6 ≤ mc) (h2 : ks + 45 ≤ ms) (hd : decode cc pc = .ok (.multianewarray ix 2, 4))
    (k : ∀ (q : Nat) (r : Nat → Nat) (cA : ClassId), GW Γ (pc + 4) vs (.ref q :: st) (ws ++ [(q, .inl (cA, 5, .inr (.inr (.inr (.inr (fun i => if i < 5 then some (r i) else none)))))), (r 0, .inl (c1, 8, .inl (fun _ => 0))), (r 1, .inl (c1, 8, .inl (fun _ => 0))), (r 2, .inl (c1, 8, .inl (fun _ => 0))), (r 3, .inl (c1, 8, .inl (fun _ => 0))), (r 4, .inl (c1, 8, .inl (fun _ => 0)))]) (ts ++ [(cA, .array .int)]) (kc + 6) (ks + 45)) : GW Γ pc vs (.int 8 :: .int 5 :: st) ws ts kc ks := by
  obtain ⟨p, l, e, R, s, m, args, below, meth, c, Q, D, A, H0, nL⟩ := Γ
  obtain ⟨⟨hx, hb, hml, hown, hts⟩, hE, hA0, rfl, rfl, hfr, hlo, hmc, hms, rfl⟩ := C
  intro H locs ls hK hP hD hS hl
  have hG : EG s := hG
  have hcy : s.vm.findClass (FieldType.array .int).toString = some c1 := (hK.2 t0 _ ht).2
  have hP0 : va_P D vwCl (ws ++ va_pl [] (fun _ => .inr (0, []))) H := by
    show va_P D vwCl (ws ++ []) H
    rw [List.append_nil]
    exact hP
  have hD0 : va_D A (ws ++ va_pl [] (fun _ => .inr (0, []))) := by
    show va_D A (ws ++ [])
    rw [List.append_nil]
    exact hD
  refine va_mna (ty := .int) (N' := 5) (K' := 8) (z := (8, .inl (fun _ => 0))) hx hb hown (hts _ w1) hG.2.2 (hts _ w2) hcy hK hP0 hD0 hS hA0 (by decide) (by decide) rfl rfl (by decide) (by decide) (by decide) rfl rfl (by omega) (by omega) (fun c => ?_) hd (fun q r cA H1 hinj hnl hK1 hP1 hD1 hS1 => ?_)
  · exact arrV_new c 8 (.int 0)
  · have e : va_pl ([] ++ (List.range 5).map r) (vr_up (fun _ => .inr (0, [])) ((List.range 5).map r) (.inl (c1, 8, .inl (fun _ => 0)))) = [(r 0, .inl (c1, 8, .inl (fun _ => 0))), (r 1, .inl (c1, 8, .inl (fun _ => 0))), (r 2, .inl (c1, 8, .inl (fun _ => 0))), (r 3, .inl (c1, 8, .inl (fun _ => 0))), (r 4, .inl (c1, 8, .inl (fun _ => 0)))] := by
      have h : ∀ i : Nat, i < 5 → vr_up (fun _ => (.inr (0, []) : va_E)) ((List.range 5).map r) (.inl (c1, 8, .inl (fun _ => 0))) (r i) = .inl (c1, 8, .inl (fun _ => 0)) := fun i hi => vr_up_in (List.mem_map.mpr ⟨i, List.mem_range.mpr hi, rfl⟩)
      show [(r 0, _), (r 1, _), (r 2, _), (r 3, _), (r 4, _)] = _
      rw [h 0 (by decide), h 1 (by decide), h 2 (by decide), h 3 (by decide), h 4 (by decide)]
    rw [e, List.append_assoc] at hP1 hD1
    exact W.widen (by omega) (by omega) (k q r cA H1 locs ls hK1 hP1 hD1 hS1 hl)
end GMN
def tcl (L : List Nat) (u : (Nat → Nat) × (Nat → ClassId)) : List (ClassId × FieldType) := L.map (fun i => (u.2 i, aty (kd i)))
abbrev UU : Type := (Nat → Nat) × (Nat → ClassId)
theorem oi_w : Cond.instanceMethod Lib.objectInit ∈ gw_tbl ∧ Cond.code Lib.objectInit ⟨#[0xb1]⟩ 1 none ∈ gw_tbl := ⟨gw1 29 rfl rfl, gw1 30 rfl rfl⟩
theorem aw_int : Cond.arrayClass .int ∈ gw_tbl := gw1 66 rfl rfl
theorem aw_long : Cond.arrayClass .long ∈ gw_tbl := gw1 67 rfl rfl
theorem aw_boolean : Cond.arrayClass .boolean ∈ gw_tbl := gw1 229 rfl rfl
theorem aw_byte : Cond.arrayClass .byte ∈ gw_tbl := gw3 163 rfl rfl
theorem oi_0 : Cond.methodLink RX0 3 Lib.objectInit ∈ gw_tbl := gw1 143 rfl rfl
theorem mn_0 : MN yX0_init cX0_init 1 0 := ⟨gw1 141 rfl rfl, gw1 7 rfl rfl, gw1 142 rfl rfl, rfl, ⟨by decide, by decide, by decide +kernel⟩⟩
theorem fw_0_9 : FW RX0 9 0 1 (.array .int) true := ⟨RX0, TX0, 12, tyX0, ⟨rfl, by decide, gw1 147 rfl rfl, uw_0⟩, tyX0_ok, nmX0, rfl, rfl, by decide +kernel⟩
theorem fw_0_15 : FW RX0 15 0 2 (.array .int) true := ⟨RX0, TX0, 12, tyX0, ⟨rfl, by decide, gw1 150 rfl rfl, uw_0⟩, tyX0_ok, nmX0, rfl, rfl, by decide +kernel⟩
theorem fw_0_18 : FW RX0 18 0 3 (.array .int) true := ⟨RX0, TX0, 12, tyX0, ⟨rfl, by decide, gw1 153 rfl rfl, uw_0⟩, tyX0_ok, nmX0, rfl, rfl, by decide +kernel⟩
theorem fw_0_21 : FW RX0 21 0 9 .int false := ⟨RX0, TX0, 12, tyX0, ⟨rfl, by decide, gw1 170 rfl rfl, uw_0⟩, tyX0_ok, nmX0, rfl, rfl, by decide +kernel⟩
theorem fw_0_25 : FW RX0 25 0 11 .int false := ⟨RX0, TX0, 12, tyX0, ⟨rfl, by decide, gw1 173 rfl rfl, uw_0⟩, tyX0_ok, nmX0, rfl, rfl, by decide +kernel⟩
theorem oi_1 : Cond.methodLink RX1 3 Lib.objectInit ∈ gw_tbl := gw1 112 rfl rfl
theorem mn_1 : MN yX1_init cX1_init 1 0 := ⟨gw1 110 rfl rfl, gw1 5 rfl rfl, gw1 111 rfl rfl, rfl, ⟨by decide, by decide, by decide +kernel⟩⟩
theorem fw_1_9 : FW RX1 9 1 0 (.array .int) true := ⟨RX1, TX1, 4, tyX1, ⟨rfl, by decide, gw1 113 rfl rfl, uw_1⟩, tyX1_ok, nmX1, rfl, rfl, by decide +kernel⟩
theorem fw_1_15 : FW RX1 15 1 1 (.array .int) true := ⟨RX1, TX1, 4, tyX1, ⟨rfl, by decide, gw1 115 rfl rfl, uw_1⟩, tyX1_ok, nmX1, rfl, rfl, by decide +kernel⟩
theorem oi_2 : Cond.methodLink RX2 3 Lib.objectInit ∈ gw_tbl := gw1 217 rfl rfl
theorem mn_2 : MN yX2_init cX2_init 1 0 := ⟨gw1 215 rfl rfl, gw1 8 rfl rfl, gw1 216 rfl rfl, rfl, ⟨by decide, by decide, by decide +kernel⟩⟩
theorem fw_2_9 : FW RX2 9 2 0 (.array .int) true := ⟨RX2, TX2, 3, tyX2, ⟨rfl, by decide, gw1 218 rfl rfl, uw_2⟩, tyX2_ok, nmX2, rfl, rfl, by decide +kernel⟩
theorem fw_2_15 : FW RX2 15 2 1 (.array .boolean) true := ⟨RX2, TX2, 3, tyX2, ⟨rfl, by decide, gw1 219 rfl rfl, uw_2⟩, tyX2_ok, nmX2, rfl, rfl, by decide +kernel⟩
theorem oi_3 : Cond.methodLink RX4 3 Lib.objectInit ∈ gw_tbl := gw1 106 rfl rfl
theorem mn_3 : MN yX4_init cX4_init 1 0 := ⟨gw1 104 rfl rfl, gw1 4 rfl rfl, gw1 105 rfl rfl, rfl, ⟨by decide, by decide, by decide +kernel⟩⟩
theorem fw_3_12 : FW RX4 12 3 0 (.object "StateJuggler$Asked") true := ⟨RX4, TX4, 1, tyX4, ⟨rfl, by decide, gw1 127 rfl rfl, uw_3⟩, tyX4_ok, nmX4, rfl, rfl, by decide +kernel⟩
set_option maxRecDepth 20000 in
theorem nc_3_9 : NC RX4 9 1 4 [.null, .null, .int 0, .int 0] := ⟨RX1, TX1, tyX1, rfl, uw_1, tyX1_ok, gw1 107 rfl rfl, gw1 108 rfl rfl, gw1 5 rfl rfl, by decide +kernel⟩
theorem oi_4 : Cond.methodLink RX5 3 Lib.objectInit ∈ gw_tbl := gw1 136 rfl rfl
theorem mn_4 : MN yX5_init cX5_init 2 0 := ⟨gw1 134 rfl rfl, gw1 6 rfl rfl, gw1 135 rfl rfl, rfl, ⟨by decide, by decide, by decide +kernel⟩⟩
theorem fw_4_11 : FW RX5 11 4 0 (.array (.object "StateJuggler$Air")) true := ⟨RX5, TX5, 3, tyX5, ⟨rfl, by decide, gw1 201 rfl rfl, uw_4⟩, tyX5_ok, nmX5, rfl, rfl, by decide +kernel⟩
set_option maxRecDepth 20000 in
theorem nc_4_9 : NC RX5 9 0 12 [.int 0, .null, .null, .null, .int 0, .int 0, .int 0, .int 0, .int 0, .int 0, .int 0, .int 0] := ⟨RX0, TX0, tyX0, rfl, uw_0, tyX0_ok, gw1 137 rfl rfl, gw1 139 rfl rfl, gw1 7 rfl rfl, by decide +kernel⟩
theorem oi_5 : Cond.methodLink RX6 3 Lib.objectInit ∈ gw_tbl := gw1 36 rfl rfl
theorem mn_5 : MN yX6_init cX6_init 1 0 := ⟨gw1 34 rfl rfl, gw1 2 rfl rfl, gw1 35 rfl rfl, rfl, ⟨by decide, by decide, by decide +kernel⟩⟩
theorem fw_5_12 : FW RX6 12 5 0 (.object "StateJuggler$Tape") true := ⟨RX6, TX6, 10, tyX6, ⟨rfl, by decide, gw1 68 rfl rfl, uw_5⟩, tyX6_ok, nmX6, rfl, rfl, by decide +kernel⟩
theorem fw_5_18 : FW RX6 18 5 1 .int false := ⟨RX6, TX6, 10, tyX6, ⟨rfl, by decide, gw1 70 rfl rfl, uw_5⟩, tyX6_ok, nmX6, rfl, rfl, by decide +kernel⟩
theorem fw_5_22 : FW RX6 22 5 8 (.array .long) true := ⟨RX6, TX6, 10, tyX6, ⟨rfl, by decide, gw1 78 rfl rfl, uw_5⟩, tyX6_ok, nmX6, rfl, rfl, by decide +kernel⟩
set_option maxRecDepth 20000 in
theorem nc_5_9 : NC RX6 9 8 6 [.null, .int 0, .null, .null, .null, .int 0] := ⟨RX9, TX9, tyX9, rfl, uw_8, tyX9_ok, gw1 37 rfl rfl, gw1 38 rfl rfl, gw1 3 rfl rfl, by decide +kernel⟩
theorem oi_6 : Cond.methodLink RX7 3 Lib.objectInit ∈ gw_tbl := gw1 235 rfl rfl
theorem mn_6 : MN yX7_init cX7_init 1 0 := ⟨gw1 233 rfl rfl, gw1 9 rfl rfl, gw1 234 rfl rfl, rfl, ⟨by decide, by decide, by decide +kernel⟩⟩
theorem fw_6_11 : FW RX7 11 6 0 (.array .int) true := ⟨RX7, TX7, 6, tyX7, ⟨rfl, by decide, gw1 236 rfl rfl, uw_6⟩, tyX7_ok, nmX7, rfl, rfl, by decide +kernel⟩
theorem fw_6_15 : FW RX7 15 6 2 (.array .int) true := ⟨RX7, TX7, 6, tyX7, ⟨rfl, by decide, gw1 238 rfl rfl, uw_6⟩, tyX7_ok, nmX7, rfl, rfl, by decide +kernel⟩
theorem fw_6_18 : FW RX7 18 6 3 (.array .int) true := ⟨RX7, TX7, 6, tyX7, ⟨rfl, by decide, gw1 239 rfl rfl, uw_6⟩, tyX7_ok, nmX7, rfl, rfl, by decide +kernel⟩
theorem fw_6_21 : FW RX7 21 6 4 (.array .int) true := ⟨RX7, TX7, 6, tyX7, ⟨rfl, by decide, gw2 0 rfl rfl, uw_6⟩, tyX7_ok, nmX7, rfl, rfl, by decide +kernel⟩
theorem oi_7 : Cond.methodLink RX8 1 Lib.objectInit ∈ gw_tbl := gw2 22 rfl rfl
theorem mn_7 : MN yX8_init cX8_init 1 0 := ⟨gw2 20 rfl rfl, gw1 10 rfl rfl, gw2 21 rfl rfl, rfl, ⟨by decide, by decide, by decide +kernel⟩⟩
theorem fw_7_9 : FW RX8 9 7 0 (.array .int) true := ⟨RX8, TX8, 5, tyX8, ⟨rfl, by decide, gw2 23 rfl rfl, uw_7⟩, tyX8_ok, nmX8, rfl, rfl, by decide +kernel⟩
theorem fw_7_13 : FW RX8 13 7 1 (.array .int) true := ⟨RX8, TX8, 5, tyX8, ⟨rfl, by decide, gw2 24 rfl rfl, uw_7⟩, tyX8_ok, nmX8, rfl, rfl, by decide +kernel⟩
theorem oi_8 : Cond.methodLink RX9 3 Lib.objectInit ∈ gw_tbl := gw1 42 rfl rfl
theorem mn_8 : MN yX9_init cX9_init 1 0 := ⟨gw1 40 rfl rfl, gw1 3 rfl rfl, gw1 41 rfl rfl, rfl, ⟨by decide, by decide, by decide +kernel⟩⟩
theorem fw_8_9 : FW RX9 9 8 0 (.array .int) true := ⟨RX9, TX9, 6, tyX9, ⟨rfl, by decide, gw1 43 rfl rfl, uw_8⟩, tyX9_ok, nmX9, rfl, rfl, by decide +kernel⟩
theorem fw_8_15 : FW RX9 15 8 2 (.array .int) true := ⟨RX9, TX9, 6, tyX9, ⟨rfl, by decide, gw1 46 rfl rfl, uw_8⟩, tyX9_ok, nmX9, rfl, rfl, by decide +kernel⟩
theorem fw_8_18 : FW RX9 18 8 3 (.array .int) true := ⟨RX9, TX9, 6, tyX9, ⟨rfl, by decide, gw1 48 rfl rfl, uw_8⟩, tyX9_ok, nmX9, rfl, rfl, by decide +kernel⟩
theorem fw_8_21 : FW RX9 21 8 4 (.array .long) true := ⟨RX9, TX9, 6, tyX9, ⟨rfl, by decide, gw1 50 rfl rfl, uw_8⟩, tyX9_ok, nmX9, rfl, rfl, by decide +kernel⟩
theorem oi_9 : Cond.methodLink RX10 3 Lib.objectInit ∈ gw_tbl := gw2 48 rfl rfl
theorem mn_9 : MN yX10_init cX10_init 1 0 := ⟨gw2 46 rfl rfl, gw1 11 rfl rfl, gw2 47 rfl rfl, rfl, ⟨by decide, by decide, by decide +kernel⟩⟩
theorem fw_9_9 : FW RX10 9 9 1 (.array .int) true := ⟨RX10, TX10, 12, tyX10, ⟨rfl, by decide, gw2 63 rfl rfl, uw_9⟩, tyX10_ok, nmX10, rfl, rfl, by decide +kernel⟩
theorem fw_9_15 : FW RX10 15 9 2 (.array .int) true := ⟨RX10, TX10, 12, tyX10, ⟨rfl, by decide, gw2 67 rfl rfl, uw_9⟩, tyX10_ok, nmX10, rfl, rfl, by decide +kernel⟩
theorem fw_9_18 : FW RX10 18 9 3 (.array .int) true := ⟨RX10, TX10, 12, tyX10, ⟨rfl, by decide, gw2 71 rfl rfl, uw_9⟩, tyX10_ok, nmX10, rfl, rfl, by decide +kernel⟩
theorem fw_9_23 : FW RX10 23 9 5 (.array (.array .int)) true := ⟨RX10, TX10, 12, tyX10, ⟨rfl, by decide, gw2 78 rfl rfl, uw_9⟩, tyX10_ok, nmX10, rfl, rfl, by decide +kernel⟩
theorem fw_9_26 : FW RX10 26 9 6 (.array .int) true := ⟨RX10, TX10, 12, tyX10, ⟨rfl, by decide, gw2 82 rfl rfl, uw_9⟩, tyX10_ok, nmX10, rfl, rfl, by decide +kernel⟩
theorem fw_9_29 : FW RX10 29 9 7 (.array .int) true := ⟨RX10, TX10, 12, tyX10, ⟨rfl, by decide, gw2 86 rfl rfl, uw_9⟩, tyX10_ok, nmX10, rfl, rfl, by decide +kernel⟩
theorem fw_9_32 : FW RX10 32 9 9 (.array .int) true := ⟨RX10, TX10, 12, tyX10, ⟨rfl, by decide, gw2 91 rfl rfl, uw_9⟩, tyX10_ok, nmX10, rfl, rfl, by decide +kernel⟩
theorem oi_10 : Cond.methodLink RX11 1 Lib.objectInit ∈ gw_tbl := gw1 28 rfl rfl
theorem mn_10 : MN yX11_init cX11_init 2 0 := ⟨gw1 26 rfl rfl, gw1 1 rfl rfl, gw1 27 rfl rfl, rfl, ⟨by decide, by decide, by decide +kernel⟩⟩
theorem fw_10_10 : FW RX11 10 10 0 (.object "StateJuggler$Reader") true := ⟨RX11, TX11, 15, tyX11, ⟨rfl, by decide, gw2 125 rfl rfl, uw_10⟩, tyX11_ok, nmX11, rfl, rfl, by decide +kernel⟩
theorem fw_10_19 : FW RX11 19 10 1 (.object "StateJuggler$Juggler") true := ⟨RX11, TX11, 15, tyX11, ⟨rfl, by decide, gw2 126 rfl rfl, uw_10⟩, tyX11_ok, nmX11, rfl, rfl, by decide +kernel⟩
theorem fw_10_26 : FW RX11 26 10 2 (.object "StateJuggler$Past") true := ⟨RX11, TX11, 15, tyX11, ⟨rfl, by decide, gw2 127 rfl rfl, uw_10⟩, tyX11_ok, nmX11, rfl, rfl, by decide +kernel⟩
theorem fw_10_33 : FW RX11 33 10 3 (.object "StateJuggler$Hearsay") true := ⟨RX11, TX11, 15, tyX11, ⟨rfl, by decide, gw2 128 rfl rfl, uw_10⟩, tyX11_ok, nmX11, rfl, rfl, by decide +kernel⟩
theorem fw_10_40 : FW RX11 40 10 4 (.object "StateJuggler$Route") true := ⟨RX11, TX11, 15, tyX11, ⟨rfl, by decide, gw2 129 rfl rfl, uw_10⟩, tyX11_ok, nmX11, rfl, rfl, by decide +kernel⟩
theorem fw_10_47 : FW RX11 47 10 5 (.object "StateJuggler$Rows") true := ⟨RX11, TX11, 15, tyX11, ⟨rfl, by decide, gw2 130 rfl rfl, uw_10⟩, tyX11_ok, nmX11, rfl, rfl, by decide +kernel⟩
theorem fw_10_54 : FW RX11 54 10 6 (.object "StateJuggler$Air") true := ⟨RX11, TX11, 15, tyX11, ⟨rfl, by decide, gw2 131 rfl rfl, uw_10⟩, tyX11_ok, nmX11, rfl, rfl, by decide +kernel⟩
theorem fw_10_58 : FW RX11 58 10 7 (.object "StateJuggler$Air") true := ⟨RX11, TX11, 15, tyX11, ⟨rfl, by decide, gw2 132 rfl rfl, uw_10⟩, tyX11_ok, nmX11, rfl, rfl, by decide +kernel⟩
theorem fw_10_61 : FW RX11 61 10 8 (.array (.object "StateJuggler$Air")) true := ⟨RX11, TX11, 15, tyX11, ⟨rfl, by decide, gw2 133 rfl rfl, uw_10⟩, tyX11_ok, nmX11, rfl, rfl, by decide +kernel⟩
theorem fw_10_65 : FW RX11 65 10 9 (.array .boolean) true := ⟨RX11, TX11, 15, tyX11, ⟨rfl, by decide, gw2 134 rfl rfl, uw_10⟩, tyX11_ok, nmX11, rfl, rfl, by decide +kernel⟩
theorem fw_10_69 : FW RX11 69 10 10 (.array .int) true := ⟨RX11, TX11, 15, tyX11, ⟨rfl, by decide, gw2 135 rfl rfl, uw_10⟩, tyX11_ok, nmX11, rfl, rfl, by decide +kernel⟩
theorem fw_10_73 : FW RX11 73 10 11 (.array .int) true := ⟨RX11, TX11, 15, tyX11, ⟨rfl, by decide, gw2 136 rfl rfl, uw_10⟩, tyX11_ok, nmX11, rfl, rfl, by decide +kernel⟩
theorem fw_10_76 : FW RX11 76 10 12 (.array .int) true := ⟨RX11, TX11, 15, tyX11, ⟨rfl, by decide, gw2 137 rfl rfl, uw_10⟩, tyX11_ok, nmX11, rfl, rfl, by decide +kernel⟩
theorem fw_10_82 : FW RX11 82 10 13 (.object "StateJuggler$Text") false := ⟨RX11, TX11, 15, tyX11, ⟨rfl, by decide, gw2 138 rfl rfl, uw_10⟩, tyX11_ok, nmX11, rfl, rfl, by decide +kernel⟩
theorem fw_10_86 : FW RX11 86 10 14 (.object "StateJuggler$Text") false := ⟨RX11, TX11, 15, tyX11, ⟨rfl, by decide, gw2 139 rfl rfl, uw_10⟩, tyX11_ok, nmX11, rfl, rfl, by decide +kernel⟩
set_option maxRecDepth 20000 in
theorem nc_10_7 : NC RX11 7 5 10 [.null, .int 0, .int 0, .int 0, .int 0, .int 0, .int 0, .int 0, .null, .int 0] := ⟨RX6, TX6, tyX6, rfl, uw_5, tyX6_ok, gw1 31 rfl rfl, gw1 32 rfl rfl, gw1 2 rfl rfl, by decide +kernel⟩
set_option maxRecDepth 20000 in
theorem nc_10_16 : NC RX11 16 3 1 [.null] := ⟨RX4, TX4, tyX4, rfl, uw_3, tyX4_ok, gw1 101 rfl rfl, gw1 102 rfl rfl, gw1 4 rfl rfl, by decide +kernel⟩
set_option maxRecDepth 20000 in
theorem nc_10_23 : NC RX11 23 4 3 [.null, .int 0, .int 0] := ⟨RX5, TX5, tyX5, rfl, uw_4, tyX5_ok, gw1 131 rfl rfl, gw1 132 rfl rfl, gw1 6 rfl rfl, by decide +kernel⟩
set_option maxRecDepth 20000 in
theorem nc_10_30 : NC RX11 30 2 3 [.null, .null, .int 0] := ⟨RX2, TX2, tyX2, rfl, uw_2, tyX2_ok, gw1 212 rfl rfl, gw1 213 rfl rfl, gw1 8 rfl rfl, by decide +kernel⟩
set_option maxRecDepth 20000 in
theorem nc_10_37 : NC RX11 37 6 6 [.null, .int 0, .null, .null, .null, .int 0] := ⟨RX7, TX7, tyX7, rfl, uw_6, tyX7_ok, gw1 230 rfl rfl, gw1 231 rfl rfl, gw1 9 rfl rfl, by decide +kernel⟩
set_option maxRecDepth 20000 in
theorem nc_10_44 : NC RX11 44 7 5 [.null, .null, .int 0, .int 0, .int 0] := ⟨RX8, TX8, tyX8, rfl, uw_7, tyX8_ok, gw2 17 rfl rfl, gw2 18 rfl rfl, gw1 10 rfl rfl, by decide +kernel⟩
set_option maxRecDepth 20000 in
theorem nc_10_51 : NC RX11 51 0 12 [.int 0, .null, .null, .null, .int 0, .int 0, .int 0, .int 0, .int 0, .int 0, .int 0, .int 0] := ⟨RX0, TX0, tyX0, rfl, uw_0, tyX0_ok, gw2 41 rfl rfl, gw1 139 rfl rfl, gw1 7 rfl rfl, by decide +kernel⟩
set_option maxRecDepth 20000 in
theorem nc_10_79 : NC RX11 79 9 12 [.int 0, .null, .null, .null, .int 0, .null, .null, .null, .int 0, .null, .int 0, .int 0] := ⟨RX10, TX10, tyX10, rfl, uw_9, tyX10_ok, gw2 43 rfl rfl, gw2 44 rfl rfl, gw1 11 rfl rfl, by decide +kernel⟩
theorem oi_11 : Cond.methodLink RX12 7 Lib.objectInit ∈ gw_tbl := gw5 80 rfl rfl
theorem mn_11 : MN yX12_init cX12_init 1 0 := ⟨gw5 78 rfl rfl, gw1 12 rfl rfl, gw5 79 rfl rfl, rfl, ⟨by decide, by decide, by decide +kernel⟩⟩
theorem fw_11_13 : FW RX12 13 11 1 (.array .byte) true := ⟨RX12, TX12, 66, tyX12, ⟨rfl, by decide, gw5 100 rfl rfl, uw_11⟩, tyX12_ok, nmX12, rfl, rfl, by decide +kernel⟩
theorem fw_11_17 : FW RX12 17 11 3 (.array .byte) true := ⟨RX12, TX12, 66, tyX12, ⟨rfl, by decide, gw5 102 rfl rfl, uw_11⟩, tyX12_ok, nmX12, rfl, rfl, by decide +kernel⟩
theorem fw_11_20 : FW RX12 20 11 5 (.array .int) true := ⟨RX12, TX12, 66, tyX12, ⟨rfl, by decide, gw5 104 rfl rfl, uw_11⟩, tyX12_ok, nmX12, rfl, rfl, by decide +kernel⟩
theorem fw_11_24 : FW RX12 24 11 6 (.array .int) true := ⟨RX12, TX12, 66, tyX12, ⟨rfl, by decide, gw5 105 rfl rfl, uw_11⟩, tyX12_ok, nmX12, rfl, rfl, by decide +kernel⟩
theorem fw_11_27 : FW RX12 27 11 7 (.array .int) true := ⟨RX12, TX12, 66, tyX12, ⟨rfl, by decide, gw5 106 rfl rfl, uw_11⟩, tyX12_ok, nmX12, rfl, rfl, by decide +kernel⟩
theorem fw_11_30 : FW RX12 30 11 8 (.array .long) true := ⟨RX12, TX12, 66, tyX12, ⟨rfl, by decide, gw5 107 rfl rfl, uw_11⟩, tyX12_ok, nmX12, rfl, rfl, by decide +kernel⟩
theorem fw_11_34 : FW RX12 34 11 9 (.array .long) true := ⟨RX12, TX12, 66, tyX12, ⟨rfl, by decide, gw5 108 rfl rfl, uw_11⟩, tyX12_ok, nmX12, rfl, rfl, by decide +kernel⟩
theorem fw_11_37 : FW RX12 37 11 17 .int false := ⟨RX12, TX12, 66, tyX12, ⟨rfl, by decide, gw5 116 rfl rfl, uw_11⟩, tyX12_ok, nmX12, rfl, rfl, by decide +kernel⟩
theorem fw_11_40 : FW RX12 40 11 21 (.array .long) true := ⟨RX12, TX12, 66, tyX12, ⟨rfl, by decide, gw5 120 rfl rfl, uw_11⟩, tyX12_ok, nmX12, rfl, rfl, by decide +kernel⟩
theorem fw_11_43 : FW RX12 43 11 22 (.array .int) true := ⟨RX12, TX12, 66, tyX12, ⟨rfl, by decide, gw5 121 rfl rfl, uw_11⟩, tyX12_ok, nmX12, rfl, rfl, by decide +kernel⟩
theorem fw_11_46 : FW RX12 46 11 23 (.array .int) true := ⟨RX12, TX12, 66, tyX12, ⟨rfl, by decide, gw5 122 rfl rfl, uw_11⟩, tyX12_ok, nmX12, rfl, rfl, by decide +kernel⟩
theorem fw_11_49 : FW RX12 49 11 24 (.array .int) true := ⟨RX12, TX12, 66, tyX12, ⟨rfl, by decide, gw5 123 rfl rfl, uw_11⟩, tyX12_ok, nmX12, rfl, rfl, by decide +kernel⟩
theorem fw_11_52 : FW RX12 52 11 25 (.array .int) true := ⟨RX12, TX12, 66, tyX12, ⟨rfl, by decide, gw5 124 rfl rfl, uw_11⟩, tyX12_ok, nmX12, rfl, rfl, by decide +kernel⟩
theorem fw_11_55 : FW RX12 55 11 26 (.array .int) true := ⟨RX12, TX12, 66, tyX12, ⟨rfl, by decide, gw5 125 rfl rfl, uw_11⟩, tyX12_ok, nmX12, rfl, rfl, by decide +kernel⟩
theorem fw_11_58 : FW RX12 58 11 27 (.array .int) true := ⟨RX12, TX12, 66, tyX12, ⟨rfl, by decide, gw5 126 rfl rfl, uw_11⟩, tyX12_ok, nmX12, rfl, rfl, by decide +kernel⟩
theorem fw_11_61 : FW RX12 61 11 28 (.array .int) true := ⟨RX12, TX12, 66, tyX12, ⟨rfl, by decide, gw5 127 rfl rfl, uw_11⟩, tyX12_ok, nmX12, rfl, rfl, by decide +kernel⟩
theorem fw_11_64 : FW RX12 64 11 29 (.array .int) true := ⟨RX12, TX12, 66, tyX12, ⟨rfl, by decide, gw5 128 rfl rfl, uw_11⟩, tyX12_ok, nmX12, rfl, rfl, by decide +kernel⟩
theorem fw_11_67 : FW RX12 67 11 30 (.array .int) true := ⟨RX12, TX12, 66, tyX12, ⟨rfl, by decide, gw5 129 rfl rfl, uw_11⟩, tyX12_ok, nmX12, rfl, rfl, by decide +kernel⟩
theorem fw_11_70 : FW RX12 70 11 31 (.array .int) true := ⟨RX12, TX12, 66, tyX12, ⟨rfl, by decide, gw5 130 rfl rfl, uw_11⟩, tyX12_ok, nmX12, rfl, rfl, by decide +kernel⟩
theorem fw_11_73 : FW RX12 73 11 32 (.array .int) true := ⟨RX12, TX12, 66, tyX12, ⟨rfl, by decide, gw5 131 rfl rfl, uw_11⟩, tyX12_ok, nmX12, rfl, rfl, by decide +kernel⟩
theorem fw_11_76 : FW RX12 76 11 34 (.array .boolean) true := ⟨RX12, TX12, 66, tyX12, ⟨rfl, by decide, gw5 133 rfl rfl, uw_11⟩, tyX12_ok, nmX12, rfl, rfl, by decide +kernel⟩
theorem fw_11_80 : FW RX12 80 11 35 (.array .int) true := ⟨RX12, TX12, 66, tyX12, ⟨rfl, by decide, gw5 134 rfl rfl, uw_11⟩, tyX12_ok, nmX12, rfl, rfl, by decide +kernel⟩
theorem fw_11_83 : FW RX12 83 11 36 (.array .int) true := ⟨RX12, TX12, 66, tyX12, ⟨rfl, by decide, gw5 135 rfl rfl, uw_11⟩, tyX12_ok, nmX12, rfl, rfl, by decide +kernel⟩
theorem fw_11_86 : FW RX12 86 11 37 (.array .int) true := ⟨RX12, TX12, 66, tyX12, ⟨rfl, by decide, gw5 136 rfl rfl, uw_11⟩, tyX12_ok, nmX12, rfl, rfl, by decide +kernel⟩
theorem fw_11_89 : FW RX12 89 11 38 (.array .int) true := ⟨RX12, TX12, 66, tyX12, ⟨rfl, by decide, gw5 137 rfl rfl, uw_11⟩, tyX12_ok, nmX12, rfl, rfl, by decide +kernel⟩
theorem fw_11_92 : FW RX12 92 11 40 (.array .int) true := ⟨RX12, TX12, 66, tyX12, ⟨rfl, by decide, gw5 139 rfl rfl, uw_11⟩, tyX12_ok, nmX12, rfl, rfl, by decide +kernel⟩
theorem fw_11_95 : FW RX12 95 11 41 (.array .int) true := ⟨RX12, TX12, 66, tyX12, ⟨rfl, by decide, gw5 140 rfl rfl, uw_11⟩, tyX12_ok, nmX12, rfl, rfl, by decide +kernel⟩
theorem fw_11_98 : FW RX12 98 11 42 (.array .int) true := ⟨RX12, TX12, 66, tyX12, ⟨rfl, by decide, gw5 141 rfl rfl, uw_11⟩, tyX12_ok, nmX12, rfl, rfl, by decide +kernel⟩
theorem fw_11_101 : FW RX12 101 11 44 (.array .int) true := ⟨RX12, TX12, 66, tyX12, ⟨rfl, by decide, gw5 143 rfl rfl, uw_11⟩, tyX12_ok, nmX12, rfl, rfl, by decide +kernel⟩
theorem fw_11_104 : FW RX12 104 11 45 (.array .int) true := ⟨RX12, TX12, 66, tyX12, ⟨rfl, by decide, gw5 144 rfl rfl, uw_11⟩, tyX12_ok, nmX12, rfl, rfl, by decide +kernel⟩
theorem fw_11_107 : FW RX12 107 11 47 (.array .int) true := ⟨RX12, TX12, 66, tyX12, ⟨rfl, by decide, gw5 146 rfl rfl, uw_11⟩, tyX12_ok, nmX12, rfl, rfl, by decide +kernel⟩
theorem fw_11_110 : FW RX12 110 11 48 (.array .int) true := ⟨RX12, TX12, 66, tyX12, ⟨rfl, by decide, gw5 147 rfl rfl, uw_11⟩, tyX12_ok, nmX12, rfl, rfl, by decide +kernel⟩
theorem fw_11_113 : FW RX12 113 11 55 (.array .int) true := ⟨RX12, TX12, 66, tyX12, ⟨rfl, by decide, gw5 154 rfl rfl, uw_11⟩, tyX12_ok, nmX12, rfl, rfl, by decide +kernel⟩
theorem fw_11_116 : FW RX12 116 11 56 (.array .int) true := ⟨RX12, TX12, 66, tyX12, ⟨rfl, by decide, gw5 155 rfl rfl, uw_11⟩, tyX12_ok, nmX12, rfl, rfl, by decide +kernel⟩
theorem fw_11_119 : FW RX12 119 11 58 (.array .int) true := ⟨RX12, TX12, 66, tyX12, ⟨rfl, by decide, gw5 157 rfl rfl, uw_11⟩, tyX12_ok, nmX12, rfl, rfl, by decide +kernel⟩
theorem fw_11_122 : FW RX12 122 11 59 (.array .int) true := ⟨RX12, TX12, 66, tyX12, ⟨rfl, by decide, gw5 158 rfl rfl, uw_11⟩, tyX12_ok, nmX12, rfl, rfl, by decide +kernel⟩
theorem fw_11_125 : FW RX12 125 11 61 (.array .int) true := ⟨RX12, TX12, 66, tyX12, ⟨rfl, by decide, gw5 160 rfl rfl, uw_11⟩, tyX12_ok, nmX12, rfl, rfl, by decide +kernel⟩
theorem fw_11_128 : FW RX12 128 11 62 (.array .boolean) true := ⟨RX12, TX12, 66, tyX12, ⟨rfl, by decide, gw5 161 rfl rfl, uw_11⟩, tyX12_ok, nmX12, rfl, rfl, by decide +kernel⟩
theorem fw_11_131 : FW RX12 131 11 63 (.array .int) true := ⟨RX12, TX12, 66, tyX12, ⟨rfl, by decide, gw5 162 rfl rfl, uw_11⟩, tyX12_ok, nmX12, rfl, rfl, by decide +kernel⟩
theorem fw_11_134 : FW RX12 134 11 64 (.array .boolean) true := ⟨RX12, TX12, 66, tyX12, ⟨rfl, by decide, gw5 163 rfl rfl, uw_11⟩, tyX12_ok, nmX12, rfl, rfl, by decide +kernel⟩
theorem fw_11_137 : FW RX12 137 11 65 (.array .int) true := ⟨RX12, TX12, 66, tyX12, ⟨rfl, by decide, gw5 164 rfl rfl, uw_11⟩, tyX12_ok, nmX12, rfl, rfl, by decide +kernel⟩
set_option maxRecDepth 20000 in
theorem nc_L_7 : NC RL 7 10 15 [.null, .null, .null, .null, .null, .null, .null, .null, .null, .null, .null, .null, .null, .null, .null] := ⟨RX11, TX11, tyX11, rfl, uw_10, tyX11_ok, gw1 23 rfl rfl, gw1 24 rfl rfl, gw1 1 rfl rfl, by decide +kernel⟩
set_option maxRecDepth 20000 in
theorem nc_L_10 : NC RL 10 11 66 [.int 0, .null, .int 0, .null, .int 0, .null, .null, .null, .null, .null, .int 0, .int 0, .int 0, .int 0, .int 0, .int 0, .int 0, .int 0, .int 0, .int 0, .int 0, .null, .null, .null, .null, .null, .null, .null, .null, .null, .null, .null, .null, .int 0, .null, .null, .null, .null, .null, .int 0, .null, .null, .null, .int 0, .null, .null, .int 0, .null, .null, .int 0, .int 0, .int 0, .int 0, .int 0, .int 0, .null, .null, .int 0, .null, .null, .int 0, .null, .null, .null, .null, .null] := ⟨RX12, TX12, tyX12, rfl, uw_11, tyX12_ok, gw5 75 rfl rfl, gw5 76 rfl rfl, gw1 12 rfl rfl, by decide +kernel⟩
def kb_cX0_init_0 : List Nat := [42, 183, 0, 3, 42, 16, 7, 188, 10, 181, 0, 9, 42, 16, 7, 188, 10, 181, 0, 15]
theorem ac_cX0_init_0 : AL cX0_init 0 kb_cX0_init_0 := AL.of (m := 20) (by decide +kernel)
theorem dX0_init_0 : decode cX0_init 0 = .ok (.aload_n 0, 1) := o42 ac_cX0_init_0 0 rfl
theorem dX0_init_1 : decode cX0_init 1 = .ok (.invokespecial 3, 3) := o183 ac_cX0_init_0 1 0 3 rfl
theorem dX0_init_4 : decode cX0_init 4 = .ok (.aload_n 0, 1) := o42 ac_cX0_init_0 4 rfl
theorem dX0_init_5 : decode cX0_init 5 = .ok (.bipush 7, 2) := o16p ac_cX0_init_0 5 7 rfl rfl
theorem dX0_init_7 : decode cX0_init 7 = .ok (.newarray .int, 2) := by decide +kernel
theorem dX0_init_9 : decode cX0_init 9 = .ok (.putfield 9, 3) := o181 ac_cX0_init_0 9 0 9 rfl
theorem dX0_init_12 : decode cX0_init 12 = .ok (.aload_n 0, 1) := o42 ac_cX0_init_0 12 rfl
theorem dX0_init_13 : decode cX0_init 13 = .ok (.bipush 7, 2) := o16p ac_cX0_init_0 13 7 rfl rfl
theorem dX0_init_15 : decode cX0_init 15 = .ok (.newarray .int, 2) := by decide +kernel
def kb_cX0_init_16 : List Nat := [10, 181, 0, 15, 42, 16, 7, 188, 10, 181, 0, 18, 42, 2, 181, 0, 21, 42, 2, 181]
theorem ac_cX0_init_16 : AL cX0_init 16 kb_cX0_init_16 := AL.of (m := 20) (by decide +kernel)
theorem dX0_init_17 : decode cX0_init 17 = .ok (.putfield 15, 3) := o181 ac_cX0_init_16 1 0 15 rfl
theorem dX0_init_20 : decode cX0_init 20 = .ok (.aload_n 0, 1) := o42 ac_cX0_init_16 4 rfl
theorem dX0_init_21 : decode cX0_init 21 = .ok (.bipush 7, 2) := o16p ac_cX0_init_16 5 7 rfl rfl
theorem dX0_init_23 : decode cX0_init 23 = .ok (.newarray .int, 2) := by decide +kernel
theorem dX0_init_25 : decode cX0_init 25 = .ok (.putfield 18, 3) := o181 ac_cX0_init_16 9 0 18 rfl
theorem dX0_init_28 : decode cX0_init 28 = .ok (.aload_n 0, 1) := o42 ac_cX0_init_16 12 rfl
theorem dX0_init_29 : decode cX0_init 29 = .ok (.iconst (-1), 1) := o2 ac_cX0_init_16 13 rfl
theorem dX0_init_30 : decode cX0_init 30 = .ok (.putfield 21, 3) := o181 ac_cX0_init_16 14 0 21 rfl
def kb_cX0_init_32 : List Nat := [21, 42, 2, 181, 0, 25, 177]
theorem ac_cX0_init_32 : AL cX0_init 32 kb_cX0_init_32 := AL.of (m := 7) (by decide +kernel)
theorem dX0_init_33 : decode cX0_init 33 = .ok (.aload_n 0, 1) := o42 ac_cX0_init_32 1 rfl
theorem dX0_init_34 : decode cX0_init 34 = .ok (.iconst (-1), 1) := o2 ac_cX0_init_32 2 rfl
theorem dX0_init_35 : decode cX0_init 35 = .ok (.putfield 25, 3) := o181 ac_cX0_init_32 3 0 25 rfl
theorem dX0_init_38 : decode cX0_init 38 = .ok (.return_, 1) := o177 ac_cX0_init_32 6 rfl
set_option maxHeartbeats 4000000 in
set_option maxRecDepth 100000 in
theorem n_0 {l : Launch} {D : va_G} {a : Nat} : KN (S := UU) l D yX0_init cX0_init 1 1 12 3 21 [.ref a] [(a, .inr (0, [.int 0, .null, .null, .null, .int 0, .int 0, .int 0, .int 0, .int 0, .int 0, .int 0, .int 0]))] [] (fun u => mw [60, 61, 62, 63] u.1 u.2 s0) (fun u => tcl [61, 62, 63] u) (fun u => u.1 60 = a) := by
  refine KN.of (by decide) (Nat.le_of_ble_eq_true rfl) 0 (fun Γ C hin hG Rt => ?_)
  have hin := hin rfl
  show GW Γ 0 [some (.ref a)] [] [(a, .inr (0, [.int 0, .null, .null, .null, .int 0, .int 0, .int 0, .int 0, .int 0, .int 0, .int 0, .int 0]))] [] 0 0
  refine g_aload_n C dX0_init_0 (i := 0) rfl rfl ?_
  refine g_objInit C oi_0 oi_w.1 oi_w.2 (by decide) (Nat.le_of_ble_eq_true rfl) dX0_init_1 ?_
  refine g_aload_n C dX0_init_4 (i := 0) rfl rfl ?_
  refine g_bipush C dX0_init_5 (v := 7) rfl ?_
  refine g_newa C (atype := .int) (ty := .int) 7 (7, .inl (fun _ => 0)) aw_int rfl (fun _ => rfl) (by decide) rfl (by decide) (by omega) (by omega) dX0_init_7 (fun q1 c1 => ?_)
  refine g_eq (ws1 := [(a, .inr (0, [.int 0, .null, .null, .null, .int 0, .int 0, .int 0, .int 0, .int 0, .int 0, .int 0, .int 0])), (q1, .inl (c1, 7, .inl (fun _ => 0)))]) (ts1 := ([] ++ [(c1, .int)])) (kc1 := 1) (ks1 := 7) rfl rfl rfl rfl ?_
  refine g_put C hin (q0 := 0) fw_0_9 rfl rfl rfl (Nat.le_of_ble_eq_true rfl) dX0_init_9 (ws1 := [(a, .inr (0, [.int 0, .ref q1, .null, .null, .int 0, .int 0, .int 0, .int 0, .int 0, .int 0, .int 0, .int 0])), (q1, .inl (c1, 7, .inl (fun _ => 0)))]) rfl ?_
  refine g_aload_n C dX0_init_12 (i := 0) rfl rfl ?_
  refine g_bipush C dX0_init_13 (v := 7) rfl ?_
  refine g_newa C (atype := .int) (ty := .int) 7 (7, .inl (fun _ => 0)) aw_int rfl (fun _ => rfl) (by decide) rfl (by decide) (by omega) (by omega) dX0_init_15 (fun q2 c2 => ?_)
  refine g_eq (ws1 := [(a, .inr (0, [.int 0, .ref q1, .null, .null, .int 0, .int 0, .int 0, .int 0, .int 0, .int 0, .int 0, .int 0])), (q1, .inl (c1, 7, .inl (fun _ => 0))), (q2, .inl (c2, 7, .inl (fun _ => 0)))]) (ts1 := (([] ++ [(c1, .int)]) ++ [(c2, .int)])) (kc1 := 2) (ks1 := 14) rfl rfl rfl rfl ?_
  refine g_put C hin (q0 := 0) fw_0_15 rfl rfl rfl (Nat.le_of_ble_eq_true rfl) dX0_init_17 (ws1 := [(a, .inr (0, [.int 0, .ref q1, .ref q2, .null, .int 0, .int 0, .int 0, .int 0, .int 0, .int 0, .int 0, .int 0])), (q1, .inl (c1, 7, .inl (fun _ => 0))), (q2, .inl (c2, 7, .inl (fun _ => 0)))]) rfl ?_
  refine g_aload_n C dX0_init_20 (i := 0) rfl rfl ?_
  refine g_bipush C dX0_init_21 (v := 7) rfl ?_
  refine g_newa C (atype := .int) (ty := .int) 7 (7, .inl (fun _ => 0)) aw_int rfl (fun _ => rfl) (by decide) rfl (by decide) (by omega) (by omega) dX0_init_23 (fun q3 c3 => ?_)
  refine g_eq (ws1 := [(a, .inr (0, [.int 0, .ref q1, .ref q2, .null, .int 0, .int 0, .int 0, .int 0, .int 0, .int 0, .int 0, .int 0])), (q1, .inl (c1, 7, .inl (fun _ => 0))), (q2, .inl (c2, 7, .inl (fun _ => 0))), (q3, .inl (c3, 7, .inl (fun _ => 0)))]) (ts1 := ((([] ++ [(c1, .int)]) ++ [(c2, .int)]) ++ [(c3, .int)])) (kc1 := 3) (ks1 := 21) rfl rfl rfl rfl ?_
  refine g_put C hin (q0 := 0) fw_0_18 rfl rfl rfl (Nat.le_of_ble_eq_true rfl) dX0_init_25 (ws1 := [(a, .inr (0, [.int 0, .ref q1, .ref q2, .ref q3, .int 0, .int 0, .int 0, .int 0, .int 0, .int 0, .int 0, .int 0])), (q1, .inl (c1, 7, .inl (fun _ => 0))), (q2, .inl (c2, 7, .inl (fun _ => 0))), (q3, .inl (c3, 7, .inl (fun _ => 0)))]) rfl ?_
  refine g_aload_n C dX0_init_28 (i := 0) rfl rfl ?_
  refine g_iconst C dX0_init_29 (v := (-1)) rfl ?_
  refine g_put C hin (q0 := 0) fw_0_21 rfl rfl rfl (Nat.le_of_ble_eq_true rfl) dX0_init_30 (ws1 := [(a, .inr (0, [.int 0, .ref q1, .ref q2, .ref q3, .int 0, .int 0, .int 0, .int 0, .int 0, .int (-1), .int 0, .int 0])), (q1, .inl (c1, 7, .inl (fun _ => 0))), (q2, .inl (c2, 7, .inl (fun _ => 0))), (q3, .inl (c3, 7, .inl (fun _ => 0)))]) rfl ?_
  refine g_aload_n C dX0_init_33 (i := 0) rfl rfl ?_
  refine g_iconst C dX0_init_34 (v := (-1)) rfl ?_
  refine g_put C hin (q0 := 0) fw_0_25 rfl rfl rfl (Nat.le_of_ble_eq_true rfl) dX0_init_35 (ws1 := [(a, .inr (0, [.int 0, .ref q1, .ref q2, .ref q3, .int 0, .int 0, .int 0, .int 0, .int 0, .int (-1), .int 0, .int (-1)])), (q1, .inl (c1, 7, .inl (fun _ => 0))), (q2, .inl (c2, 7, .inl (fun _ => 0))), (q3, .inl (c3, 7, .inl (fun _ => 0)))]) rfl ?_
  exact g_vret Rt ((fun i => if i = 60 then a else if i = 61 then q1 else if i = 62 then q2 else if i = 63 then q3 else 0), (fun i => if i = 61 then c1 else if i = 62 then c2 else if i = 63 then c3 else c3)) dX0_init_38 (by decide) (by decide) rfl rfl rfl
def kb_cX1_init_0 : List Nat := [42, 183, 0, 3, 42, 16, 9, 188, 10, 181, 0, 9, 42, 16, 32, 188, 10, 181, 0, 15]
theorem ac_cX1_init_0 : AL cX1_init 0 kb_cX1_init_0 := AL.of (m := 20) (by decide +kernel)
theorem dX1_init_0 : decode cX1_init 0 = .ok (.aload_n 0, 1) := o42 ac_cX1_init_0 0 rfl
theorem dX1_init_1 : decode cX1_init 1 = .ok (.invokespecial 3, 3) := o183 ac_cX1_init_0 1 0 3 rfl
theorem dX1_init_4 : decode cX1_init 4 = .ok (.aload_n 0, 1) := o42 ac_cX1_init_0 4 rfl
theorem dX1_init_5 : decode cX1_init 5 = .ok (.bipush 9, 2) := o16p ac_cX1_init_0 5 9 rfl rfl
theorem dX1_init_7 : decode cX1_init 7 = .ok (.newarray .int, 2) := by decide +kernel
theorem dX1_init_9 : decode cX1_init 9 = .ok (.putfield 9, 3) := o181 ac_cX1_init_0 9 0 9 rfl
theorem dX1_init_12 : decode cX1_init 12 = .ok (.aload_n 0, 1) := o42 ac_cX1_init_0 12 rfl
theorem dX1_init_13 : decode cX1_init 13 = .ok (.bipush 32, 2) := o16p ac_cX1_init_0 13 32 rfl rfl
theorem dX1_init_15 : decode cX1_init 15 = .ok (.newarray .int, 2) := by decide +kernel
def kb_cX1_init_16 : List Nat := [10, 181, 0, 15, 177]
theorem ac_cX1_init_16 : AL cX1_init 16 kb_cX1_init_16 := AL.of (m := 5) (by decide +kernel)
theorem dX1_init_17 : decode cX1_init 17 = .ok (.putfield 15, 3) := o181 ac_cX1_init_16 1 0 15 rfl
theorem dX1_init_20 : decode cX1_init 20 = .ok (.return_, 1) := o177 ac_cX1_init_16 4 rfl
set_option maxHeartbeats 4000000 in
set_option maxRecDepth 100000 in
theorem n_1 {l : Launch} {D : va_G} {a : Nat} : KN (S := UU) l D yX1_init cX1_init 1 1 12 2 41 [.ref a] [(a, .inr (1, [.null, .null, .int 0, .int 0]))] [] (fun u => mw [9, 10, 11] u.1 u.2 s0) (fun u => tcl [10, 11] u) (fun u => u.1 9 = a) := by
  refine KN.of (by decide) (Nat.le_of_ble_eq_true rfl) 0 (fun Γ C hin hG Rt => ?_)
  have hin := hin rfl
  show GW Γ 0 [some (.ref a)] [] [(a, .inr (1, [.null, .null, .int 0, .int 0]))] [] 0 0
  refine g_aload_n C dX1_init_0 (i := 0) rfl rfl ?_
  refine g_objInit C oi_1 oi_w.1 oi_w.2 (by decide) (Nat.le_of_ble_eq_true rfl) dX1_init_1 ?_
  refine g_aload_n C dX1_init_4 (i := 0) rfl rfl ?_
  refine g_bipush C dX1_init_5 (v := 9) rfl ?_
  refine g_newa C (atype := .int) (ty := .int) 9 (9, .inl (fun _ => 0)) aw_int rfl (fun _ => rfl) (by decide) rfl (by decide) (by omega) (by omega) dX1_init_7 (fun q1 c1 => ?_)
  refine g_eq (ws1 := [(a, .inr (1, [.null, .null, .int 0, .int 0])), (q1, .inl (c1, 9, .inl (fun _ => 0)))]) (ts1 := ([] ++ [(c1, .int)])) (kc1 := 1) (ks1 := 9) rfl rfl rfl rfl ?_
  refine g_put C hin (q0 := 0) fw_1_9 rfl rfl rfl (Nat.le_of_ble_eq_true rfl) dX1_init_9 (ws1 := [(a, .inr (1, [.ref q1, .null, .int 0, .int 0])), (q1, .inl (c1, 9, .inl (fun _ => 0)))]) rfl ?_
  refine g_aload_n C dX1_init_12 (i := 0) rfl rfl ?_
  refine g_bipush C dX1_init_13 (v := 32) rfl ?_
  refine g_newa C (atype := .int) (ty := .int) 32 (32, .inl (fun _ => 0)) aw_int rfl (fun _ => rfl) (by decide) rfl (by decide) (by omega) (by omega) dX1_init_15 (fun q2 c2 => ?_)
  refine g_eq (ws1 := [(a, .inr (1, [.ref q1, .null, .int 0, .int 0])), (q1, .inl (c1, 9, .inl (fun _ => 0))), (q2, .inl (c2, 32, .inl (fun _ => 0)))]) (ts1 := (([] ++ [(c1, .int)]) ++ [(c2, .int)])) (kc1 := 2) (ks1 := 41) rfl rfl rfl rfl ?_
  refine g_put C hin (q0 := 0) fw_1_15 rfl rfl rfl (Nat.le_of_ble_eq_true rfl) dX1_init_17 (ws1 := [(a, .inr (1, [.ref q1, .ref q2, .int 0, .int 0])), (q1, .inl (c1, 9, .inl (fun _ => 0))), (q2, .inl (c2, 32, .inl (fun _ => 0)))]) rfl ?_
  exact g_vret Rt ((fun i => if i = 9 then a else if i = 10 then q1 else if i = 11 then q2 else 0), (fun i => if i = 10 then c1 else if i = 11 then c2 else c2)) dX1_init_20 (by decide) (by decide) rfl rfl rfl
def kb_cX2_init_0 : List Nat := [42, 183, 0, 3, 42, 16, 20, 188, 10, 181, 0, 9, 42, 16, 20, 188, 4, 181, 0, 15]
theorem ac_cX2_init_0 : AL cX2_init 0 kb_cX2_init_0 := AL.of (m := 20) (by decide +kernel)
theorem dX2_init_0 : decode cX2_init 0 = .ok (.aload_n 0, 1) := o42 ac_cX2_init_0 0 rfl
theorem dX2_init_1 : decode cX2_init 1 = .ok (.invokespecial 3, 3) := o183 ac_cX2_init_0 1 0 3 rfl
theorem dX2_init_4 : decode cX2_init 4 = .ok (.aload_n 0, 1) := o42 ac_cX2_init_0 4 rfl
theorem dX2_init_5 : decode cX2_init 5 = .ok (.bipush 20, 2) := o16p ac_cX2_init_0 5 20 rfl rfl
theorem dX2_init_7 : decode cX2_init 7 = .ok (.newarray .int, 2) := by decide +kernel
theorem dX2_init_9 : decode cX2_init 9 = .ok (.putfield 9, 3) := o181 ac_cX2_init_0 9 0 9 rfl
theorem dX2_init_12 : decode cX2_init 12 = .ok (.aload_n 0, 1) := o42 ac_cX2_init_0 12 rfl
theorem dX2_init_13 : decode cX2_init 13 = .ok (.bipush 20, 2) := o16p ac_cX2_init_0 13 20 rfl rfl
theorem dX2_init_15 : decode cX2_init 15 = .ok (.newarray .boolean, 2) := by decide +kernel
def kb_cX2_init_16 : List Nat := [4, 181, 0, 15, 177]
theorem ac_cX2_init_16 : AL cX2_init 16 kb_cX2_init_16 := AL.of (m := 5) (by decide +kernel)
theorem dX2_init_17 : decode cX2_init 17 = .ok (.putfield 15, 3) := o181 ac_cX2_init_16 1 0 15 rfl
theorem dX2_init_20 : decode cX2_init 20 = .ok (.return_, 1) := o177 ac_cX2_init_16 4 rfl
set_option maxHeartbeats 4000000 in
set_option maxRecDepth 100000 in
theorem n_2 {l : Launch} {D : va_G} {a : Nat} : KN (S := UU) l D yX2_init cX2_init 1 1 12 2 40 [.ref a] [(a, .inr (2, [.null, .null, .int 0]))] [] (fun u => mw [14, 15, 16] u.1 u.2 s0) (fun u => tcl [15, 16] u) (fun u => u.1 14 = a) := by
  refine KN.of (by decide) (Nat.le_of_ble_eq_true rfl) 0 (fun Γ C hin hG Rt => ?_)
  have hin := hin rfl
  show GW Γ 0 [some (.ref a)] [] [(a, .inr (2, [.null, .null, .int 0]))] [] 0 0
  refine g_aload_n C dX2_init_0 (i := 0) rfl rfl ?_
  refine g_objInit C oi_2 oi_w.1 oi_w.2 (by decide) (Nat.le_of_ble_eq_true rfl) dX2_init_1 ?_
  refine g_aload_n C dX2_init_4 (i := 0) rfl rfl ?_
  refine g_bipush C dX2_init_5 (v := 20) rfl ?_
  refine g_newa C (atype := .int) (ty := .int) 20 (20, .inl (fun _ => 0)) aw_int rfl (fun _ => rfl) (by decide) rfl (by decide) (by omega) (by omega) dX2_init_7 (fun q1 c1 => ?_)
  refine g_eq (ws1 := [(a, .inr (2, [.null, .null, .int 0])), (q1, .inl (c1, 20, .inl (fun _ => 0)))]) (ts1 := ([] ++ [(c1, .int)])) (kc1 := 1) (ks1 := 20) rfl rfl rfl rfl ?_
  refine g_put C hin (q0 := 0) fw_2_9 rfl rfl rfl (Nat.le_of_ble_eq_true rfl) dX2_init_9 (ws1 := [(a, .inr (2, [.ref q1, .null, .int 0])), (q1, .inl (c1, 20, .inl (fun _ => 0)))]) rfl ?_
  refine g_aload_n C dX2_init_12 (i := 0) rfl rfl ?_
  refine g_bipush C dX2_init_13 (v := 20) rfl ?_
  refine g_newa C (atype := .boolean) (ty := .boolean) 20 (20, .inl (fun _ => 0)) aw_boolean rfl (fun _ => rfl) (by decide) rfl (by decide) (by omega) (by omega) dX2_init_15 (fun q2 c2 => ?_)
  refine g_eq (ws1 := [(a, .inr (2, [.ref q1, .null, .int 0])), (q1, .inl (c1, 20, .inl (fun _ => 0))), (q2, .inl (c2, 20, .inl (fun _ => 0)))]) (ts1 := (([] ++ [(c1, .int)]) ++ [(c2, .boolean)])) (kc1 := 2) (ks1 := 40) rfl rfl rfl rfl ?_
  refine g_put C hin (q0 := 0) fw_2_15 rfl rfl rfl (Nat.le_of_ble_eq_true rfl) dX2_init_17 (ws1 := [(a, .inr (2, [.ref q1, .ref q2, .int 0])), (q1, .inl (c1, 20, .inl (fun _ => 0))), (q2, .inl (c2, 20, .inl (fun _ => 0)))]) rfl ?_
  exact g_vret Rt ((fun i => if i = 14 then a else if i = 15 then q1 else if i = 16 then q2 else 0), (fun i => if i = 15 then c1 else if i = 16 then c2 else c2)) dX2_init_20 (by decide) (by decide) rfl rfl rfl
def kb_cX7_init_0 : List Nat := [42, 183, 0, 3, 42, 17, 4, 0, 188, 10, 181, 0, 11, 42, 17, 4, 0, 188, 10, 181]
theorem ac_cX7_init_0 : AL cX7_init 0 kb_cX7_init_0 := AL.of (m := 20) (by decide +kernel)
theorem dX7_init_0 : decode cX7_init 0 = .ok (.aload_n 0, 1) := o42 ac_cX7_init_0 0 rfl
theorem dX7_init_1 : decode cX7_init 1 = .ok (.invokespecial 3, 3) := o183 ac_cX7_init_0 1 0 3 rfl
theorem dX7_init_4 : decode cX7_init 4 = .ok (.aload_n 0, 1) := o42 ac_cX7_init_0 4 rfl
theorem dX7_init_5 : decode cX7_init 5 = .ok (.sipush 1024, 3) := o17p ac_cX7_init_0 5 4 0 rfl rfl
theorem dX7_init_8 : decode cX7_init 8 = .ok (.newarray .int, 2) := by decide +kernel
theorem dX7_init_10 : decode cX7_init 10 = .ok (.putfield 11, 3) := o181 ac_cX7_init_0 10 0 11 rfl
theorem dX7_init_13 : decode cX7_init 13 = .ok (.aload_n 0, 1) := o42 ac_cX7_init_0 13 rfl
theorem dX7_init_14 : decode cX7_init 14 = .ok (.sipush 1024, 3) := o17p ac_cX7_init_0 14 4 0 rfl rfl
theorem dX7_init_17 : decode cX7_init 17 = .ok (.newarray .int, 2) := by decide +kernel
def kb_cX7_init_16 : List Nat := [0, 188, 10, 181, 0, 15, 42, 17, 4, 0, 188, 10, 181, 0, 18, 42, 16, 12, 188, 10]
theorem ac_cX7_init_16 : AL cX7_init 16 kb_cX7_init_16 := AL.of (m := 20) (by decide +kernel)
theorem dX7_init_19 : decode cX7_init 19 = .ok (.putfield 15, 3) := o181 ac_cX7_init_16 3 0 15 rfl
theorem dX7_init_22 : decode cX7_init 22 = .ok (.aload_n 0, 1) := o42 ac_cX7_init_16 6 rfl
theorem dX7_init_23 : decode cX7_init 23 = .ok (.sipush 1024, 3) := o17p ac_cX7_init_16 7 4 0 rfl rfl
theorem dX7_init_26 : decode cX7_init 26 = .ok (.newarray .int, 2) := by decide +kernel
theorem dX7_init_28 : decode cX7_init 28 = .ok (.putfield 18, 3) := o181 ac_cX7_init_16 12 0 18 rfl
theorem dX7_init_31 : decode cX7_init 31 = .ok (.aload_n 0, 1) := o42 ac_cX7_init_16 15 rfl
def kb_cX7_init_32 : List Nat := [16, 12, 188, 10, 181, 0, 21, 177]
theorem ac_cX7_init_32 : AL cX7_init 32 kb_cX7_init_32 := AL.of (m := 8) (by decide +kernel)
theorem dX7_init_32 : decode cX7_init 32 = .ok (.bipush 12, 2) := o16p ac_cX7_init_32 0 12 rfl rfl
theorem dX7_init_34 : decode cX7_init 34 = .ok (.newarray .int, 2) := by decide +kernel
theorem dX7_init_36 : decode cX7_init 36 = .ok (.putfield 21, 3) := o181 ac_cX7_init_32 4 0 21 rfl
theorem dX7_init_39 : decode cX7_init 39 = .ok (.return_, 1) := o177 ac_cX7_init_32 7 rfl
set_option maxHeartbeats 4000000 in
set_option maxRecDepth 100000 in
theorem n_6 {l : Launch} {D : va_G} {a : Nat} : KN (S := UU) l D yX7_init cX7_init 1 1 12 4 3084 [.ref a] [(a, .inr (6, [.null, .int 0, .null, .null, .null, .int 0]))] [] (fun u => mw [17, 18, 19, 20, 21] u.1 u.2 s0) (fun u => tcl [18, 19, 20, 21] u) (fun u => u.1 17 = a) := by
  refine KN.of (by decide) (Nat.le_of_ble_eq_true rfl) 0 (fun Γ C hin hG Rt => ?_)
  have hin := hin rfl
  show GW Γ 0 [some (.ref a)] [] [(a, .inr (6, [.null, .int 0, .null, .null, .null, .int 0]))] [] 0 0
  refine g_aload_n C dX7_init_0 (i := 0) rfl rfl ?_
  refine g_objInit C oi_6 oi_w.1 oi_w.2 (by decide) (Nat.le_of_ble_eq_true rfl) dX7_init_1 ?_
  refine g_aload_n C dX7_init_4 (i := 0) rfl rfl ?_
  refine g_sipush C dX7_init_5 (v := 1024) rfl ?_
  refine g_newa C (atype := .int) (ty := .int) 1024 (1024, .inl (fun _ => 0)) aw_int rfl (fun _ => rfl) (by decide) rfl (by decide) (by omega) (by omega) dX7_init_8 (fun q1 c1 => ?_)
  refine g_eq (ws1 := [(a, .inr (6, [.null, .int 0, .null, .null, .null, .int 0])), (q1, .inl (c1, 1024, .inl (fun _ => 0)))]) (ts1 := ([] ++ [(c1, .int)])) (kc1 := 1) (ks1 := 1024) rfl rfl rfl rfl ?_
  refine g_put C hin (q0 := 0) fw_6_11 rfl rfl rfl (Nat.le_of_ble_eq_true rfl) dX7_init_10 (ws1 := [(a, .inr (6, [.ref q1, .int 0, .null, .null, .null, .int 0])), (q1, .inl (c1, 1024, .inl (fun _ => 0)))]) rfl ?_
  refine g_aload_n C dX7_init_13 (i := 0) rfl rfl ?_
  refine g_sipush C dX7_init_14 (v := 1024) rfl ?_
  refine g_newa C (atype := .int) (ty := .int) 1024 (1024, .inl (fun _ => 0)) aw_int rfl (fun _ => rfl) (by decide) rfl (by decide) (by omega) (by omega) dX7_init_17 (fun q2 c2 => ?_)
  refine g_eq (ws1 := [(a, .inr (6, [.ref q1, .int 0, .null, .null, .null, .int 0])), (q1, .inl (c1, 1024, .inl (fun _ => 0))), (q2, .inl (c2, 1024, .inl (fun _ => 0)))]) (ts1 := (([] ++ [(c1, .int)]) ++ [(c2, .int)])) (kc1 := 2) (ks1 := 2048) rfl rfl rfl rfl ?_
  refine g_put C hin (q0 := 0) fw_6_15 rfl rfl rfl (Nat.le_of_ble_eq_true rfl) dX7_init_19 (ws1 := [(a, .inr (6, [.ref q1, .int 0, .ref q2, .null, .null, .int 0])), (q1, .inl (c1, 1024, .inl (fun _ => 0))), (q2, .inl (c2, 1024, .inl (fun _ => 0)))]) rfl ?_
  refine g_aload_n C dX7_init_22 (i := 0) rfl rfl ?_
  refine g_sipush C dX7_init_23 (v := 1024) rfl ?_
  refine g_newa C (atype := .int) (ty := .int) 1024 (1024, .inl (fun _ => 0)) aw_int rfl (fun _ => rfl) (by decide) rfl (by decide) (by omega) (by omega) dX7_init_26 (fun q3 c3 => ?_)
  refine g_eq (ws1 := [(a, .inr (6, [.ref q1, .int 0, .ref q2, .null, .null, .int 0])), (q1, .inl (c1, 1024, .inl (fun _ => 0))), (q2, .inl (c2, 1024, .inl (fun _ => 0))), (q3, .inl (c3, 1024, .inl (fun _ => 0)))]) (ts1 := ((([] ++ [(c1, .int)]) ++ [(c2, .int)]) ++ [(c3, .int)])) (kc1 := 3) (ks1 := 3072) rfl rfl rfl rfl ?_
  refine g_put C hin (q0 := 0) fw_6_18 rfl rfl rfl (Nat.le_of_ble_eq_true rfl) dX7_init_28 (ws1 := [(a, .inr (6, [.ref q1, .int 0, .ref q2, .ref q3, .null, .int 0])), (q1, .inl (c1, 1024, .inl (fun _ => 0))), (q2, .inl (c2, 1024, .inl (fun _ => 0))), (q3, .inl (c3, 1024, .inl (fun _ => 0)))]) rfl ?_
  refine g_aload_n C dX7_init_31 (i := 0) rfl rfl ?_
  refine g_bipush C dX7_init_32 (v := 12) rfl ?_
  refine g_newa C (atype := .int) (ty := .int) 12 (12, .inl (fun _ => 0)) aw_int rfl (fun _ => rfl) (by decide) rfl (by decide) (by omega) (by omega) dX7_init_34 (fun q4 c4 => ?_)
  refine g_eq (ws1 := [(a, .inr (6, [.ref q1, .int 0, .ref q2, .ref q3, .null, .int 0])), (q1, .inl (c1, 1024, .inl (fun _ => 0))), (q2, .inl (c2, 1024, .inl (fun _ => 0))), (q3, .inl (c3, 1024, .inl (fun _ => 0))), (q4, .inl (c4, 12, .inl (fun _ => 0)))]) (ts1 := (((([] ++ [(c1, .int)]) ++ [(c2, .int)]) ++ [(c3, .int)]) ++ [(c4, .int)])) (kc1 := 4) (ks1 := 3084) rfl rfl rfl rfl ?_
  refine g_put C hin (q0 := 0) fw_6_21 rfl rfl rfl (Nat.le_of_ble_eq_true rfl) dX7_init_36 (ws1 := [(a, .inr (6, [.ref q1, .int 0, .ref q2, .ref q3, .ref q4, .int 0])), (q1, .inl (c1, 1024, .inl (fun _ => 0))), (q2, .inl (c2, 1024, .inl (fun _ => 0))), (q3, .inl (c3, 1024, .inl (fun _ => 0))), (q4, .inl (c4, 12, .inl (fun _ => 0)))]) rfl ?_
  exact g_vret Rt ((fun i => if i = 17 then a else if i = 18 then q1 else if i = 19 then q2 else if i = 20 then q3 else if i = 21 then q4 else 0), (fun i => if i = 18 then c1 else if i = 19 then c2 else if i = 20 then c3 else if i = 21 then c4 else c4)) dX7_init_39 (by decide) (by decide) rfl rfl rfl
def kb_cX8_init_0 : List Nat := [42, 183, 0, 1, 42, 8, 188, 10, 181, 0, 9, 42, 8, 188, 10, 181, 0, 13, 177]
theorem ac_cX8_init_0 : AL cX8_init 0 kb_cX8_init_0 := AL.of (m := 19) (by decide +kernel)
theorem dX8_init_0 : decode cX8_init 0 = .ok (.aload_n 0, 1) := o42 ac_cX8_init_0 0 rfl
theorem dX8_init_1 : decode cX8_init 1 = .ok (.invokespecial 1, 3) := o183 ac_cX8_init_0 1 0 1 rfl
theorem dX8_init_4 : decode cX8_init 4 = .ok (.aload_n 0, 1) := o42 ac_cX8_init_0 4 rfl
theorem dX8_init_5 : decode cX8_init 5 = .ok (.iconst 5, 1) := o8 ac_cX8_init_0 5 rfl
theorem dX8_init_6 : decode cX8_init 6 = .ok (.newarray .int, 2) := by decide +kernel
theorem dX8_init_8 : decode cX8_init 8 = .ok (.putfield 9, 3) := o181 ac_cX8_init_0 8 0 9 rfl
theorem dX8_init_11 : decode cX8_init 11 = .ok (.aload_n 0, 1) := o42 ac_cX8_init_0 11 rfl
theorem dX8_init_12 : decode cX8_init 12 = .ok (.iconst 5, 1) := o8 ac_cX8_init_0 12 rfl
theorem dX8_init_13 : decode cX8_init 13 = .ok (.newarray .int, 2) := by decide +kernel
theorem dX8_init_15 : decode cX8_init 15 = .ok (.putfield 13, 3) := o181 ac_cX8_init_0 15 0 13 rfl
def kb_cX8_init_16 : List Nat := [0, 13, 177]
theorem ac_cX8_init_16 : AL cX8_init 16 kb_cX8_init_16 := AL.of (m := 3) (by decide +kernel)
theorem dX8_init_18 : decode cX8_init 18 = .ok (.return_, 1) := o177 ac_cX8_init_16 2 rfl
set_option maxHeartbeats 4000000 in
set_option maxRecDepth 100000 in
theorem n_7 {l : Launch} {D : va_G} {a : Nat} : KN (S := UU) l D yX8_init cX8_init 1 1 12 2 10 [.ref a] [(a, .inr (7, [.null, .null, .int 0, .int 0, .int 0]))] [] (fun u => mw [22, 23, 24] u.1 u.2 s0) (fun u => tcl [23, 24] u) (fun u => u.1 22 = a) := by
  refine KN.of (by decide) (Nat.le_of_ble_eq_true rfl) 0 (fun Γ C hin hG Rt => ?_)
  have hin := hin rfl
  show GW Γ 0 [some (.ref a)] [] [(a, .inr (7, [.null, .null, .int 0, .int 0, .int 0]))] [] 0 0
  refine g_aload_n C dX8_init_0 (i := 0) rfl rfl ?_
  refine g_objInit C oi_7 oi_w.1 oi_w.2 (by decide) (Nat.le_of_ble_eq_true rfl) dX8_init_1 ?_
  refine g_aload_n C dX8_init_4 (i := 0) rfl rfl ?_
  refine g_iconst C dX8_init_5 (v := 5) rfl ?_
  refine g_newa C (atype := .int) (ty := .int) 5 (5, .inl (fun _ => 0)) aw_int rfl (fun _ => rfl) (by decide) rfl (by decide) (by omega) (by omega) dX8_init_6 (fun q1 c1 => ?_)
  refine g_eq (ws1 := [(a, .inr (7, [.null, .null, .int 0, .int 0, .int 0])), (q1, .inl (c1, 5, .inl (fun _ => 0)))]) (ts1 := ([] ++ [(c1, .int)])) (kc1 := 1) (ks1 := 5) rfl rfl rfl rfl ?_
  refine g_put C hin (q0 := 0) fw_7_9 rfl rfl rfl (Nat.le_of_ble_eq_true rfl) dX8_init_8 (ws1 := [(a, .inr (7, [.ref q1, .null, .int 0, .int 0, .int 0])), (q1, .inl (c1, 5, .inl (fun _ => 0)))]) rfl ?_
  refine g_aload_n C dX8_init_11 (i := 0) rfl rfl ?_
  refine g_iconst C dX8_init_12 (v := 5) rfl ?_
  refine g_newa C (atype := .int) (ty := .int) 5 (5, .inl (fun _ => 0)) aw_int rfl (fun _ => rfl) (by decide) rfl (by decide) (by omega) (by omega) dX8_init_13 (fun q2 c2 => ?_)
  refine g_eq (ws1 := [(a, .inr (7, [.ref q1, .null, .int 0, .int 0, .int 0])), (q1, .inl (c1, 5, .inl (fun _ => 0))), (q2, .inl (c2, 5, .inl (fun _ => 0)))]) (ts1 := (([] ++ [(c1, .int)]) ++ [(c2, .int)])) (kc1 := 2) (ks1 := 10) rfl rfl rfl rfl ?_
  refine g_put C hin (q0 := 0) fw_7_13 rfl rfl rfl (Nat.le_of_ble_eq_true rfl) dX8_init_15 (ws1 := [(a, .inr (7, [.ref q1, .ref q2, .int 0, .int 0, .int 0])), (q1, .inl (c1, 5, .inl (fun _ => 0))), (q2, .inl (c2, 5, .inl (fun _ => 0)))]) rfl ?_
  exact g_vret Rt ((fun i => if i = 22 then a else if i = 23 then q1 else if i = 24 then q2 else 0), (fun i => if i = 23 then c1 else if i = 24 then c2 else c2)) dX8_init_18 (by decide) (by decide) rfl rfl rfl
def kb_cX9_init_0 : List Nat := [42, 183, 0, 3, 42, 17, 7, 208, 188, 10, 181, 0, 9, 42, 17, 1, 145, 188, 10, 181]
theorem ac_cX9_init_0 : AL cX9_init 0 kb_cX9_init_0 := AL.of (m := 20) (by decide +kernel)
theorem dX9_init_0 : decode cX9_init 0 = .ok (.aload_n 0, 1) := o42 ac_cX9_init_0 0 rfl
theorem dX9_init_1 : decode cX9_init 1 = .ok (.invokespecial 3, 3) := o183 ac_cX9_init_0 1 0 3 rfl
theorem dX9_init_4 : decode cX9_init 4 = .ok (.aload_n 0, 1) := o42 ac_cX9_init_0 4 rfl
theorem dX9_init_5 : decode cX9_init 5 = .ok (.sipush 2000, 3) := o17p ac_cX9_init_0 5 7 208 rfl rfl
theorem dX9_init_8 : decode cX9_init 8 = .ok (.newarray .int, 2) := by decide +kernel
theorem dX9_init_10 : decode cX9_init 10 = .ok (.putfield 9, 3) := o181 ac_cX9_init_0 10 0 9 rfl
theorem dX9_init_13 : decode cX9_init 13 = .ok (.aload_n 0, 1) := o42 ac_cX9_init_0 13 rfl
theorem dX9_init_14 : decode cX9_init 14 = .ok (.sipush 401, 3) := o17p ac_cX9_init_0 14 1 145 rfl rfl
theorem dX9_init_17 : decode cX9_init 17 = .ok (.newarray .int, 2) := by decide +kernel
def kb_cX9_init_16 : List Nat := [145, 188, 10, 181, 0, 15, 42, 17, 1, 145, 188, 10, 181, 0, 18, 42, 17, 1, 145, 188]
theorem ac_cX9_init_16 : AL cX9_init 16 kb_cX9_init_16 := AL.of (m := 20) (by decide +kernel)
theorem dX9_init_19 : decode cX9_init 19 = .ok (.putfield 15, 3) := o181 ac_cX9_init_16 3 0 15 rfl
theorem dX9_init_22 : decode cX9_init 22 = .ok (.aload_n 0, 1) := o42 ac_cX9_init_16 6 rfl
theorem dX9_init_23 : decode cX9_init 23 = .ok (.sipush 401, 3) := o17p ac_cX9_init_16 7 1 145 rfl rfl
theorem dX9_init_26 : decode cX9_init 26 = .ok (.newarray .int, 2) := by decide +kernel
theorem dX9_init_28 : decode cX9_init 28 = .ok (.putfield 18, 3) := o181 ac_cX9_init_16 12 0 18 rfl
theorem dX9_init_31 : decode cX9_init 31 = .ok (.aload_n 0, 1) := o42 ac_cX9_init_16 15 rfl
def kb_cX9_init_32 : List Nat := [17, 1, 145, 188, 11, 181, 0, 21, 177]
theorem ac_cX9_init_32 : AL cX9_init 32 kb_cX9_init_32 := AL.of (m := 9) (by decide +kernel)
theorem dX9_init_32 : decode cX9_init 32 = .ok (.sipush 401, 3) := o17p ac_cX9_init_32 0 1 145 rfl rfl
theorem dX9_init_35 : decode cX9_init 35 = .ok (.newarray .long, 2) := by decide +kernel
theorem dX9_init_37 : decode cX9_init 37 = .ok (.putfield 21, 3) := o181 ac_cX9_init_32 5 0 21 rfl
theorem dX9_init_40 : decode cX9_init 40 = .ok (.return_, 1) := o177 ac_cX9_init_32 8 rfl
set_option maxHeartbeats 4000000 in
set_option maxRecDepth 100000 in
theorem n_8 {l : Launch} {D : va_G} {a : Nat} : KN (S := UU) l D yX9_init cX9_init 1 1 12 4 3203 [.ref a] [(a, .inr (8, [.null, .int 0, .null, .null, .null, .int 0]))] [] (fun u => mw [2, 3, 4, 5, 6] u.1 u.2 s0) (fun u => tcl [3, 4, 5, 6] u) (fun u => u.1 2 = a) := by
  refine KN.of (by decide) (Nat.le_of_ble_eq_true rfl) 0 (fun Γ C hin hG Rt => ?_)
  have hin := hin rfl
  show GW Γ 0 [some (.ref a)] [] [(a, .inr (8, [.null, .int 0, .null, .null, .null, .int 0]))] [] 0 0
  refine g_aload_n C dX9_init_0 (i := 0) rfl rfl ?_
  refine g_objInit C oi_8 oi_w.1 oi_w.2 (by decide) (Nat.le_of_ble_eq_true rfl) dX9_init_1 ?_
  refine g_aload_n C dX9_init_4 (i := 0) rfl rfl ?_
  refine g_sipush C dX9_init_5 (v := 2000) rfl ?_
  refine g_newa C (atype := .int) (ty := .int) 2000 (2000, .inl (fun _ => 0)) aw_int rfl (fun _ => rfl) (by decide) rfl (by decide) (by omega) (by omega) dX9_init_8 (fun q1 c1 => ?_)
  refine g_eq (ws1 := [(a, .inr (8, [.null, .int 0, .null, .null, .null, .int 0])), (q1, .inl (c1, 2000, .inl (fun _ => 0)))]) (ts1 := ([] ++ [(c1, .int)])) (kc1 := 1) (ks1 := 2000) rfl rfl rfl rfl ?_
  refine g_put C hin (q0 := 0) fw_8_9 rfl rfl rfl (Nat.le_of_ble_eq_true rfl) dX9_init_10 (ws1 := [(a, .inr (8, [.ref q1, .int 0, .null, .null, .null, .int 0])), (q1, .inl (c1, 2000, .inl (fun _ => 0)))]) rfl ?_
  refine g_aload_n C dX9_init_13 (i := 0) rfl rfl ?_
  refine g_sipush C dX9_init_14 (v := 401) rfl ?_
  refine g_newa C (atype := .int) (ty := .int) 401 (401, .inl (fun _ => 0)) aw_int rfl (fun _ => rfl) (by decide) rfl (by decide) (by omega) (by omega) dX9_init_17 (fun q2 c2 => ?_)
  refine g_eq (ws1 := [(a, .inr (8, [.ref q1, .int 0, .null, .null, .null, .int 0])), (q1, .inl (c1, 2000, .inl (fun _ => 0))), (q2, .inl (c2, 401, .inl (fun _ => 0)))]) (ts1 := (([] ++ [(c1, .int)]) ++ [(c2, .int)])) (kc1 := 2) (ks1 := 2401) rfl rfl rfl rfl ?_
  refine g_put C hin (q0 := 0) fw_8_15 rfl rfl rfl (Nat.le_of_ble_eq_true rfl) dX9_init_19 (ws1 := [(a, .inr (8, [.ref q1, .int 0, .ref q2, .null, .null, .int 0])), (q1, .inl (c1, 2000, .inl (fun _ => 0))), (q2, .inl (c2, 401, .inl (fun _ => 0)))]) rfl ?_
  refine g_aload_n C dX9_init_22 (i := 0) rfl rfl ?_
  refine g_sipush C dX9_init_23 (v := 401) rfl ?_
  refine g_newa C (atype := .int) (ty := .int) 401 (401, .inl (fun _ => 0)) aw_int rfl (fun _ => rfl) (by decide) rfl (by decide) (by omega) (by omega) dX9_init_26 (fun q3 c3 => ?_)
  refine g_eq (ws1 := [(a, .inr (8, [.ref q1, .int 0, .ref q2, .null, .null, .int 0])), (q1, .inl (c1, 2000, .inl (fun _ => 0))), (q2, .inl (c2, 401, .inl (fun _ => 0))), (q3, .inl (c3, 401, .inl (fun _ => 0)))]) (ts1 := ((([] ++ [(c1, .int)]) ++ [(c2, .int)]) ++ [(c3, .int)])) (kc1 := 3) (ks1 := 2802) rfl rfl rfl rfl ?_
  refine g_put C hin (q0 := 0) fw_8_18 rfl rfl rfl (Nat.le_of_ble_eq_true rfl) dX9_init_28 (ws1 := [(a, .inr (8, [.ref q1, .int 0, .ref q2, .ref q3, .null, .int 0])), (q1, .inl (c1, 2000, .inl (fun _ => 0))), (q2, .inl (c2, 401, .inl (fun _ => 0))), (q3, .inl (c3, 401, .inl (fun _ => 0)))]) rfl ?_
  refine g_aload_n C dX9_init_31 (i := 0) rfl rfl ?_
  refine g_sipush C dX9_init_32 (v := 401) rfl ?_
  refine g_newa C (atype := .long) (ty := .long) 401 (401, .inr (.inl (fun _ => 0))) aw_long rfl (fun _ => rfl) (by decide) rfl (by decide) (by omega) (by omega) dX9_init_35 (fun q4 c4 => ?_)
  refine g_eq (ws1 := [(a, .inr (8, [.ref q1, .int 0, .ref q2, .ref q3, .null, .int 0])), (q1, .inl (c1, 2000, .inl (fun _ => 0))), (q2, .inl (c2, 401, .inl (fun _ => 0))), (q3, .inl (c3, 401, .inl (fun _ => 0))), (q4, .inl (c4, 401, .inr (.inl (fun _ => 0))))]) (ts1 := (((([] ++ [(c1, .int)]) ++ [(c2, .int)]) ++ [(c3, .int)]) ++ [(c4, .long)])) (kc1 := 4) (ks1 := 3203) rfl rfl rfl rfl ?_
  refine g_put C hin (q0 := 0) fw_8_21 rfl rfl rfl (Nat.le_of_ble_eq_true rfl) dX9_init_37 (ws1 := [(a, .inr (8, [.ref q1, .int 0, .ref q2, .ref q3, .ref q4, .int 0])), (q1, .inl (c1, 2000, .inl (fun _ => 0))), (q2, .inl (c2, 401, .inl (fun _ => 0))), (q3, .inl (c3, 401, .inl (fun _ => 0))), (q4, .inl (c4, 401, .inr (.inl (fun _ => 0))))]) rfl ?_
  exact g_vret Rt ((fun i => if i = 2 then a else if i = 3 then q1 else if i = 4 then q2 else if i = 5 then q3 else if i = 6 then q4 else 0), (fun i => if i = 3 then c1 else if i = 4 then c2 else if i = 5 then c3 else if i = 6 then c4 else c4)) dX9_init_40 (by decide) (by decide) rfl rfl rfl
def kb_cX4_init_0 : List Nat := [42, 183, 0, 3, 42, 187, 0, 9, 89, 183, 0, 11, 181, 0, 12, 177]
theorem ac_cX4_init_0 : AL cX4_init 0 kb_cX4_init_0 := AL.of (m := 16) (by decide +kernel)
theorem dX4_init_0 : decode cX4_init 0 = .ok (.aload_n 0, 1) := o42 ac_cX4_init_0 0 rfl
theorem dX4_init_1 : decode cX4_init 1 = .ok (.invokespecial 3, 3) := o183 ac_cX4_init_0 1 0 3 rfl
theorem dX4_init_4 : decode cX4_init 4 = .ok (.aload_n 0, 1) := o42 ac_cX4_init_0 4 rfl
theorem dX4_init_5 : decode cX4_init 5 = .ok (.new 9, 3) := o187 ac_cX4_init_0 5 0 9 rfl
theorem dX4_init_8 : decode cX4_init 8 = .ok (.dup, 1) := o89 ac_cX4_init_0 8 rfl
theorem dX4_init_9 : decode cX4_init 9 = .ok (.invokespecial 11, 3) := o183 ac_cX4_init_0 9 0 11 rfl
theorem dX4_init_12 : decode cX4_init 12 = .ok (.putfield 12, 3) := o181 ac_cX4_init_0 12 0 12 rfl
theorem dX4_init_15 : decode cX4_init 15 = .ok (.return_, 1) := o177 ac_cX4_init_0 15 rfl
set_option maxHeartbeats 4000000 in
set_option maxRecDepth 100000 in
theorem n_3 {l : Launch} {D : va_G} {a : Nat} : KN (S := UU) l D yX4_init cX4_init 1 2 32 3 45 [.ref a] [(a, .inr (3, [.null]))] [] (fun u => mw [8, 9, 10, 11] u.1 u.2 s0) (fun u => tcl [10, 11] u) (fun u => u.1 8 = a) := by
  refine KN.of (by decide) (Nat.le_of_ble_eq_true rfl) 0 (fun Γ C hin hG Rt => ?_)
  have hin := hin rfl
  show GW Γ 0 [some (.ref a)] [] [(a, .inr (3, [.null]))] [] 0 0
  refine g_aload_n C dX4_init_0 (i := 0) rfl rfl ?_
  refine g_objInit C oi_3 oi_w.1 oi_w.2 (by decide) (Nat.le_of_ble_eq_true rfl) dX4_init_1 ?_
  refine g_aload_n C dX4_init_4 (i := 0) rfl rfl ?_
  refine g_new C nc_3_9 (by omega) (by omega) dX4_init_5 (fun q1 => ?_)
  refine g_dup C dX4_init_8 rfl ?_
  refine g_initN C hG (X := [(a, .inr (3, [.null]))]) (n_1) mn_1 (host := "StateJuggler") (by decide +kernel) rfl (Nat.le_of_ble_eq_true rfl) (Nat.le_of_ble_eq_true rfl) (by omega) (by omega) (Nat.le_of_ble_eq_true rfl) dX4_init_9 (fun u2 huu2 => ?_)
  subst huu2
  refine g_eq (ws1 := ((a, .inr (3, [.null])) :: (mw [9, 10, 11] u2.1 u2.2 s0))) (ts1 := ([] ++ tcl [10, 11] u2)) (kc1 := 3) (ks1 := 45) rfl rfl rfl rfl ?_
  refine g_put C hin (q0 := 0) fw_3_12 rfl rfl rfl (Nat.le_of_ble_eq_true rfl) dX4_init_12 (ws1 := ((a, .inr (3, [.ref (u2.1 9)])) :: (mw [9, 10, 11] u2.1 u2.2 s0))) rfl ?_
  exact g_vret Rt ((fun i => if i = 8 then a else u2.1 i), (fun i => u2.2 i)) dX4_init_15 (by decide) (by decide) rfl rfl rfl
def kb_cX6_init_0 : List Nat := [42, 183, 0, 3, 42, 187, 0, 9, 89, 183, 0, 11, 181, 0, 12, 42, 2, 181, 0, 18]
theorem ac_cX6_init_0 : AL cX6_init 0 kb_cX6_init_0 := AL.of (m := 20) (by decide +kernel)
theorem dX6_init_0 : decode cX6_init 0 = .ok (.aload_n 0, 1) := o42 ac_cX6_init_0 0 rfl
theorem dX6_init_1 : decode cX6_init 1 = .ok (.invokespecial 3, 3) := o183 ac_cX6_init_0 1 0 3 rfl
theorem dX6_init_4 : decode cX6_init 4 = .ok (.aload_n 0, 1) := o42 ac_cX6_init_0 4 rfl
theorem dX6_init_5 : decode cX6_init 5 = .ok (.new 9, 3) := o187 ac_cX6_init_0 5 0 9 rfl
theorem dX6_init_8 : decode cX6_init 8 = .ok (.dup, 1) := o89 ac_cX6_init_0 8 rfl
theorem dX6_init_9 : decode cX6_init 9 = .ok (.invokespecial 11, 3) := o183 ac_cX6_init_0 9 0 11 rfl
theorem dX6_init_12 : decode cX6_init 12 = .ok (.putfield 12, 3) := o181 ac_cX6_init_0 12 0 12 rfl
theorem dX6_init_15 : decode cX6_init 15 = .ok (.aload_n 0, 1) := o42 ac_cX6_init_0 15 rfl
def kb_cX6_init_16 : List Nat := [2, 181, 0, 18, 42, 16, 12, 188, 11, 181, 0, 22, 177]
theorem ac_cX6_init_16 : AL cX6_init 16 kb_cX6_init_16 := AL.of (m := 13) (by decide +kernel)
theorem dX6_init_16 : decode cX6_init 16 = .ok (.iconst (-1), 1) := o2 ac_cX6_init_16 0 rfl
theorem dX6_init_17 : decode cX6_init 17 = .ok (.putfield 18, 3) := o181 ac_cX6_init_16 1 0 18 rfl
theorem dX6_init_20 : decode cX6_init 20 = .ok (.aload_n 0, 1) := o42 ac_cX6_init_16 4 rfl
theorem dX6_init_21 : decode cX6_init 21 = .ok (.bipush 12, 2) := o16p ac_cX6_init_16 5 12 rfl rfl
theorem dX6_init_23 : decode cX6_init 23 = .ok (.newarray .long, 2) := by decide +kernel
theorem dX6_init_25 : decode cX6_init 25 = .ok (.putfield 22, 3) := o181 ac_cX6_init_16 9 0 22 rfl
theorem dX6_init_28 : decode cX6_init 28 = .ok (.return_, 1) := o177 ac_cX6_init_16 12 rfl
set_option maxHeartbeats 4000000 in
set_option maxRecDepth 100000 in
theorem n_5 {l : Launch} {D : va_G} {a : Nat} : KN (S := UU) l D yX6_init cX6_init 1 2 32 6 3221 [.ref a] [(a, .inr (5, [.null, .int 0, .int 0, .int 0, .int 0, .int 0, .int 0, .int 0, .null, .int 0]))] [] (fun u => mw [1, 2, 3, 4, 5, 6, 7] u.1 u.2 s0) (fun u => tcl [3, 4, 5, 6, 7] u) (fun u => u.1 1 = a) := by
  refine KN.of (by decide) (Nat.le_of_ble_eq_true rfl) 0 (fun Γ C hin hG Rt => ?_)
  have hin := hin rfl
  show GW Γ 0 [some (.ref a)] [] [(a, .inr (5, [.null, .int 0, .int 0, .int 0, .int 0, .int 0, .int 0, .int 0, .null, .int 0]))] [] 0 0
  refine g_aload_n C dX6_init_0 (i := 0) rfl rfl ?_
  refine g_objInit C oi_5 oi_w.1 oi_w.2 (by decide) (Nat.le_of_ble_eq_true rfl) dX6_init_1 ?_
  refine g_aload_n C dX6_init_4 (i := 0) rfl rfl ?_
  refine g_new C nc_5_9 (by omega) (by omega) dX6_init_5 (fun q1 => ?_)
  refine g_dup C dX6_init_8 rfl ?_
  refine g_initN C hG (X := [(a, .inr (5, [.null, .int 0, .int 0, .int 0, .int 0, .int 0, .int 0, .int 0, .null, .int 0]))]) (n_8) mn_8 (host := "StateJuggler") (by decide +kernel) rfl (Nat.le_of_ble_eq_true rfl) (Nat.le_of_ble_eq_true rfl) (by omega) (by omega) (Nat.le_of_ble_eq_true rfl) dX6_init_9 (fun u2 huu2 => ?_)
  subst huu2
  refine g_eq (ws1 := ((a, .inr (5, [.null, .int 0, .int 0, .int 0, .int 0, .int 0, .int 0, .int 0, .null, .int 0])) :: (mw [2, 3, 4, 5, 6] u2.1 u2.2 s0))) (ts1 := ([] ++ tcl [3, 4, 5, 6] u2)) (kc1 := 5) (ks1 := 3209) rfl rfl rfl rfl ?_
  refine g_put C hin (q0 := 0) fw_5_12 rfl rfl rfl (Nat.le_of_ble_eq_true rfl) dX6_init_12 (ws1 := ((a, .inr (5, [.ref (u2.1 2), .int 0, .int 0, .int 0, .int 0, .int 0, .int 0, .int 0, .null, .int 0])) :: (mw [2, 3, 4, 5, 6] u2.1 u2.2 s0))) rfl ?_
  refine g_aload_n C dX6_init_15 (i := 0) rfl rfl ?_
  refine g_iconst C dX6_init_16 (v := (-1)) rfl ?_
  refine g_put C hin (q0 := 0) fw_5_18 rfl rfl rfl (Nat.le_of_ble_eq_true rfl) dX6_init_17 (ws1 := ((a, .inr (5, [.ref (u2.1 2), .int (-1), .int 0, .int 0, .int 0, .int 0, .int 0, .int 0, .null, .int 0])) :: (mw [2, 3, 4, 5, 6] u2.1 u2.2 s0))) rfl ?_
  refine g_aload_n C dX6_init_20 (i := 0) rfl rfl ?_
  refine g_bipush C dX6_init_21 (v := 12) rfl ?_
  refine g_newa C (atype := .long) (ty := .long) 12 (12, .inr (.inl (fun _ => 0))) aw_long rfl (fun _ => rfl) (by decide) rfl (by decide) (by omega) (by omega) dX6_init_23 (fun q3 c3 => ?_)
  refine g_eq (ws1 := ((a, .inr (5, [.ref (u2.1 2), .int (-1), .int 0, .int 0, .int 0, .int 0, .int 0, .int 0, .null, .int 0])) :: ((mw [2, 3, 4, 5, 6] u2.1 u2.2 s0) ++ [(q3, .inl (c3, 12, .inr (.inl (fun _ => 0))))]))) (ts1 := (([] ++ tcl [3, 4, 5, 6] u2) ++ [(c3, .long)])) (kc1 := 6) (ks1 := 3221) rfl rfl rfl rfl ?_
  refine g_put C hin (q0 := 0) fw_5_22 rfl rfl rfl (Nat.le_of_ble_eq_true rfl) dX6_init_25 (ws1 := ((a, .inr (5, [.ref (u2.1 2), .int (-1), .int 0, .int 0, .int 0, .int 0, .int 0, .int 0, .ref q3, .int 0])) :: ((mw [2, 3, 4, 5, 6] u2.1 u2.2 s0) ++ [(q3, .inl (c3, 12, .inr (.inl (fun _ => 0))))]))) rfl ?_
  exact g_vret Rt ((fun i => if i = 1 then a else if i = 7 then q3 else u2.1 i), (fun i => if i = 7 then c3 else u2.2 i)) dX6_init_28 (by decide) (by decide) rfl rfl rfl

theorem cons4 {α : Type} {a b c d a1 b1 c1 d1 : α} (h1 : a = a1) (h2 : b = b1) (h3 : c = c1) (h4 : d = d1) : [a, b, c, d] = [a1, b1, c1, d1] := by rw [h1, h2, h3, h4]
theorem GE.ao {Γ : GQ} (h : GE Γ) : match Γ with | (p, l, e, R, s, m, args, below, meth, c, Q, D, A, H0, nL) => va_AO RX0 s := by
  obtain ⟨p, l, e, R, s, m, args, below, meth, c, Q, D, A, H0, nL⟩ := Γ
  exact h.2.1
def ringN (n : Nat) : List Nat := (List.range n).map (76 + ·)
theorem K_mem {D : va_G} {t1 t2 : List (ClassId × FieldType)} {U : State} (h : va_K D vwCl t1 U) (hm : ∀ q ∈ t2, q ∈ t1) : va_K D vwCl t2 U := ⟨h.1, fun k q hk => by
  obtain ⟨i, hi⟩ := List.getElem?_of_mem (hm q (List.mem_of_getElem? hk))
  exact h.2 i q hi⟩
theorem kd_ring : ∀ k, k < 160 → kd (76 + k) = if k % 4 = 0 then 0 else 20 := by decide +kernel
theorem al_ring : ∀ k, k < 160 → k % 4 ≠ 0 → al (76 + k) = 7 := by decide +kernel
theorem s0_air {i : Nat} (h : kd i = 0) : s0I i = s0I 60 := by
  funext k
  have h2 : kd 60 = 0 := by decide
  unfold s0I
  rw [h, h2]
  rfl
theorem s0_arr {i : Nat} (h : kd i = 20) (h1 : 56 ≤ i) (h2 : i < 236) : s0I i = fun _ => 0 := by
  funext k
  unfold s0I
  rw [h]
  show (if i = 41 ∨ i = 54 then _ else if i = 42 ∨ i = 55 then _ else if i = 252 then _ else if i = 266 ∨ i = 267 then _ else (0 : Int32)) = 0
  rw [if_neg (by omega), if_neg (by omega), if_neg (by omega), if_neg (by omega)]
/-- the ring's addresses and array classes with one Air more -/
def rgU (j : Nat) (u u2 : UU) : UU := (fun i => if i < 76 + 4 * j then u.1 i else u2.1 (60 + (i - (76 + 4 * j))), fun i => if i < 76 + 4 * j then u.2 i else u2.2 (60 + (i - (76 + 4 * j))))
theorem ringN_step (j : Nat) : ringN (4 * (j + 1)) = ringN (4 * j) ++ [76 + 4 * j, 76 + 4 * j + 1, 76 + 4 * j + 2, 76 + 4 * j + 3] := by
  unfold ringN
  rw [show 4 * (j + 1) = 4 * j + 1 + 1 + 1 + 1 by omega, List.range_succ, List.range_succ, List.range_succ, List.range_succ]
  simp [List.map_append, Nat.add_assoc]
theorem rg_cell {u v : UU} {i : Nat} (hk : kd i = 0 ∨ kd i = 20) (h0 : v.1 i = u.1 i) (h1 : kd i = 0 → v.1 (i + 1) = u.1 (i + 1) ∧ v.1 (i + 2) = u.1 (i + 2) ∧ v.1 (i + 3) = u.1 (i + 3)) (h2 : v.2 i = u.2 i) : (v.1 i, ceK v.1 v.2 (kd i) i (s0.1 i) (s0.2.1 i) s0.2.2) = (u.1 i, ceK u.1 u.2 (kd i) i (s0.1 i) (s0.2.1 i) s0.2.2) := by
  rcases hk with h | h
  · obtain ⟨a, b, c⟩ := h1 h
    rw [h, h0]
    show (_, (.inr (0, [_, .ref (v.1 (i + 1)), .ref (v.1 (i + 2)), .ref (v.1 (i + 3)), _, _, _, _, _, _, _, _]) : va_E)) = _
    rw [a, b, c]
    try rfl
  · rw [h, h0]
    show (_, (.inl (v.2 i, _, _) : va_E)) = _
    rw [h2]
    try rfl
theorem rg_new {v u2 : UU} {i b : Nat} (hb : b < 4) (hi1 : 76 ≤ i) (hi2 : i + 3 < 236 ∨ kd i = 20 ∧ i < 236) (hk : kd i = kd (60 + b)) (ha : kd i = 20 → al i = 7) (h0 : v.1 i = u2.1 (60 + b)) (h1 : b = 0 → v.1 (i + 1) = u2.1 61 ∧ v.1 (i + 2) = u2.1 62 ∧ v.1 (i + 3) = u2.1 63) (h2 : v.2 i = u2.2 (60 + b)) : (v.1 i, ceK v.1 v.2 (kd i) i (s0.1 i) (s0.2.1 i) s0.2.2) = (u2.1 (60 + b), ceK u2.1 u2.2 (kd (60 + b)) (60 + b) (s0.1 (60 + b)) (s0.2.1 (60 + b)) s0.2.2) := by
  have hl : ∀ q, q < 236 → s0.2.1 q = fun _ => 0 := fun q hq => by
    funext k
    show (if q = 243 then _ else (0 : Int64)) = 0
    rw [if_neg (by omega)]
  have hi3 : i < 236 := by omega
  rw [h0, hl i hi3, hl (60 + b) (by omega)]
  have hc : b = 0 ∨ b = 1 ∨ b = 2 ∨ b = 3 := by omega
  have key : ∀ q : Nat, 60 < q → q < 64 → kd i = 20 → v.2 i = u2.2 q → kd q = 20 → ceK v.1 v.2 (kd i) i (s0.1 i) (fun _ => 0) s0.2.2 = ceK u2.1 u2.2 (kd q) q (s0.1 q) (fun _ => 0) s0.2.2 := by
    intro q q1 q2 hki hv hkq
    have e1 : s0.1 i = fun _ => 0 := s0_arr hki (by omega) hi3
    have e2 : s0.1 q = fun _ => 0 := s0_arr hkq (by omega) (by omega)
    have e3 : al q = 7 := by
      rcases (show q = 61 ∨ q = 62 ∨ q = 63 by omega) with rfl | rfl | rfl <;> decide
    rw [hki, hkq, e1, e2]
    show (.inl (v.2 i, al i, _) : va_E) = .inl (u2.2 q, al q, _)
    rw [hv, ha hki, e3]
    try rfl
  rcases hc with rfl | rfl | rfl | rfl
  · obtain ⟨a, b, c⟩ := h1 rfl
    have hk0 : kd i = 0 := by rw [hk]; decide
    have e1 : s0.1 i = s0.1 60 := s0_air hk0
    rw [hk0, e1]
    show (_, (.inr (0, [_, .ref (v.1 (i + 1)), .ref (v.1 (i + 2)), .ref (v.1 (i + 3)), _, _, _, _, _, _, _, _]) : va_E)) = _
    rw [a, b, c]
    try rfl
  · rw [key 61 (by omega) (by omega) (by rw [hk]; decide) h2 (by decide)]
  · rw [key 62 (by omega) (by omega) (by rw [hk]; decide) h2 (by decide)]
  · rw [key 63 (by omega) (by omega) (by rw [hk]; decide) h2 (by decide)]
theorem ring_step {j : Nat} (hj : j < 40) (u u2 : UU) : mw (ringN (4 * j)) u.1 u.2 s0 ++ mw [60, 61, 62, 63] u2.1 u2.2 s0 = mw (ringN (4 * (j + 1))) (rgU j u u2).1 (rgU j u u2).2 s0 := by
  have lo1 : ∀ i, i < 76 + 4 * j → (rgU j u u2).1 i = u.1 i := fun i h => if_pos h
  have lo2 : ∀ i, i < 76 + 4 * j → (rgU j u u2).2 i = u.2 i := fun i h => if_pos h
  have hi1 : ∀ b, (rgU j u u2).1 (76 + 4 * j + b) = u2.1 (60 + b) := fun b => (if_neg (by omega)).trans (congrArg u2.1 (by omega))
  have hi2 : ∀ b, (rgU j u u2).2 (76 + 4 * j + b) = u2.2 (60 + b) := fun b => (if_neg (by omega)).trans (congrArg u2.2 (by omega))
  have hkd : ∀ b, b < 4 → kd (76 + 4 * j + b) = kd (60 + b) := fun b hb => by
    rw [show 76 + 4 * j + b = 76 + (4 * j + b) by omega, kd_ring _ (by omega)]
    rcases (show b = 0 ∨ b = 1 ∨ b = 2 ∨ b = 3 by omega) with rfl | rfl | rfl | rfl
    · rw [if_pos (by omega)]; decide
    · rw [if_neg (by omega)]; decide
    · rw [if_neg (by omega)]; decide
    · rw [if_neg (by omega)]; decide
  have hal : ∀ b, b < 4 → kd (76 + 4 * j + b) = 20 → al (76 + 4 * j + b) = 7 := fun b hb h => by
    rw [show 76 + 4 * j + b = 76 + (4 * j + b) by omega] at h ⊢
    refine al_ring _ (by omega) (fun e => ?_)
    rw [kd_ring _ (by omega), if_pos e] at h
    cases h
  rw [ringN_step]
  unfold mw
  rw [List.map_append]
  congr 1
  · unfold ringN
    rw [List.map_map, List.map_map]
    apply List.map_congr_left
    intro k hk
    have hk := List.mem_range.mp hk
    have hkk := kd_ring k (by omega)
    refine (rg_cell (u := u) (v := rgU j u u2) (i := 76 + k) ?_ (lo1 _ (by omega)) (fun h => ?_) (lo2 _ (by omega))).symm
    · rw [hkk]
      split
      · exact Or.inl rfl
      · exact Or.inr rfl
    · rw [hkk] at h
      have : k % 4 = 0 := by
        by_cases e : k % 4 = 0
        · exact e
        · rw [if_neg e] at h; cases h
      exact ⟨lo1 _ (by omega), lo1 _ (by omega), lo1 _ (by omega)⟩
  · have q := fun (b : Nat) (hb : b < 4) => rg_new (v := rgU j u u2) (u2 := u2) (i := 76 + 4 * j + b) (b := b) hb (by omega) (by
      by_cases e : b = 0
      · subst e; exact Or.inl (by omega)
      · refine Or.inr ⟨?_, by omega⟩
        rw [hkd b hb]
        rcases (show b = 1 ∨ b = 2 ∨ b = 3 by omega) with rfl | rfl | rfl <;> decide) (hkd b hb) (hal b hb) (hi1 b) (fun e => by subst e; exact ⟨hi1 1, hi1 2, hi1 3⟩) (hi2 b)
    exact cons4 (q 0 (by decide)).symm (q 1 (by decide)).symm (q 2 (by decide)).symm (q 3 (by decide)).symm
def kb_cX5_init_0 : List Nat := [42, 183, 0, 3, 42, 16, 40, 189, 0, 9, 181, 0, 11, 3, 60, 27, 16, 40, 162, 0]
theorem ac_cX5_init_0 : AL cX5_init 0 kb_cX5_init_0 := AL.of (m := 20) (by decide +kernel)
theorem dX5_init_0 : decode cX5_init 0 = .ok (.aload_n 0, 1) := o42 ac_cX5_init_0 0 rfl
theorem dX5_init_1 : decode cX5_init 1 = .ok (.invokespecial 3, 3) := o183 ac_cX5_init_0 1 0 3 rfl
theorem dX5_init_4 : decode cX5_init 4 = .ok (.aload_n 0, 1) := o42 ac_cX5_init_0 4 rfl
theorem dX5_init_5 : decode cX5_init 5 = .ok (.bipush 40, 2) := o16p ac_cX5_init_0 5 40 rfl rfl
theorem dX5_init_7 : decode cX5_init 7 = .ok (.anewarray 9, 3) := o189 ac_cX5_init_0 7 0 9 rfl
theorem dX5_init_10 : decode cX5_init 10 = .ok (.putfield 11, 3) := o181 ac_cX5_init_0 10 0 11 rfl
theorem dX5_init_13 : decode cX5_init 13 = .ok (.iconst 0, 1) := o3 ac_cX5_init_0 13 rfl
theorem dX5_init_14 : decode cX5_init 14 = .ok (.istore_n 1, 1) := o60 ac_cX5_init_0 14 rfl
theorem dX5_init_15 : decode cX5_init 15 = .ok (.iload_n 1, 1) := o27 ac_cX5_init_0 15 rfl
def kb_cX5_init_16 : List Nat := [16, 40, 162, 0, 22, 42, 180, 0, 11, 27, 187, 0, 9, 89, 183, 0, 17, 83, 132, 1]
theorem ac_cX5_init_16 : AL cX5_init 16 kb_cX5_init_16 := AL.of (m := 20) (by decide +kernel)
theorem dX5_init_16 : decode cX5_init 16 = .ok (.bipush 40, 2) := o16p ac_cX5_init_16 0 40 rfl rfl
theorem dX5_init_18 : decode cX5_init 18 = .ok (.if_icmp .ge 22, 3) := o162p ac_cX5_init_16 2 0 22 rfl rfl
theorem dX5_init_21 : decode cX5_init 21 = .ok (.aload_n 0, 1) := o42 ac_cX5_init_16 5 rfl
theorem dX5_init_22 : decode cX5_init 22 = .ok (.getfield 11, 3) := o180 ac_cX5_init_16 6 0 11 rfl
theorem dX5_init_25 : decode cX5_init 25 = .ok (.iload_n 1, 1) := o27 ac_cX5_init_16 9 rfl
theorem dX5_init_26 : decode cX5_init 26 = .ok (.new 9, 3) := o187 ac_cX5_init_16 10 0 9 rfl
theorem dX5_init_29 : decode cX5_init 29 = .ok (.dup, 1) := o89 ac_cX5_init_16 13 rfl
theorem dX5_init_30 : decode cX5_init 30 = .ok (.invokespecial 17, 3) := o183 ac_cX5_init_16 14 0 17 rfl
def kb_cX5_init_32 : List Nat := [17, 83, 132, 1, 1, 167, 255, 234, 177]
theorem ac_cX5_init_32 : AL cX5_init 32 kb_cX5_init_32 := AL.of (m := 9) (by decide +kernel)
theorem dX5_init_33 : decode cX5_init 33 = .ok (.aastore, 1) := o83 ac_cX5_init_32 1 rfl
theorem dX5_init_34 : decode cX5_init 34 = .ok (.iinc 1 1, 3) := o132p ac_cX5_init_32 2 1 1 rfl rfl
theorem dX5_init_37 : decode cX5_init 37 = .ok (.goto (-22), 3) := o167n ac_cX5_init_32 5 255 234 21 rfl rfl rfl
theorem dX5_init_40 : decode cX5_init 40 = .ok (.return_, 1) := o177 ac_cX5_init_32 8 rfl
theorem ring_in {j : Nat} {u u2 : UU} {q : Nat} (hj : j < 40) (hq : u2.1 60 = q) : va_up (fun i => if i < j then some (u.1 (76 + 4 * i)) else none) j (some q) = fun i => if i < j + 1 then some ((rgU j u u2).1 (76 + 4 * i)) else none := by
  funext i
  unfold va_up
  by_cases e : i = j
  · subst e
    rw [if_pos rfl, if_pos (by omega)]
    show some q = some (if 76 + 4 * i < 76 + 4 * i then _ else u2.1 (60 + (76 + 4 * i - (76 + 4 * i))))
    rw [if_neg (by omega), Nat.sub_self, ← hq]
  · rw [if_neg e]
    show (if i < j then some (u.1 (76 + 4 * i)) else none) = _
    by_cases h : i < j
    · rw [if_pos h, if_pos (by omega)]
      show _ = some (if 76 + 4 * i < 76 + 4 * j then _ else _)
      rw [if_pos (by omega)]
    · rw [if_neg h, if_neg (by omega)]
theorem ring_end {a q1 : Nat} {c1 : ClassId} {u : UU} : mw (12 :: 13 :: ringN 160) (fun i => if i = 12 then a else if i = 13 then q1 else u.1 i) (fun i => if i = 13 then c1 else u.2 i) s0 = (a, .inr (4, [.ref q1, .int 0, .int 0])) :: (q1, .inl (c1, 40, .inr (.inr (.inr (.inr (fun i => if i < 40 then some (u.1 (76 + 4 * i)) else none)))))) :: mw (ringN (4 * 40)) u.1 u.2 s0 := by
  have e1 : ∀ k, (fun i => if i = 12 then a else if i = 13 then q1 else u.1 i) (76 + k) = u.1 (76 + k) := fun k => by
    show (if 76 + k = 12 then _ else if 76 + k = 13 then _ else _) = _
    rw [if_neg (by omega), if_neg (by omega)]
  have e2 : (fun i => if i < 40 then some ((fun i => if i = 12 then a else if i = 13 then q1 else u.1 i) (76 + 4 * i)) else none) = fun i => if i < 40 then some (u.1 (76 + 4 * i)) else none := by
    funext i
    rw [e1]
  have e3 : mw (ringN 160) (fun i => if i = 12 then a else if i = 13 then q1 else u.1 i) (fun i => if i = 13 then c1 else u.2 i) s0 = mw (ringN 160) u.1 u.2 s0 := by
    unfold mw ringN
    rw [List.map_map, List.map_map]
    apply List.map_congr_left
    intro k hk
    have hk := List.mem_range.mp hk
    have hkk := kd_ring k (by omega)
    refine rg_cell (u := u) (v := (fun i => if i = 12 then a else if i = 13 then q1 else u.1 i, fun i => if i = 13 then c1 else u.2 i)) (i := 76 + k) ?_ (e1 k) (fun _ => ⟨e1 (k + 1), e1 (k + 2), e1 (k + 3)⟩) (if_neg (by omega))
    rw [hkk]
    split
    · exact Or.inl rfl
    · exact Or.inr rfl
  rw [← e3, ← e2]
  rfl
set_option maxHeartbeats 4000000 in
set_option maxRecDepth 100000 in
theorem n_4 {l : Launch} {D : va_G} {a : Nat} : KN (S := UU) l D yX5_init cX5_init 2 2 32 161 1360 [.ref a] [(a, .inr (4, [.null, .int 0, .int 0]))] [] (fun u => mw (12 :: 13 :: ringN 160) u.1 u.2 s0) (fun u => tcl (13 :: (ringN 160).filter (fun i => decide (12 ≤ kd i))) u) (fun u => u.1 12 = a) := by
  refine KN.of (by decide) (Nat.le_of_ble_eq_true rfl) 1 (fun Γ C hin hG Rt => ?_)
  have hin := hin rfl
  show GW Γ 0 [some (.ref a), none] [] [(a, .inr (4, [.null, .int 0, .int 0]))] [] 0 0
  refine g_aload_n C dX5_init_0 (i := 0) rfl rfl ?_
  refine g_objInit C oi_4 oi_w.1 oi_w.2 (by decide) (Nat.le_of_ble_eq_true rfl) dX5_init_1 ?_
  refine g_aload_n C dX5_init_4 (i := 0) rfl rfl ?_
  refine g_bipush C dX5_init_5 (v := 40) rfl ?_
  refine g_newq C (Cn := RX0) 40 (gw1 137 rfl rfl) hG.ao (by decide) rfl (by decide) (by omega) (by omega) dX5_init_7 (fun q1 c1 => ?_)
  refine g_eq (ws1 := [(a, .inr (4, [.null, .int 0, .int 0])), (q1, .inl (c1, 40, .inr (.inr (.inr (.inr (fun _ => none))))))]) (ts1 := ([] ++ [(c1, .object RX0)])) (kc1 := 1) (ks1 := 40) rfl rfl rfl rfl ?_
  refine g_put C hin (q0 := 0) fw_4_11 rfl rfl rfl (Nat.le_of_ble_eq_true rfl) dX5_init_10 (ws1 := [(a, .inr (4, [.ref q1, .int 0, .int 0])), (q1, .inl (c1, 40, .inr (.inr (.inr (.inr (fun _ => none))))))]) rfl ?_
  refine g_iconst C dX5_init_13 (v := 0) rfl ?_
  refine g_istore_n C dX5_init_14 (i := 1) rfl (by decide) rfl (vs1 := [some (.ref a), some (.int 0)]) rfl ?_
  have loop : ∀ (d j : Nat) (u : UU) (tt : List (ClassId × FieldType)), j + d = 40 → tt[0]? = some (c1, .object RX0) → (∀ i, i < 4 * j → 12 ≤ kd (76 + i) → (u.2 (76 + i), aty (kd (76 + i))) ∈ tt) → GW Γ 15 [some (.ref a), some (.int (nI j))] [] ((a, .inr (4, [.ref q1, .int 0, .int 0])) :: (q1, .inl (c1, 40, .inr (.inr (.inr (.inr (fun i => if i < j then some (u.1 (76 + 4 * i)) else none)))))) :: mw (ringN (4 * j)) u.1 u.2 s0) tt (1 + 4 * j) (40 + 33 * j) := by
    intro d
    induction d with
    | zero =>
      intro j u tt hj ht hT
      obtain rfl : j = 40 := by omega
      refine g_iload_n C dX5_init_15 (i := 1) rfl rfl ?_
      refine g_bipush C dX5_init_16 (v := 40) rfl ?_
      refine g_ic_ge C dX5_init_18 (tgt := 40) rfl (fun _ => ?_) (fun h => absurd (by decide) h)
      refine g_by (ws1 := mw (12 :: 13 :: ringN 160) (fun i => if i = 12 then a else if i = 13 then q1 else u.1 i) (fun i => if i = 13 then c1 else u.2 i) s0) (ts1 := tcl (13 :: (ringN 160).filter (fun i => decide (12 ≤ kd i))) (fun i => if i = 12 then a else if i = 13 then q1 else u.1 i, fun i => if i = 13 then c1 else u.2 i)) ?_ ?_ ?_ ?_
      · intro D H h; rw [ring_end]; exact h
      · intro A h; rw [ring_end]; exact h
      · intro D s h
        refine K_mem h (fun q hq => ?_)
        rcases List.mem_cons.mp hq with rfl | hq
        · exact List.mem_of_getElem? ht
        · obtain ⟨i, hi, rfl⟩ := List.mem_map.mp hq
          obtain ⟨hi, hk⟩ := List.mem_filter.mp hi
          obtain ⟨k, hk2, rfl⟩ := List.mem_map.mp hi
          have := hT k (by have := List.mem_range.mp hk2; omega) (by simpa using hk)
          have e9 : (if 76 + k = 13 then c1 else u.2 (76 + k)) = u.2 (76 + k) := if_neg (by omega)
          show ((if 76 + k = 13 then c1 else u.2 (76 + k)), _) ∈ tt
          rw [e9]
          exact this
      · exact g_vret Rt (fun i => if i = 12 then a else if i = 13 then q1 else u.1 i, fun i => if i = 13 then c1 else u.2 i) dX5_init_40 (by omega) (by omega) rfl rfl rfl
    | succ d ih =>
      intro j u tt hj ht hT
      refine g_iload_n C dX5_init_15 (i := 1) rfl rfl ?_
      refine g_bipush C dX5_init_16 (v := 40) rfl ?_
      refine g_ic_ge C dX5_init_18 (tgt := 40) rfl (fun h => absurd h (nI_ge (a := j) (b := 40) (by omega) (by omega))) (fun _ => ?_)
      refine g_aload_n C dX5_init_21 (i := 0) rfl rfl ?_
      refine g_get C fl_RX5_11 (q0 := 0) (v := .ref q1) rfl rfl dX5_init_22 ?_
      refine g_iload_n C dX5_init_25 (i := 1) rfl rfl ?_
      refine g_new C nc_4_9 (by omega) (by omega) dX5_init_26 (fun q2 => ?_)
      refine g_dup C dX5_init_29 rfl ?_
      refine g_initN C hG (X := ((a, .inr (4, [.ref q1, .int 0, .int 0])) :: (q1, .inl (c1, 40, .inr (.inr (.inr (.inr (fun i => if i < j then some (u.1 (76 + 4 * i)) else none)))))) :: mw (ringN (4 * j)) u.1 u.2 s0)) n_0 mn_0 (host := "StateJuggler") (by decide +kernel) rfl (Nat.le_of_ble_eq_true rfl) (Nat.le_of_ble_eq_true rfl) (by omega) (by omega) (Nat.le_of_ble_eq_true rfl) dX5_init_30 (fun u2 hu2 => ?_)
      subst hu2
      have hmem : (u2.1 60, (.inr (0, fsK u2.1 0 60 (s0.1 60) s0.2.2) : va_E)) ∈ ((a, (.inr (4, [.ref q1, .int 0, .int 0]) : va_E)) :: (q1, .inl (c1, 40, .inr (.inr (.inr (.inr (fun i => if i < j then some (u.1 (76 + 4 * i)) else none)))))) :: mw (ringN (4 * j)) u.1 u.2 s0) ++ mw [60, 61, 62, 63] u2.1 u2.2 s0 := List.mem_append.mpr (Or.inr (List.mem_of_getElem? (i := 0) rfl))
      obtain ⟨qk, hqk⟩ := List.getElem?_of_mem hmem
      refine g_astq C (q0 := 1) (t0 := 0) (qk := qk) (ci := 0) (r := (RX0, TX0, 12)) j rfl (by rw [List.getElem?_append_left (List.getElem?_eq_some_iff.mp ht).1]; exact ht) hqk rfl (nI_pos (by omega)) (nI_clamp (by omega)) (by omega) dX5_init_33 (ws1 := (a, .inr (4, [.ref q1, .int 0, .int 0])) :: (q1, .inl (c1, 40, .inr (.inr (.inr (.inr (fun i => if i < j + 1 then some ((rgU j u u2).1 (76 + 4 * i)) else none)))))) :: mw (ringN (4 * (j + 1))) (rgU j u u2).1 (rgU j u u2).2 s0) (by rw [← ring_step (by omega) u u2, ← ring_in (by omega) rfl]; rfl) ?_
      refine g_iinc C dX5_init_34 rfl (v := nI (j + 1)) (nI_1 j) (by decide) rfl (vs1 := [some (.ref a), some (.int (nI (j + 1)))]) rfl ?_
      refine g_goto C dX5_init_37 (tgt := 15) rfl ?_
      refine g_eq (ts1 := tt ++ tcl [61, 62, 63] u2) (kc1 := 1 + 4 * (j + 1)) (ks1 := 40 + 33 * (j + 1)) rfl rfl (by omega) (by omega) ?_
      refine ih (j + 1) (rgU j u u2) (tt ++ tcl [61, 62, 63] u2) (by omega) (by rw [List.getElem?_append_left (List.getElem?_eq_some_iff.mp ht).1]; exact ht) (fun i hi hk => ?_)
      by_cases h : i < 4 * j
      · refine List.mem_append.mpr (Or.inl ?_)
        rw [show (rgU j u u2).2 (76 + i) = u.2 (76 + i) from if_pos (by omega)]
        exact hT i h hk
      · refine List.mem_append.mpr (Or.inr ?_)
        have hk2 := kd_ring i (by omega)
        have hm : i % 4 ≠ 0 := fun e => by
          rw [hk2, if_pos e] at hk
          omega
        rw [hk2, if_neg hm, show (rgU j u u2).2 (76 + i) = u2.2 (60 + (76 + i - (76 + 4 * j))) from if_neg (by omega)]
        rcases (show i = 4 * j + 1 ∨ i = 4 * j + 2 ∨ i = 4 * j + 3 by omega) with rfl | rfl | rfl
        · rw [show 60 + (76 + (4 * j + 1) - (76 + 4 * j)) = 61 by omega]; exact List.mem_of_getElem? (i := 0) rfl
        · rw [show 60 + (76 + (4 * j + 2) - (76 + 4 * j)) = 62 by omega]; exact List.mem_of_getElem? (i := 1) rfl
        · rw [show 60 + (76 + (4 * j + 3) - (76 + 4 * j)) = 63 by omega]; exact List.mem_of_getElem? (i := 2) rfl
  exact loop 40 0 (fun _ => 0, fun _ => c1) _ rfl rfl (fun i h => absurd h (by omega))

/-! from a world that grew to a world by numbers -/
def toGT (Γ : GQ) (kc ks : Nat) : GT := match Γ with
  | (p, l, e, R, s, m, args, below, meth, c, Q, D, A, H0, nL) => (p, l, e, R, s, m, args, below, meth, c, kc, ks, Q, D, A, H0, nL)
theorem g_aw {Γ : GQ} {cc : ByteArray} {own : String} {l0 : Launch} {D0 : va_G} {fr lo mc ms nL0 : Nat} {pc : Nat} {vs : List (Option Value)} {st : List Value} {ws : va_W} {ts : List (ClassId × FieldType)} {kc ks : Nat} {ids : List Nat} {ad : Nat → Nat} {ca : Nat → ClassId} {σ : HS} (C : CG Γ cc own l0 D0 fr lo mc ms nL0) (h1 : kc ≤ mc) (h2 : ks ≤ ms) (hws : ws = mw ids ad ca σ) (hT : ∀ q ∈ tys ids ca, q ∈ ts)
    (k : CT ids ad ca (toGT Γ kc ks) cc own l0 D0 fr lo nL0 → AW ids ad ca (toGT Γ kc ks) pc vs st σ) : GW Γ pc vs st ws ts kc ks := by
  obtain ⟨p, l, e, R, s, m, args, below, meth, c, Q, D, A, H0, nL⟩ := Γ
  obtain ⟨⟨hx, hb, hml, hown, hts⟩, hE, hA0, rfl, rfl, hfr, hlo, hmc, hms, rfl⟩ := C
  intro H locs ls hK hP hD hS hl
  subst hws
  exact k ⟨⟨hx, hb, hml, hown, hts⟩, K_mem hK hT, hE, fun σ' => mw_D hD σ', hA0, rfl, rfl, hfr, hlo, Nat.le_trans h1 hmc, Nat.le_trans h2 hms, rfl⟩ H locs ls hP hS hl
/-- two states are alike in the cells of ids -/
def agree (ids : List Nat) (σ σ1 : HS) : Prop := (∀ i ∈ ids, ∀ j, j < (if kd i < 12 then 66 else al i) → σ.1 i j = σ1.1 i j ∧ σ.2.1 i j = σ1.2.1 i j) ∧ (0 ∈ ids → σ.2.2 = σ1.2.2)
theorem arrV_ext {c : ClassId} {n : Nat} {f g : Nat → Value} (h : ∀ j, j < n → f j = g j) : arrV c n f = arrV c n g := by
  unfold arrV
  congr 1
  apply Array.ext
  · simp
  · intro i h1 h2
    simp at h1
    simp [h i h1]
theorem fsK_ext {ad : Nat → Nat} {n i : Nat} {g g1 : Nat → Int32} {tx : Nat → Nat} (h : ∀ j, j < 66 → g j = g1 j) : fsK ad n i g tx = fsK ad n i g1 tx := by
  unfold fsK
  split <;> simp [h]
theorem mw_ext {D : va_G} {ids : List Nat} {ad : Nat → Nat} {ca : Nat → ClassId} {σ σ1 : HS} {H : Heap} (h : agree ids σ σ1) (hP : va_P D vwCl (mw ids ad ca σ) H) : va_P D vwCl (mw ids ad ca σ1) H := by
  intro k q hq
  obtain ⟨i, hi, rfl⟩ := mw_at hq
  have h0 := hP k _ (mw_ats hi σ)
  have hm : i ∈ ids := List.mem_of_getElem? hi
  have ha := h.1 i hm
  by_cases hk : kd i < 12
  · rw [if_pos hk] at ha
    have e : ceK ad ca (kd i) i (σ1.1 i) (σ1.2.1 i) σ1.2.2 = ceK ad ca (kd i) i (σ.1 i) (σ.2.1 i) σ.2.2 := by
      rw [ceK_ob hk, ceK_ob hk, fsK_ext (g1 := σ1.1 i) (fun j hj => (ha j hj).1)]
      by_cases h10 : kd i = 10
      · have : i = 0 := kd_sj i h10
        subst this
        rw [h.2 hm]
      · rw [fsK_tx (tx := σ.2.2) (tx1 := σ1.2.2) h10]
    rw [e]
    exact h0
  · rw [if_neg hk] at ha
    unfold ceK at h0 ⊢
    rw [if_neg hk] at h0 ⊢
    by_cases h23 : kd i = 23
    · rw [if_pos h23] at h0 ⊢
      show H[ad i]? = some (arrV (ca i) (al i) (fun j => .long (σ1.2.1 i j)))
      rw [← arrV_ext (c := ca i) (f := fun j => .long (σ.2.1 i j)) (fun j hj => by rw [(ha j hj).2])]
      exact h0
    · rw [if_neg h23] at h0 ⊢
      by_cases h22 : kd i < 23
      · rw [if_pos h22] at h0 ⊢
        show H[ad i]? = some (arrV (ca i) (al i) (fun j => .int (σ1.1 i j)))
        rw [← arrV_ext (c := ca i) (f := fun j => .int (σ.1 i j)) (fun j hj => by rw [(ha j hj).1])]
        exact h0
      · rw [if_neg h22] at h0 ⊢
        exact h0
theorem rv_of_rn {Γ : GQ} {cc : ByteArray} {own : String} {l0 : Launch} {D0 : va_G} {fr lo mc ms nL0 : Nat} {kc ks : Nat} {ids : List Nat} {ad : Nat → Nat} {ca : Nat → ClassId} {post : UU → Prop} (C : CT ids ad ca (toGT Γ kc ks) cc own l0 D0 fr lo nL0) (Rt : RN Γ cc mc ms (fun u : UU => mw ids u.1 u.2 s0) (fun u => tys ids u.2) post) (h1 : kc ≤ mc) (h2 : ks ≤ ms) (hp : post (ad, ca)) : RV ids ad ca (toGT Γ kc ks) cc (fun σ => agree ids σ s0) := by
  obtain ⟨p, l, e, R, s, m, args, below, meth, c, Q, D, A, H0, nL⟩ := Γ
  obtain ⟨-, hK, -, hD, -⟩ := C
  intro H locs ls pc σ hP hS ha hd
  exact W.widen h1 h2 (Rt (ad, ca) H locs ls pc hK (mw_ext ha hP) (hD s0) hS hp hd)

set_option maxHeartbeats 4000000 in
set_option maxRecDepth 100000 in
theorem k_emitT_0 {l : Launch} {D : va_G} {ids : List Nat} {ad : Nat → Nat} {ca : Nat → ClassId} {σ : HS} {p0 : Int32} (hid : ∀ i, i ∈ [30, 31, 32, 33, 34, 35, 36, 37, 38, 39, 40, 41, 42] → i ∈ ids) (h_30_8 : σ.1 30 8 = 0) : Kv l D ids ad ca yX10_emit cX10_emit 2 0 0 [.ref (ad 30), .int p0] σ (fun σ1 => σ1 = (hI (hI σ 41 0 p0) 30 8 1)) := by
  refine Kv.of (by decide) (Nat.le_of_ble_eq_true rfl) 0 (fun Γ C Rt => ?_)
  show AW ids ad ca Γ 0 [some (.ref (ad 30)), some (.int p0)] [] σ
  refine a_aload_n C dX10_emit_0 (i := 0) rfl rfl ?_
  refine a_get C fl_RX10_51 (i := 30) kd_30 (hid 30 (by decide)) (v := .int 0) (congrArg (fun z => some (Value.int z)) h_30_8) dX10_emit_1 ?_
  refine a_aload_n C dX10_emit_4 (i := 0) rfl rfl ?_
  refine a_get C fl_RX10_29 (i := 30) kd_30 (hid 30 (by decide)) (v := .ref (ad 41)) rfl dX10_emit_5 ?_
  refine a_alen C (by rw [kd_41]; decide) (hid 41 (by decide)) (v := 408) (by rw [al_41]; rfl) dX10_emit_8 ?_
  refine a_ic_ge C dX10_emit_9 (tgt := 32) rfl (fun h => absurd h (by decide)) (fun _ => ?_)
  refine a_aload_n C dX10_emit_12 (i := 0) rfl rfl ?_
  refine a_get C fl_RX10_29 (i := 30) kd_30 (hid 30 (by decide)) (v := .ref (ad 41)) rfl dX10_emit_13 ?_
  refine a_aload_n C dX10_emit_16 (i := 0) rfl rfl ?_
  refine a_get C fl_RX10_51 (i := 30) kd_30 (hid 30 (by decide)) (v := .int 0) (congrArg (fun z => some (Value.int z)) h_30_8) dX10_emit_17 ?_
  refine a_iload_n C dX10_emit_20 (i := 1) rfl rfl ?_
  refine a_iast C (i := 41) 0 kd_41 (hid 41 (by decide)) (by decide) rfl (by rw [al_41]; decide) dX10_emit_21 ?_
  refine a_aload_n C dX10_emit_22 (i := 0) rfl rfl ?_
  refine a_dup C dX10_emit_23 rfl ?_
  refine a_get C fl_RX10_51 (i := 30) kd_30 (hid 30 (by decide)) (v := .int 0) (congrArg (fun z => some (Value.int z)) h_30_8) dX10_emit_24 ?_
  refine a_iconst C dX10_emit_27 (v := 1) rfl ?_
  refine a_iadd C dX10_emit_28 ?_
  refine a_put C fp_RX10_51 (i := 30) kd_30 (hid 30 (by decide)) rfl rfl dX10_emit_29 ?_
  exact a_vret Rt dX10_emit_32 (rfl)
set_option maxHeartbeats 4000000 in
set_option maxRecDepth 100000 in
theorem k_emitT_1 {l : Launch} {D : va_G} {ids : List Nat} {ad : Nat → Nat} {ca : Nat → ClassId} {σ : HS} {p0 : Int32} (hid : ∀ i, i ∈ [30, 31, 32, 33, 34, 35, 36, 37, 38, 39, 40, 41, 42] → i ∈ ids) (h_30_8 : σ.1 30 8 = 1) : Kv l D ids ad ca yX10_emit cX10_emit 2 0 0 [.ref (ad 30), .int p0] σ (fun σ1 => σ1 = (hI (hI σ 41 1 p0) 30 8 2)) := by
  refine Kv.of (by decide) (Nat.le_of_ble_eq_true rfl) 0 (fun Γ C Rt => ?_)
  show AW ids ad ca Γ 0 [some (.ref (ad 30)), some (.int p0)] [] σ
  refine a_aload_n C dX10_emit_0 (i := 0) rfl rfl ?_
  refine a_get C fl_RX10_51 (i := 30) kd_30 (hid 30 (by decide)) (v := .int 1) (congrArg (fun z => some (Value.int z)) h_30_8) dX10_emit_1 ?_
  refine a_aload_n C dX10_emit_4 (i := 0) rfl rfl ?_
  refine a_get C fl_RX10_29 (i := 30) kd_30 (hid 30 (by decide)) (v := .ref (ad 41)) rfl dX10_emit_5 ?_
  refine a_alen C (by rw [kd_41]; decide) (hid 41 (by decide)) (v := 408) (by rw [al_41]; rfl) dX10_emit_8 ?_
  refine a_ic_ge C dX10_emit_9 (tgt := 32) rfl (fun h => absurd h (by decide)) (fun _ => ?_)
  refine a_aload_n C dX10_emit_12 (i := 0) rfl rfl ?_
  refine a_get C fl_RX10_29 (i := 30) kd_30 (hid 30 (by decide)) (v := .ref (ad 41)) rfl dX10_emit_13 ?_
  refine a_aload_n C dX10_emit_16 (i := 0) rfl rfl ?_
  refine a_get C fl_RX10_51 (i := 30) kd_30 (hid 30 (by decide)) (v := .int 1) (congrArg (fun z => some (Value.int z)) h_30_8) dX10_emit_17 ?_
  refine a_iload_n C dX10_emit_20 (i := 1) rfl rfl ?_
  refine a_iast C (i := 41) 1 kd_41 (hid 41 (by decide)) (by decide) rfl (by rw [al_41]; decide) dX10_emit_21 ?_
  refine a_aload_n C dX10_emit_22 (i := 0) rfl rfl ?_
  refine a_dup C dX10_emit_23 rfl ?_
  refine a_get C fl_RX10_51 (i := 30) kd_30 (hid 30 (by decide)) (v := .int 1) (congrArg (fun z => some (Value.int z)) h_30_8) dX10_emit_24 ?_
  refine a_iconst C dX10_emit_27 (v := 1) rfl ?_
  refine a_iadd C dX10_emit_28 ?_
  refine a_put C fp_RX10_51 (i := 30) kd_30 (hid 30 (by decide)) rfl rfl dX10_emit_29 ?_
  exact a_vret Rt dX10_emit_32 (rfl)
set_option maxHeartbeats 4000000 in
set_option maxRecDepth 100000 in
theorem k_emitT_2 {l : Launch} {D : va_G} {ids : List Nat} {ad : Nat → Nat} {ca : Nat → ClassId} {σ : HS} {p0 : Int32} (hid : ∀ i, i ∈ [30, 31, 32, 33, 34, 35, 36, 37, 38, 39, 40, 41, 42] → i ∈ ids) (h_30_8 : σ.1 30 8 = 2) : Kv l D ids ad ca yX10_emit cX10_emit 2 0 0 [.ref (ad 30), .int p0] σ (fun σ1 => σ1 = (hI (hI σ 41 2 p0) 30 8 3)) := by
  refine Kv.of (by decide) (Nat.le_of_ble_eq_true rfl) 0 (fun Γ C Rt => ?_)
  show AW ids ad ca Γ 0 [some (.ref (ad 30)), some (.int p0)] [] σ
  refine a_aload_n C dX10_emit_0 (i := 0) rfl rfl ?_
  refine a_get C fl_RX10_51 (i := 30) kd_30 (hid 30 (by decide)) (v := .int 2) (congrArg (fun z => some (Value.int z)) h_30_8) dX10_emit_1 ?_
  refine a_aload_n C dX10_emit_4 (i := 0) rfl rfl ?_
  refine a_get C fl_RX10_29 (i := 30) kd_30 (hid 30 (by decide)) (v := .ref (ad 41)) rfl dX10_emit_5 ?_
  refine a_alen C (by rw [kd_41]; decide) (hid 41 (by decide)) (v := 408) (by rw [al_41]; rfl) dX10_emit_8 ?_
  refine a_ic_ge C dX10_emit_9 (tgt := 32) rfl (fun h => absurd h (by decide)) (fun _ => ?_)
  refine a_aload_n C dX10_emit_12 (i := 0) rfl rfl ?_
  refine a_get C fl_RX10_29 (i := 30) kd_30 (hid 30 (by decide)) (v := .ref (ad 41)) rfl dX10_emit_13 ?_
  refine a_aload_n C dX10_emit_16 (i := 0) rfl rfl ?_
  refine a_get C fl_RX10_51 (i := 30) kd_30 (hid 30 (by decide)) (v := .int 2) (congrArg (fun z => some (Value.int z)) h_30_8) dX10_emit_17 ?_
  refine a_iload_n C dX10_emit_20 (i := 1) rfl rfl ?_
  refine a_iast C (i := 41) 2 kd_41 (hid 41 (by decide)) (by decide) rfl (by rw [al_41]; decide) dX10_emit_21 ?_
  refine a_aload_n C dX10_emit_22 (i := 0) rfl rfl ?_
  refine a_dup C dX10_emit_23 rfl ?_
  refine a_get C fl_RX10_51 (i := 30) kd_30 (hid 30 (by decide)) (v := .int 2) (congrArg (fun z => some (Value.int z)) h_30_8) dX10_emit_24 ?_
  refine a_iconst C dX10_emit_27 (v := 1) rfl ?_
  refine a_iadd C dX10_emit_28 ?_
  refine a_put C fp_RX10_51 (i := 30) kd_30 (hid 30 (by decide)) rfl rfl dX10_emit_29 ?_
  exact a_vret Rt dX10_emit_32 (rfl)
set_option maxHeartbeats 4000000 in
set_option maxRecDepth 100000 in
theorem k_emitT_3 {l : Launch} {D : va_G} {ids : List Nat} {ad : Nat → Nat} {ca : Nat → ClassId} {σ : HS} {p0 : Int32} (hid : ∀ i, i ∈ [30, 31, 32, 33, 34, 35, 36, 37, 38, 39, 40, 41, 42] → i ∈ ids) (h_30_8 : σ.1 30 8 = 3) : Kv l D ids ad ca yX10_emit cX10_emit 2 0 0 [.ref (ad 30), .int p0] σ (fun σ1 => σ1 = (hI (hI σ 41 3 p0) 30 8 4)) := by
  refine Kv.of (by decide) (Nat.le_of_ble_eq_true rfl) 0 (fun Γ C Rt => ?_)
  show AW ids ad ca Γ 0 [some (.ref (ad 30)), some (.int p0)] [] σ
  refine a_aload_n C dX10_emit_0 (i := 0) rfl rfl ?_
  refine a_get C fl_RX10_51 (i := 30) kd_30 (hid 30 (by decide)) (v := .int 3) (congrArg (fun z => some (Value.int z)) h_30_8) dX10_emit_1 ?_
  refine a_aload_n C dX10_emit_4 (i := 0) rfl rfl ?_
  refine a_get C fl_RX10_29 (i := 30) kd_30 (hid 30 (by decide)) (v := .ref (ad 41)) rfl dX10_emit_5 ?_
  refine a_alen C (by rw [kd_41]; decide) (hid 41 (by decide)) (v := 408) (by rw [al_41]; rfl) dX10_emit_8 ?_
  refine a_ic_ge C dX10_emit_9 (tgt := 32) rfl (fun h => absurd h (by decide)) (fun _ => ?_)
  refine a_aload_n C dX10_emit_12 (i := 0) rfl rfl ?_
  refine a_get C fl_RX10_29 (i := 30) kd_30 (hid 30 (by decide)) (v := .ref (ad 41)) rfl dX10_emit_13 ?_
  refine a_aload_n C dX10_emit_16 (i := 0) rfl rfl ?_
  refine a_get C fl_RX10_51 (i := 30) kd_30 (hid 30 (by decide)) (v := .int 3) (congrArg (fun z => some (Value.int z)) h_30_8) dX10_emit_17 ?_
  refine a_iload_n C dX10_emit_20 (i := 1) rfl rfl ?_
  refine a_iast C (i := 41) 3 kd_41 (hid 41 (by decide)) (by decide) rfl (by rw [al_41]; decide) dX10_emit_21 ?_
  refine a_aload_n C dX10_emit_22 (i := 0) rfl rfl ?_
  refine a_dup C dX10_emit_23 rfl ?_
  refine a_get C fl_RX10_51 (i := 30) kd_30 (hid 30 (by decide)) (v := .int 3) (congrArg (fun z => some (Value.int z)) h_30_8) dX10_emit_24 ?_
  refine a_iconst C dX10_emit_27 (v := 1) rfl ?_
  refine a_iadd C dX10_emit_28 ?_
  refine a_put C fp_RX10_51 (i := 30) kd_30 (hid 30 (by decide)) rfl rfl dX10_emit_29 ?_
  exact a_vret Rt dX10_emit_32 (rfl)
set_option maxHeartbeats 4000000 in
set_option maxRecDepth 100000 in
theorem k_emitT_4 {l : Launch} {D : va_G} {ids : List Nat} {ad : Nat → Nat} {ca : Nat → ClassId} {σ : HS} {p0 : Int32} (hid : ∀ i, i ∈ [30, 31, 32, 33, 34, 35, 36, 37, 38, 39, 40, 41, 42] → i ∈ ids) (h_30_8 : σ.1 30 8 = 4) : Kv l D ids ad ca yX10_emit cX10_emit 2 0 0 [.ref (ad 30), .int p0] σ (fun σ1 => σ1 = (hI (hI σ 41 4 p0) 30 8 5)) := by
  refine Kv.of (by decide) (Nat.le_of_ble_eq_true rfl) 0 (fun Γ C Rt => ?_)
  show AW ids ad ca Γ 0 [some (.ref (ad 30)), some (.int p0)] [] σ
  refine a_aload_n C dX10_emit_0 (i := 0) rfl rfl ?_
  refine a_get C fl_RX10_51 (i := 30) kd_30 (hid 30 (by decide)) (v := .int 4) (congrArg (fun z => some (Value.int z)) h_30_8) dX10_emit_1 ?_
  refine a_aload_n C dX10_emit_4 (i := 0) rfl rfl ?_
  refine a_get C fl_RX10_29 (i := 30) kd_30 (hid 30 (by decide)) (v := .ref (ad 41)) rfl dX10_emit_5 ?_
  refine a_alen C (by rw [kd_41]; decide) (hid 41 (by decide)) (v := 408) (by rw [al_41]; rfl) dX10_emit_8 ?_
  refine a_ic_ge C dX10_emit_9 (tgt := 32) rfl (fun h => absurd h (by decide)) (fun _ => ?_)
  refine a_aload_n C dX10_emit_12 (i := 0) rfl rfl ?_
  refine a_get C fl_RX10_29 (i := 30) kd_30 (hid 30 (by decide)) (v := .ref (ad 41)) rfl dX10_emit_13 ?_
  refine a_aload_n C dX10_emit_16 (i := 0) rfl rfl ?_
  refine a_get C fl_RX10_51 (i := 30) kd_30 (hid 30 (by decide)) (v := .int 4) (congrArg (fun z => some (Value.int z)) h_30_8) dX10_emit_17 ?_
  refine a_iload_n C dX10_emit_20 (i := 1) rfl rfl ?_
  refine a_iast C (i := 41) 4 kd_41 (hid 41 (by decide)) (by decide) rfl (by rw [al_41]; decide) dX10_emit_21 ?_
  refine a_aload_n C dX10_emit_22 (i := 0) rfl rfl ?_
  refine a_dup C dX10_emit_23 rfl ?_
  refine a_get C fl_RX10_51 (i := 30) kd_30 (hid 30 (by decide)) (v := .int 4) (congrArg (fun z => some (Value.int z)) h_30_8) dX10_emit_24 ?_
  refine a_iconst C dX10_emit_27 (v := 1) rfl ?_
  refine a_iadd C dX10_emit_28 ?_
  refine a_put C fp_RX10_51 (i := 30) kd_30 (hid 30 (by decide)) rfl rfl dX10_emit_29 ?_
  exact a_vret Rt dX10_emit_32 (rfl)
set_option maxHeartbeats 4000000 in
set_option maxRecDepth 100000 in
theorem k_emitT_5 {l : Launch} {D : va_G} {ids : List Nat} {ad : Nat → Nat} {ca : Nat → ClassId} {σ : HS} {p0 : Int32} (hid : ∀ i, i ∈ [30, 31, 32, 33, 34, 35, 36, 37, 38, 39, 40, 41, 42] → i ∈ ids) (h_30_8 : σ.1 30 8 = 5) : Kv l D ids ad ca yX10_emit cX10_emit 2 0 0 [.ref (ad 30), .int p0] σ (fun σ1 => σ1 = (hI (hI σ 41 5 p0) 30 8 6)) := by
  refine Kv.of (by decide) (Nat.le_of_ble_eq_true rfl) 0 (fun Γ C Rt => ?_)
  show AW ids ad ca Γ 0 [some (.ref (ad 30)), some (.int p0)] [] σ
  refine a_aload_n C dX10_emit_0 (i := 0) rfl rfl ?_
  refine a_get C fl_RX10_51 (i := 30) kd_30 (hid 30 (by decide)) (v := .int 5) (congrArg (fun z => some (Value.int z)) h_30_8) dX10_emit_1 ?_
  refine a_aload_n C dX10_emit_4 (i := 0) rfl rfl ?_
  refine a_get C fl_RX10_29 (i := 30) kd_30 (hid 30 (by decide)) (v := .ref (ad 41)) rfl dX10_emit_5 ?_
  refine a_alen C (by rw [kd_41]; decide) (hid 41 (by decide)) (v := 408) (by rw [al_41]; rfl) dX10_emit_8 ?_
  refine a_ic_ge C dX10_emit_9 (tgt := 32) rfl (fun h => absurd h (by decide)) (fun _ => ?_)
  refine a_aload_n C dX10_emit_12 (i := 0) rfl rfl ?_
  refine a_get C fl_RX10_29 (i := 30) kd_30 (hid 30 (by decide)) (v := .ref (ad 41)) rfl dX10_emit_13 ?_
  refine a_aload_n C dX10_emit_16 (i := 0) rfl rfl ?_
  refine a_get C fl_RX10_51 (i := 30) kd_30 (hid 30 (by decide)) (v := .int 5) (congrArg (fun z => some (Value.int z)) h_30_8) dX10_emit_17 ?_
  refine a_iload_n C dX10_emit_20 (i := 1) rfl rfl ?_
  refine a_iast C (i := 41) 5 kd_41 (hid 41 (by decide)) (by decide) rfl (by rw [al_41]; decide) dX10_emit_21 ?_
  refine a_aload_n C dX10_emit_22 (i := 0) rfl rfl ?_
  refine a_dup C dX10_emit_23 rfl ?_
  refine a_get C fl_RX10_51 (i := 30) kd_30 (hid 30 (by decide)) (v := .int 5) (congrArg (fun z => some (Value.int z)) h_30_8) dX10_emit_24 ?_
  refine a_iconst C dX10_emit_27 (v := 1) rfl ?_
  refine a_iadd C dX10_emit_28 ?_
  refine a_put C fp_RX10_51 (i := 30) kd_30 (hid 30 (by decide)) rfl rfl dX10_emit_29 ?_
  exact a_vret Rt dX10_emit_32 (rfl)
set_option maxHeartbeats 4000000 in
set_option maxRecDepth 100000 in
theorem k_emitT_6 {l : Launch} {D : va_G} {ids : List Nat} {ad : Nat → Nat} {ca : Nat → ClassId} {σ : HS} {p0 : Int32} (hid : ∀ i, i ∈ [30, 31, 32, 33, 34, 35, 36, 37, 38, 39, 40, 41, 42] → i ∈ ids) (h_30_8 : σ.1 30 8 = 6) : Kv l D ids ad ca yX10_emit cX10_emit 2 0 0 [.ref (ad 30), .int p0] σ (fun σ1 => σ1 = (hI (hI σ 41 6 p0) 30 8 7)) := by
  refine Kv.of (by decide) (Nat.le_of_ble_eq_true rfl) 0 (fun Γ C Rt => ?_)
  show AW ids ad ca Γ 0 [some (.ref (ad 30)), some (.int p0)] [] σ
  refine a_aload_n C dX10_emit_0 (i := 0) rfl rfl ?_
  refine a_get C fl_RX10_51 (i := 30) kd_30 (hid 30 (by decide)) (v := .int 6) (congrArg (fun z => some (Value.int z)) h_30_8) dX10_emit_1 ?_
  refine a_aload_n C dX10_emit_4 (i := 0) rfl rfl ?_
  refine a_get C fl_RX10_29 (i := 30) kd_30 (hid 30 (by decide)) (v := .ref (ad 41)) rfl dX10_emit_5 ?_
  refine a_alen C (by rw [kd_41]; decide) (hid 41 (by decide)) (v := 408) (by rw [al_41]; rfl) dX10_emit_8 ?_
  refine a_ic_ge C dX10_emit_9 (tgt := 32) rfl (fun h => absurd h (by decide)) (fun _ => ?_)
  refine a_aload_n C dX10_emit_12 (i := 0) rfl rfl ?_
  refine a_get C fl_RX10_29 (i := 30) kd_30 (hid 30 (by decide)) (v := .ref (ad 41)) rfl dX10_emit_13 ?_
  refine a_aload_n C dX10_emit_16 (i := 0) rfl rfl ?_
  refine a_get C fl_RX10_51 (i := 30) kd_30 (hid 30 (by decide)) (v := .int 6) (congrArg (fun z => some (Value.int z)) h_30_8) dX10_emit_17 ?_
  refine a_iload_n C dX10_emit_20 (i := 1) rfl rfl ?_
  refine a_iast C (i := 41) 6 kd_41 (hid 41 (by decide)) (by decide) rfl (by rw [al_41]; decide) dX10_emit_21 ?_
  refine a_aload_n C dX10_emit_22 (i := 0) rfl rfl ?_
  refine a_dup C dX10_emit_23 rfl ?_
  refine a_get C fl_RX10_51 (i := 30) kd_30 (hid 30 (by decide)) (v := .int 6) (congrArg (fun z => some (Value.int z)) h_30_8) dX10_emit_24 ?_
  refine a_iconst C dX10_emit_27 (v := 1) rfl ?_
  refine a_iadd C dX10_emit_28 ?_
  refine a_put C fp_RX10_51 (i := 30) kd_30 (hid 30 (by decide)) rfl rfl dX10_emit_29 ?_
  exact a_vret Rt dX10_emit_32 (rfl)
set_option maxHeartbeats 4000000 in
set_option maxRecDepth 100000 in
theorem k_emitT_7 {l : Launch} {D : va_G} {ids : List Nat} {ad : Nat → Nat} {ca : Nat → ClassId} {σ : HS} {p0 : Int32} (hid : ∀ i, i ∈ [30, 31, 32, 33, 34, 35, 36, 37, 38, 39, 40, 41, 42] → i ∈ ids) (h_30_8 : σ.1 30 8 = 7) : Kv l D ids ad ca yX10_emit cX10_emit 2 0 0 [.ref (ad 30), .int p0] σ (fun σ1 => σ1 = (hI (hI σ 41 7 p0) 30 8 8)) := by
  refine Kv.of (by decide) (Nat.le_of_ble_eq_true rfl) 0 (fun Γ C Rt => ?_)
  show AW ids ad ca Γ 0 [some (.ref (ad 30)), some (.int p0)] [] σ
  refine a_aload_n C dX10_emit_0 (i := 0) rfl rfl ?_
  refine a_get C fl_RX10_51 (i := 30) kd_30 (hid 30 (by decide)) (v := .int 7) (congrArg (fun z => some (Value.int z)) h_30_8) dX10_emit_1 ?_
  refine a_aload_n C dX10_emit_4 (i := 0) rfl rfl ?_
  refine a_get C fl_RX10_29 (i := 30) kd_30 (hid 30 (by decide)) (v := .ref (ad 41)) rfl dX10_emit_5 ?_
  refine a_alen C (by rw [kd_41]; decide) (hid 41 (by decide)) (v := 408) (by rw [al_41]; rfl) dX10_emit_8 ?_
  refine a_ic_ge C dX10_emit_9 (tgt := 32) rfl (fun h => absurd h (by decide)) (fun _ => ?_)
  refine a_aload_n C dX10_emit_12 (i := 0) rfl rfl ?_
  refine a_get C fl_RX10_29 (i := 30) kd_30 (hid 30 (by decide)) (v := .ref (ad 41)) rfl dX10_emit_13 ?_
  refine a_aload_n C dX10_emit_16 (i := 0) rfl rfl ?_
  refine a_get C fl_RX10_51 (i := 30) kd_30 (hid 30 (by decide)) (v := .int 7) (congrArg (fun z => some (Value.int z)) h_30_8) dX10_emit_17 ?_
  refine a_iload_n C dX10_emit_20 (i := 1) rfl rfl ?_
  refine a_iast C (i := 41) 7 kd_41 (hid 41 (by decide)) (by decide) rfl (by rw [al_41]; decide) dX10_emit_21 ?_
  refine a_aload_n C dX10_emit_22 (i := 0) rfl rfl ?_
  refine a_dup C dX10_emit_23 rfl ?_
  refine a_get C fl_RX10_51 (i := 30) kd_30 (hid 30 (by decide)) (v := .int 7) (congrArg (fun z => some (Value.int z)) h_30_8) dX10_emit_24 ?_
  refine a_iconst C dX10_emit_27 (v := 1) rfl ?_
  refine a_iadd C dX10_emit_28 ?_
  refine a_put C fp_RX10_51 (i := 30) kd_30 (hid 30 (by decide)) rfl rfl dX10_emit_29 ?_
  exact a_vret Rt dX10_emit_32 (rfl)
set_option maxHeartbeats 4000000 in
set_option maxRecDepth 100000 in
theorem k_clearT {l : Launch} {D : va_G} {ids : List Nat} {ad : Nat → Nat} {ca : Nat → ClassId} {σ : HS} (hid : ∀ i, i ∈ [30, 31, 32, 33, 34, 35, 36, 37, 38, 39, 40, 41, 42] → i ∈ ids) : Kv l D ids ad ca yX10_clear cX10_clear 2 1 21 [.ref (ad 30)] σ (fun σ1 => σ1 = (hI (hI (hI (hI (hI (hI (hI (hI (hI (hI (hI (hI (hI (hI (hI (hI (hI (hI (hI (hI (hI (hI (hI (hI (hI σ 30 0 0) 30 4 0) 30 10 1) 30 11 0) 30 8 0) 42 0 0) 41 0 0) 30 8 1) 41 1 (-6)) 30 8 2) 42 1 2) 41 2 0) 30 8 3) 41 3 (-6)) 30 8 4) 42 2 4) 41 4 (-11)) 30 8 5) 41 5 (-6)) 30 8 6) 42 3 6) 41 6 0) 30 8 7) 41 7 (-6)) 30 8 8)) := by
  refine Kv.of (by decide) (Nat.le_of_ble_eq_true rfl) 1 (fun Γ C Rt => ?_)
  show AW ids ad ca Γ 0 [some (.ref (ad 30)), none] [] σ
  refine a_aload_n C dX10_clear_0 (i := 0) rfl rfl ?_
  refine a_iconst C dX10_clear_1 (v := 0) rfl ?_
  refine a_put C fp_RX10_38 (i := 30) kd_30 (hid 30 (by decide)) rfl rfl dX10_clear_2 ?_
  refine a_aload_n C dX10_clear_5 (i := 0) rfl rfl ?_
  refine a_iconst C dX10_clear_6 (v := 0) rfl ?_
  refine a_put C fp_RX10_42 (i := 30) kd_30 (hid 30 (by decide)) rfl rfl dX10_clear_7 ?_
  refine a_aload_n C dX10_clear_10 (i := 0) rfl rfl ?_
  refine a_iconst C dX10_clear_11 (v := 1) rfl ?_
  refine a_put C fp_RX10_45 (i := 30) kd_30 (hid 30 (by decide)) rfl rfl dX10_clear_12 ?_
  refine a_aload_n C dX10_clear_15 (i := 0) rfl rfl ?_
  refine a_iconst C dX10_clear_16 (v := 0) rfl ?_
  refine a_put C fp_RX10_48 (i := 30) kd_30 (hid 30 (by decide)) rfl rfl dX10_clear_17 ?_
  refine a_aload_n C dX10_clear_20 (i := 0) rfl rfl ?_
  refine a_iconst C dX10_clear_21 (v := 0) rfl ?_
  refine a_put C fp_RX10_51 (i := 30) kd_30 (hid 30 (by decide)) rfl rfl dX10_clear_22 ?_
  refine a_iconst C dX10_clear_25 (v := 0) rfl ?_
  refine a_istore_n C dX10_clear_26 (i := 1) rfl (by decide) rfl (vs1 := [some (.ref (ad 30)), some (.int 0)]) rfl ?_
  refine a_iload_n C dX10_clear_27 (i := 1) rfl rfl ?_
  refine a_iconst C dX10_clear_28 (v := 4) rfl ?_
  refine a_ic_ge C dX10_clear_29 (tgt := 69) rfl (fun h => absurd h (by decide)) (fun _ => ?_)
  refine a_aload_n C dX10_clear_32 (i := 0) rfl rfl ?_
  refine a_get C fl_RX10_32 (i := 30) kd_30 (hid 30 (by decide)) (v := .ref (ad 42)) rfl dX10_clear_33 ?_
  refine a_iload_n C dX10_clear_36 (i := 1) rfl rfl ?_
  refine a_aload_n C dX10_clear_37 (i := 0) rfl rfl ?_
  refine a_get C fl_RX10_51 (i := 30) kd_30 (hid 30 (by decide)) (v := .int 0) rfl dX10_clear_38 ?_
  refine a_iast C (i := 42) 0 kd_42 (hid 42 (by decide)) (by decide) rfl (by rw [al_42]; decide) dX10_clear_41 ?_
  refine a_aload_n C dX10_clear_42 (i := 0) rfl rfl ?_
  refine a_iload_n C dX10_clear_43 (i := 1) rfl rfl ?_
  refine a_iconst C dX10_clear_44 (v := 2) rfl ?_
  refine a_ic_ne C dX10_clear_45 (tgt := 53) rfl (fun _ => ?_) (fun h => absurd h (by decide))
  refine a_iconst C dX10_clear_53 (v := 0) rfl ?_
  refine a_callVv C (i := 30) kd_30 (hid 30 (by decide)) ⟨_, _, rfl⟩ (by decide) (k_emitT_0 hid rfl) mi_X10_emit ml_RX10_54 rfl rfl (Nat.le_of_ble_eq_true rfl) (Nat.le_of_ble_eq_true rfl) (Nat.le_of_ble_eq_true rfl) dX10_clear_54 (fun σ2 q3 => ?_)
  subst q3
  refine a_aload_n C dX10_clear_57 (i := 0) rfl rfl ?_
  refine a_bipush C dX10_clear_58 (v := (-6)) rfl ?_
  refine a_callVv C (i := 30) kd_30 (hid 30 (by decide)) ⟨_, _, rfl⟩ (by decide) (k_emitT_1 hid rfl) mi_X10_emit ml_RX10_54 rfl rfl (Nat.le_of_ble_eq_true rfl) (Nat.le_of_ble_eq_true rfl) (Nat.le_of_ble_eq_true rfl) dX10_clear_60 (fun σ5 q6 => ?_)
  subst q6
  refine a_iinc C dX10_clear_63 rfl (v := 1) rfl (by decide) rfl (vs1 := [some (.ref (ad 30)), some (.int 1)]) rfl ?_
  refine a_goto C dX10_clear_66 (tgt := 27) rfl ?_
  refine a_iload_n C dX10_clear_27 (i := 1) rfl rfl ?_
  refine a_iconst C dX10_clear_28 (v := 4) rfl ?_
  refine a_ic_ge C dX10_clear_29 (tgt := 69) rfl (fun h => absurd h (by decide)) (fun _ => ?_)
  refine a_aload_n C dX10_clear_32 (i := 0) rfl rfl ?_
  refine a_get C fl_RX10_32 (i := 30) kd_30 (hid 30 (by decide)) (v := .ref (ad 42)) rfl dX10_clear_33 ?_
  refine a_iload_n C dX10_clear_36 (i := 1) rfl rfl ?_
  refine a_aload_n C dX10_clear_37 (i := 0) rfl rfl ?_
  refine a_get C fl_RX10_51 (i := 30) kd_30 (hid 30 (by decide)) (v := .int 2) rfl dX10_clear_38 ?_
  refine a_iast C (i := 42) 1 kd_42 (hid 42 (by decide)) (by decide) rfl (by rw [al_42]; decide) dX10_clear_41 ?_
  refine a_aload_n C dX10_clear_42 (i := 0) rfl rfl ?_
  refine a_iload_n C dX10_clear_43 (i := 1) rfl rfl ?_
  refine a_iconst C dX10_clear_44 (v := 2) rfl ?_
  refine a_ic_ne C dX10_clear_45 (tgt := 53) rfl (fun _ => ?_) (fun h => absurd h (by decide))
  refine a_iconst C dX10_clear_53 (v := 0) rfl ?_
  refine a_callVv C (i := 30) kd_30 (hid 30 (by decide)) ⟨_, _, rfl⟩ (by decide) (k_emitT_2 hid rfl) mi_X10_emit ml_RX10_54 rfl rfl (Nat.le_of_ble_eq_true rfl) (Nat.le_of_ble_eq_true rfl) (Nat.le_of_ble_eq_true rfl) dX10_clear_54 (fun σ8 q9 => ?_)
  subst q9
  refine a_aload_n C dX10_clear_57 (i := 0) rfl rfl ?_
  refine a_bipush C dX10_clear_58 (v := (-6)) rfl ?_
  refine a_callVv C (i := 30) kd_30 (hid 30 (by decide)) ⟨_, _, rfl⟩ (by decide) (k_emitT_3 hid rfl) mi_X10_emit ml_RX10_54 rfl rfl (Nat.le_of_ble_eq_true rfl) (Nat.le_of_ble_eq_true rfl) (Nat.le_of_ble_eq_true rfl) dX10_clear_60 (fun σ11 q12 => ?_)
  subst q12
  refine a_iinc C dX10_clear_63 rfl (v := 2) rfl (by decide) rfl (vs1 := [some (.ref (ad 30)), some (.int 2)]) rfl ?_
  refine a_goto C dX10_clear_66 (tgt := 27) rfl ?_
  refine a_iload_n C dX10_clear_27 (i := 1) rfl rfl ?_
  refine a_iconst C dX10_clear_28 (v := 4) rfl ?_
  refine a_ic_ge C dX10_clear_29 (tgt := 69) rfl (fun h => absurd h (by decide)) (fun _ => ?_)
  refine a_aload_n C dX10_clear_32 (i := 0) rfl rfl ?_
  refine a_get C fl_RX10_32 (i := 30) kd_30 (hid 30 (by decide)) (v := .ref (ad 42)) rfl dX10_clear_33 ?_
  refine a_iload_n C dX10_clear_36 (i := 1) rfl rfl ?_
  refine a_aload_n C dX10_clear_37 (i := 0) rfl rfl ?_
  refine a_get C fl_RX10_51 (i := 30) kd_30 (hid 30 (by decide)) (v := .int 4) rfl dX10_clear_38 ?_
  refine a_iast C (i := 42) 2 kd_42 (hid 42 (by decide)) (by decide) rfl (by rw [al_42]; decide) dX10_clear_41 ?_
  refine a_aload_n C dX10_clear_42 (i := 0) rfl rfl ?_
  refine a_iload_n C dX10_clear_43 (i := 1) rfl rfl ?_
  refine a_iconst C dX10_clear_44 (v := 2) rfl ?_
  refine a_ic_ne C dX10_clear_45 (tgt := 53) rfl (fun h => absurd h (by decide)) (fun _ => ?_)
  refine a_bipush C dX10_clear_48 (v := (-11)) rfl ?_
  refine a_goto C dX10_clear_50 (tgt := 54) rfl ?_
  refine a_callVv C (i := 30) kd_30 (hid 30 (by decide)) ⟨_, _, rfl⟩ (by decide) (k_emitT_4 hid rfl) mi_X10_emit ml_RX10_54 rfl rfl (Nat.le_of_ble_eq_true rfl) (Nat.le_of_ble_eq_true rfl) (Nat.le_of_ble_eq_true rfl) dX10_clear_54 (fun σ14 q15 => ?_)
  subst q15
  refine a_aload_n C dX10_clear_57 (i := 0) rfl rfl ?_
  refine a_bipush C dX10_clear_58 (v := (-6)) rfl ?_
  refine a_callVv C (i := 30) kd_30 (hid 30 (by decide)) ⟨_, _, rfl⟩ (by decide) (k_emitT_5 hid rfl) mi_X10_emit ml_RX10_54 rfl rfl (Nat.le_of_ble_eq_true rfl) (Nat.le_of_ble_eq_true rfl) (Nat.le_of_ble_eq_true rfl) dX10_clear_60 (fun σ17 q18 => ?_)
  subst q18
  refine a_iinc C dX10_clear_63 rfl (v := 3) rfl (by decide) rfl (vs1 := [some (.ref (ad 30)), some (.int 3)]) rfl ?_
  refine a_goto C dX10_clear_66 (tgt := 27) rfl ?_
  refine a_iload_n C dX10_clear_27 (i := 1) rfl rfl ?_
  refine a_iconst C dX10_clear_28 (v := 4) rfl ?_
  refine a_ic_ge C dX10_clear_29 (tgt := 69) rfl (fun h => absurd h (by decide)) (fun _ => ?_)
  refine a_aload_n C dX10_clear_32 (i := 0) rfl rfl ?_
  refine a_get C fl_RX10_32 (i := 30) kd_30 (hid 30 (by decide)) (v := .ref (ad 42)) rfl dX10_clear_33 ?_
  refine a_iload_n C dX10_clear_36 (i := 1) rfl rfl ?_
  refine a_aload_n C dX10_clear_37 (i := 0) rfl rfl ?_
  refine a_get C fl_RX10_51 (i := 30) kd_30 (hid 30 (by decide)) (v := .int 6) rfl dX10_clear_38 ?_
  refine a_iast C (i := 42) 3 kd_42 (hid 42 (by decide)) (by decide) rfl (by rw [al_42]; decide) dX10_clear_41 ?_
  refine a_aload_n C dX10_clear_42 (i := 0) rfl rfl ?_
  refine a_iload_n C dX10_clear_43 (i := 1) rfl rfl ?_
  refine a_iconst C dX10_clear_44 (v := 2) rfl ?_
  refine a_ic_ne C dX10_clear_45 (tgt := 53) rfl (fun _ => ?_) (fun h => absurd h (by decide))
  refine a_iconst C dX10_clear_53 (v := 0) rfl ?_
  refine a_callVv C (i := 30) kd_30 (hid 30 (by decide)) ⟨_, _, rfl⟩ (by decide) (k_emitT_6 hid rfl) mi_X10_emit ml_RX10_54 rfl rfl (Nat.le_of_ble_eq_true rfl) (Nat.le_of_ble_eq_true rfl) (Nat.le_of_ble_eq_true rfl) dX10_clear_54 (fun σ20 q21 => ?_)
  subst q21
  refine a_aload_n C dX10_clear_57 (i := 0) rfl rfl ?_
  refine a_bipush C dX10_clear_58 (v := (-6)) rfl ?_
  refine a_callVv C (i := 30) kd_30 (hid 30 (by decide)) ⟨_, _, rfl⟩ (by decide) (k_emitT_7 hid rfl) mi_X10_emit ml_RX10_54 rfl rfl (Nat.le_of_ble_eq_true rfl) (Nat.le_of_ble_eq_true rfl) (Nat.le_of_ble_eq_true rfl) dX10_clear_60 (fun σ23 q24 => ?_)
  subst q24
  refine a_iinc C dX10_clear_63 rfl (v := 4) rfl (by decide) rfl (vs1 := [some (.ref (ad 30)), some (.int 4)]) rfl ?_
  refine a_goto C dX10_clear_66 (tgt := 27) rfl ?_
  refine a_iload_n C dX10_clear_27 (i := 1) rfl rfl ?_
  refine a_iconst C dX10_clear_28 (v := 4) rfl ?_
  refine a_ic_ge C dX10_clear_29 (tgt := 69) rfl (fun _ => ?_) (fun h => absurd h (by decide))
  exact a_vret Rt dX10_clear_69 (rfl)
def kb_cX10_init_0 : List Nat := [42, 183, 0, 3, 42, 16, 7, 188, 10, 181, 0, 9, 42, 16, 7, 188, 10, 181, 0, 15]
theorem ac_cX10_init_0 : AL cX10_init 0 kb_cX10_init_0 := AL.of (m := 20) (by decide +kernel)
theorem dX10_init_0 : decode cX10_init 0 = .ok (.aload_n 0, 1) := o42 ac_cX10_init_0 0 rfl
theorem dX10_init_1 : decode cX10_init 1 = .ok (.invokespecial 3, 3) := o183 ac_cX10_init_0 1 0 3 rfl
theorem dX10_init_4 : decode cX10_init 4 = .ok (.aload_n 0, 1) := o42 ac_cX10_init_0 4 rfl
theorem dX10_init_5 : decode cX10_init 5 = .ok (.bipush 7, 2) := o16p ac_cX10_init_0 5 7 rfl rfl
theorem dX10_init_7 : decode cX10_init 7 = .ok (.newarray .int, 2) := by decide +kernel
theorem dX10_init_9 : decode cX10_init 9 = .ok (.putfield 9, 3) := o181 ac_cX10_init_0 9 0 9 rfl
theorem dX10_init_12 : decode cX10_init 12 = .ok (.aload_n 0, 1) := o42 ac_cX10_init_0 12 rfl
theorem dX10_init_13 : decode cX10_init 13 = .ok (.bipush 7, 2) := o16p ac_cX10_init_0 13 7 rfl rfl
theorem dX10_init_15 : decode cX10_init 15 = .ok (.newarray .int, 2) := by decide +kernel
def kb_cX10_init_16 : List Nat := [10, 181, 0, 15, 42, 16, 7, 188, 10, 181, 0, 18, 42, 8, 16, 8, 197, 0, 21, 2]
theorem ac_cX10_init_16 : AL cX10_init 16 kb_cX10_init_16 := AL.of (m := 20) (by decide +kernel)
theorem dX10_init_17 : decode cX10_init 17 = .ok (.putfield 15, 3) := o181 ac_cX10_init_16 1 0 15 rfl
theorem dX10_init_20 : decode cX10_init 20 = .ok (.aload_n 0, 1) := o42 ac_cX10_init_16 4 rfl
theorem dX10_init_21 : decode cX10_init 21 = .ok (.bipush 7, 2) := o16p ac_cX10_init_16 5 7 rfl rfl
theorem dX10_init_23 : decode cX10_init 23 = .ok (.newarray .int, 2) := by decide +kernel
theorem dX10_init_25 : decode cX10_init 25 = .ok (.putfield 18, 3) := o181 ac_cX10_init_16 9 0 18 rfl
theorem dX10_init_28 : decode cX10_init 28 = .ok (.aload_n 0, 1) := o42 ac_cX10_init_16 12 rfl
theorem dX10_init_29 : decode cX10_init 29 = .ok (.iconst 5, 1) := o8 ac_cX10_init_16 13 rfl
theorem dX10_init_30 : decode cX10_init 30 = .ok (.bipush 8, 2) := o16p ac_cX10_init_16 14 8 rfl rfl
theorem dX10_init_32 : decode cX10_init 32 = .ok (.multianewarray 21 2, 4) := by decide +kernel
def kb_cX10_init_32 : List Nat := [197, 0, 21, 2, 181, 0, 23, 42, 8, 188, 10, 181, 0, 26, 42, 17, 1, 152, 188, 10]
theorem ac_cX10_init_32 : AL cX10_init 32 kb_cX10_init_32 := AL.of (m := 20) (by decide +kernel)
theorem dX10_init_36 : decode cX10_init 36 = .ok (.putfield 23, 3) := o181 ac_cX10_init_32 4 0 23 rfl
theorem dX10_init_39 : decode cX10_init 39 = .ok (.aload_n 0, 1) := o42 ac_cX10_init_32 7 rfl
theorem dX10_init_40 : decode cX10_init 40 = .ok (.iconst 5, 1) := o8 ac_cX10_init_32 8 rfl
theorem dX10_init_41 : decode cX10_init 41 = .ok (.newarray .int, 2) := by decide +kernel
theorem dX10_init_43 : decode cX10_init 43 = .ok (.putfield 26, 3) := o181 ac_cX10_init_32 11 0 26 rfl
theorem dX10_init_46 : decode cX10_init 46 = .ok (.aload_n 0, 1) := o42 ac_cX10_init_32 14 rfl
theorem dX10_init_47 : decode cX10_init 47 = .ok (.sipush 408, 3) := o17p ac_cX10_init_32 15 1 152 rfl rfl
theorem dX10_init_50 : decode cX10_init 50 = .ok (.newarray .int, 2) := by decide +kernel
def kb_cX10_init_48 : List Nat := [1, 152, 188, 10, 181, 0, 29, 42, 7, 188, 10, 181, 0, 32, 42, 182, 0, 35, 177]
theorem ac_cX10_init_48 : AL cX10_init 48 kb_cX10_init_48 := AL.of (m := 19) (by decide +kernel)
theorem dX10_init_52 : decode cX10_init 52 = .ok (.putfield 29, 3) := o181 ac_cX10_init_48 4 0 29 rfl
theorem dX10_init_55 : decode cX10_init 55 = .ok (.aload_n 0, 1) := o42 ac_cX10_init_48 7 rfl
theorem dX10_init_56 : decode cX10_init 56 = .ok (.iconst 4, 1) := o7 ac_cX10_init_48 8 rfl
theorem dX10_init_57 : decode cX10_init 57 = .ok (.newarray .int, 2) := by decide +kernel
theorem dX10_init_59 : decode cX10_init 59 = .ok (.putfield 32, 3) := o181 ac_cX10_init_48 11 0 32 rfl
theorem dX10_init_62 : decode cX10_init 62 = .ok (.aload_n 0, 1) := o42 ac_cX10_init_48 14 rfl
theorem dX10_init_63 : decode cX10_init 63 = .ok (.invokevirtual 35, 3) := o182 ac_cX10_init_48 15 0 35 rfl
def kb_cX10_init_64 : List Nat := [0, 35, 177]
theorem ac_cX10_init_64 : AL cX10_init 64 kb_cX10_init_64 := AL.of (m := 3) (by decide +kernel)
theorem dX10_init_66 : decode cX10_init 66 = .ok (.return_, 1) := o177 ac_cX10_init_64 2 rfl
set_option maxHeartbeats 4000000 in
set_option maxRecDepth 100000 in
theorem n_9 {l : Launch} {D : va_G} {a : Nat} : KN (S := UU) l D yX10_init cX10_init 1 2 42 12 483 [.ref a] [(a, .inr (9, [.int 0, .null, .null, .null, .int 0, .null, .null, .null, .int 0, .null, .int 0, .int 0]))] [] (fun u => mw [30, 31, 32, 33, 34, 35, 36, 37, 38, 39, 40, 41, 42] u.1 u.2 s0) (fun u => tys [30, 31, 32, 33, 34, 35, 36, 37, 38, 39, 40, 41, 42] u.2) (fun u => u.1 30 = a) := by
  refine KN.of (by decide) (Nat.le_of_ble_eq_true rfl) 0 (fun Γ C hin hG Rt => ?_)
  have hin := hin rfl
  show GW Γ 0 [some (.ref a)] [] [(a, .inr (9, [.int 0, .null, .null, .null, .int 0, .null, .null, .null, .int 0, .null, .int 0, .int 0]))] [] 0 0
  refine g_aload_n C dX10_init_0 (i := 0) rfl rfl ?_
  refine g_objInit C oi_9 oi_w.1 oi_w.2 (by decide) (Nat.le_of_ble_eq_true rfl) dX10_init_1 ?_
  refine g_aload_n C dX10_init_4 (i := 0) rfl rfl ?_
  refine g_bipush C dX10_init_5 (v := 7) rfl ?_
  refine g_newa C (atype := .int) (ty := .int) 7 (7, .inl (fun _ => 0)) aw_int rfl (fun _ => rfl) (by decide) rfl (by decide) (by omega) (by omega) dX10_init_7 (fun q1 c1 => ?_)
  refine g_eq (ws1 := [(a, .inr (9, [.int 0, .null, .null, .null, .int 0, .null, .null, .null, .int 0, .null, .int 0, .int 0])), (q1, .inl (c1, 7, .inl (fun _ => 0)))]) (ts1 := ([] ++ [(c1, .int)])) (kc1 := 1) (ks1 := 7) rfl rfl rfl rfl ?_
  refine g_put C hin (q0 := 0) fw_9_9 rfl rfl rfl (Nat.le_of_ble_eq_true rfl) dX10_init_9 (ws1 := [(a, .inr (9, [.int 0, .ref q1, .null, .null, .int 0, .null, .null, .null, .int 0, .null, .int 0, .int 0])), (q1, .inl (c1, 7, .inl (fun _ => 0)))]) rfl ?_
  refine g_aload_n C dX10_init_12 (i := 0) rfl rfl ?_
  refine g_bipush C dX10_init_13 (v := 7) rfl ?_
  refine g_newa C (atype := .int) (ty := .int) 7 (7, .inl (fun _ => 0)) aw_int rfl (fun _ => rfl) (by decide) rfl (by decide) (by omega) (by omega) dX10_init_15 (fun q2 c2 => ?_)
  refine g_eq (ws1 := [(a, .inr (9, [.int 0, .ref q1, .null, .null, .int 0, .null, .null, .null, .int 0, .null, .int 0, .int 0])), (q1, .inl (c1, 7, .inl (fun _ => 0))), (q2, .inl (c2, 7, .inl (fun _ => 0)))]) (ts1 := (([] ++ [(c1, .int)]) ++ [(c2, .int)])) (kc1 := 2) (ks1 := 14) rfl rfl rfl rfl ?_
  refine g_put C hin (q0 := 0) fw_9_15 rfl rfl rfl (Nat.le_of_ble_eq_true rfl) dX10_init_17 (ws1 := [(a, .inr (9, [.int 0, .ref q1, .ref q2, .null, .int 0, .null, .null, .null, .int 0, .null, .int 0, .int 0])), (q1, .inl (c1, 7, .inl (fun _ => 0))), (q2, .inl (c2, 7, .inl (fun _ => 0)))]) rfl ?_
  refine g_aload_n C dX10_init_20 (i := 0) rfl rfl ?_
  refine g_bipush C dX10_init_21 (v := 7) rfl ?_
  refine g_newa C (atype := .int) (ty := .int) 7 (7, .inl (fun _ => 0)) aw_int rfl (fun _ => rfl) (by decide) rfl (by decide) (by omega) (by omega) dX10_init_23 (fun q3 c3 => ?_)
  refine g_eq (ws1 := [(a, .inr (9, [.int 0, .ref q1, .ref q2, .null, .int 0, .null, .null, .null, .int 0, .null, .int 0, .int 0])), (q1, .inl (c1, 7, .inl (fun _ => 0))), (q2, .inl (c2, 7, .inl (fun _ => 0))), (q3, .inl (c3, 7, .inl (fun _ => 0)))]) (ts1 := ((([] ++ [(c1, .int)]) ++ [(c2, .int)]) ++ [(c3, .int)])) (kc1 := 3) (ks1 := 21) rfl rfl rfl rfl ?_
  refine g_put C hin (q0 := 0) fw_9_18 rfl rfl rfl (Nat.le_of_ble_eq_true rfl) dX10_init_25 (ws1 := [(a, .inr (9, [.int 0, .ref q1, .ref q2, .ref q3, .int 0, .null, .null, .null, .int 0, .null, .int 0, .int 0])), (q1, .inl (c1, 7, .inl (fun _ => 0))), (q2, .inl (c2, 7, .inl (fun _ => 0))), (q3, .inl (c3, 7, .inl (fun _ => 0)))]) rfl ?_
  refine g_aload_n C dX10_init_28 (i := 0) rfl rfl ?_
  refine g_iconst C dX10_init_29 (v := 5) rfl ?_
  refine g_bipush C dX10_init_30 (v := 8) rfl ?_
  refine g_mna C hG (t0 := 0) (c1 := c1) (gw2 49 rfl rfl) aw_int rfl (by omega) (by omega) dX10_init_32 (fun qh rh ch => ?_)
  refine g_eq (ws1 := [(a, .inr (9, [.int 0, .ref q1, .ref q2, .ref q3, .int 0, .null, .null, .null, .int 0, .null, .int 0, .int 0])), (q1, .inl (c1, 7, .inl (fun _ => 0))), (q2, .inl (c2, 7, .inl (fun _ => 0))), (q3, .inl (c3, 7, .inl (fun _ => 0))), (qh, .inl (ch, 5, .inr (.inr (.inr (.inr (fun i => if i < 5 then some (rh i) else none)))))), (rh 0, .inl (c1, 8, .inl (fun _ => 0))), (rh 1, .inl (c1, 8, .inl (fun _ => 0))), (rh 2, .inl (c1, 8, .inl (fun _ => 0))), (rh 3, .inl (c1, 8, .inl (fun _ => 0))), (rh 4, .inl (c1, 8, .inl (fun _ => 0)))]) (ts1 := (((([] ++ [(c1, .int)]) ++ [(c2, .int)]) ++ [(c3, .int)]) ++ [(ch, (.array .int))])) (kc1 := 9) (ks1 := 66) rfl rfl rfl rfl ?_
  refine g_put C hin (q0 := 0) fw_9_23 rfl rfl rfl (Nat.le_of_ble_eq_true rfl) dX10_init_36 (ws1 := [(a, .inr (9, [.int 0, .ref q1, .ref q2, .ref q3, .int 0, .ref qh, .null, .null, .int 0, .null, .int 0, .int 0])), (q1, .inl (c1, 7, .inl (fun _ => 0))), (q2, .inl (c2, 7, .inl (fun _ => 0))), (q3, .inl (c3, 7, .inl (fun _ => 0))), (qh, .inl (ch, 5, .inr (.inr (.inr (.inr (fun i => if i < 5 then some (rh i) else none)))))), (rh 0, .inl (c1, 8, .inl (fun _ => 0))), (rh 1, .inl (c1, 8, .inl (fun _ => 0))), (rh 2, .inl (c1, 8, .inl (fun _ => 0))), (rh 3, .inl (c1, 8, .inl (fun _ => 0))), (rh 4, .inl (c1, 8, .inl (fun _ => 0)))]) rfl ?_
  refine g_aload_n C dX10_init_39 (i := 0) rfl rfl ?_
  refine g_iconst C dX10_init_40 (v := 5) rfl ?_
  refine g_newa C (atype := .int) (ty := .int) 5 (5, .inl (fun _ => 0)) aw_int rfl (fun _ => rfl) (by decide) rfl (by decide) (by omega) (by omega) dX10_init_41 (fun q4 c4 => ?_)
  refine g_eq (ws1 := [(a, .inr (9, [.int 0, .ref q1, .ref q2, .ref q3, .int 0, .ref qh, .null, .null, .int 0, .null, .int 0, .int 0])), (q1, .inl (c1, 7, .inl (fun _ => 0))), (q2, .inl (c2, 7, .inl (fun _ => 0))), (q3, .inl (c3, 7, .inl (fun _ => 0))), (qh, .inl (ch, 5, .inr (.inr (.inr (.inr (fun i => if i < 5 then some (rh i) else none)))))), (rh 0, .inl (c1, 8, .inl (fun _ => 0))), (rh 1, .inl (c1, 8, .inl (fun _ => 0))), (rh 2, .inl (c1, 8, .inl (fun _ => 0))), (rh 3, .inl (c1, 8, .inl (fun _ => 0))), (rh 4, .inl (c1, 8, .inl (fun _ => 0))), (q4, .inl (c4, 5, .inl (fun _ => 0)))]) (ts1 := ((((([] ++ [(c1, .int)]) ++ [(c2, .int)]) ++ [(c3, .int)]) ++ [(ch, (.array .int))]) ++ [(c4, .int)])) (kc1 := 10) (ks1 := 71) rfl rfl rfl rfl ?_
  refine g_put C hin (q0 := 0) fw_9_26 rfl rfl rfl (Nat.le_of_ble_eq_true rfl) dX10_init_43 (ws1 := [(a, .inr (9, [.int 0, .ref q1, .ref q2, .ref q3, .int 0, .ref qh, .ref q4, .null, .int 0, .null, .int 0, .int 0])), (q1, .inl (c1, 7, .inl (fun _ => 0))), (q2, .inl (c2, 7, .inl (fun _ => 0))), (q3, .inl (c3, 7, .inl (fun _ => 0))), (qh, .inl (ch, 5, .inr (.inr (.inr (.inr (fun i => if i < 5 then some (rh i) else none)))))), (rh 0, .inl (c1, 8, .inl (fun _ => 0))), (rh 1, .inl (c1, 8, .inl (fun _ => 0))), (rh 2, .inl (c1, 8, .inl (fun _ => 0))), (rh 3, .inl (c1, 8, .inl (fun _ => 0))), (rh 4, .inl (c1, 8, .inl (fun _ => 0))), (q4, .inl (c4, 5, .inl (fun _ => 0)))]) rfl ?_
  refine g_aload_n C dX10_init_46 (i := 0) rfl rfl ?_
  refine g_sipush C dX10_init_47 (v := 408) rfl ?_
  refine g_newa C (atype := .int) (ty := .int) 408 (408, .inl (fun _ => 0)) aw_int rfl (fun _ => rfl) (by decide) rfl (by decide) (by omega) (by omega) dX10_init_50 (fun q5 c5 => ?_)
  refine g_eq (ws1 := [(a, .inr (9, [.int 0, .ref q1, .ref q2, .ref q3, .int 0, .ref qh, .ref q4, .null, .int 0, .null, .int 0, .int 0])), (q1, .inl (c1, 7, .inl (fun _ => 0))), (q2, .inl (c2, 7, .inl (fun _ => 0))), (q3, .inl (c3, 7, .inl (fun _ => 0))), (qh, .inl (ch, 5, .inr (.inr (.inr (.inr (fun i => if i < 5 then some (rh i) else none)))))), (rh 0, .inl (c1, 8, .inl (fun _ => 0))), (rh 1, .inl (c1, 8, .inl (fun _ => 0))), (rh 2, .inl (c1, 8, .inl (fun _ => 0))), (rh 3, .inl (c1, 8, .inl (fun _ => 0))), (rh 4, .inl (c1, 8, .inl (fun _ => 0))), (q4, .inl (c4, 5, .inl (fun _ => 0))), (q5, .inl (c5, 408, .inl (fun _ => 0)))]) (ts1 := (((((([] ++ [(c1, .int)]) ++ [(c2, .int)]) ++ [(c3, .int)]) ++ [(ch, (.array .int))]) ++ [(c4, .int)]) ++ [(c5, .int)])) (kc1 := 11) (ks1 := 479) rfl rfl rfl rfl ?_
  refine g_put C hin (q0 := 0) fw_9_29 rfl rfl rfl (Nat.le_of_ble_eq_true rfl) dX10_init_52 (ws1 := [(a, .inr (9, [.int 0, .ref q1, .ref q2, .ref q3, .int 0, .ref qh, .ref q4, .ref q5, .int 0, .null, .int 0, .int 0])), (q1, .inl (c1, 7, .inl (fun _ => 0))), (q2, .inl (c2, 7, .inl (fun _ => 0))), (q3, .inl (c3, 7, .inl (fun _ => 0))), (qh, .inl (ch, 5, .inr (.inr (.inr (.inr (fun i => if i < 5 then some (rh i) else none)))))), (rh 0, .inl (c1, 8, .inl (fun _ => 0))), (rh 1, .inl (c1, 8, .inl (fun _ => 0))), (rh 2, .inl (c1, 8, .inl (fun _ => 0))), (rh 3, .inl (c1, 8, .inl (fun _ => 0))), (rh 4, .inl (c1, 8, .inl (fun _ => 0))), (q4, .inl (c4, 5, .inl (fun _ => 0))), (q5, .inl (c5, 408, .inl (fun _ => 0)))]) rfl ?_
  refine g_aload_n C dX10_init_55 (i := 0) rfl rfl ?_
  refine g_iconst C dX10_init_56 (v := 4) rfl ?_
  refine g_newa C (atype := .int) (ty := .int) 4 (4, .inl (fun _ => 0)) aw_int rfl (fun _ => rfl) (by decide) rfl (by decide) (by omega) (by omega) dX10_init_57 (fun q6 c6 => ?_)
  refine g_eq (ws1 := [(a, .inr (9, [.int 0, .ref q1, .ref q2, .ref q3, .int 0, .ref qh, .ref q4, .ref q5, .int 0, .null, .int 0, .int 0])), (q1, .inl (c1, 7, .inl (fun _ => 0))), (q2, .inl (c2, 7, .inl (fun _ => 0))), (q3, .inl (c3, 7, .inl (fun _ => 0))), (qh, .inl (ch, 5, .inr (.inr (.inr (.inr (fun i => if i < 5 then some (rh i) else none)))))), (rh 0, .inl (c1, 8, .inl (fun _ => 0))), (rh 1, .inl (c1, 8, .inl (fun _ => 0))), (rh 2, .inl (c1, 8, .inl (fun _ => 0))), (rh 3, .inl (c1, 8, .inl (fun _ => 0))), (rh 4, .inl (c1, 8, .inl (fun _ => 0))), (q4, .inl (c4, 5, .inl (fun _ => 0))), (q5, .inl (c5, 408, .inl (fun _ => 0))), (q6, .inl (c6, 4, .inl (fun _ => 0)))]) (ts1 := ((((((([] ++ [(c1, .int)]) ++ [(c2, .int)]) ++ [(c3, .int)]) ++ [(ch, (.array .int))]) ++ [(c4, .int)]) ++ [(c5, .int)]) ++ [(c6, .int)])) (kc1 := 12) (ks1 := 483) rfl rfl rfl rfl ?_
  refine g_put C hin (q0 := 0) fw_9_32 rfl rfl rfl (Nat.le_of_ble_eq_true rfl) dX10_init_59 (ws1 := [(a, .inr (9, [.int 0, .ref q1, .ref q2, .ref q3, .int 0, .ref qh, .ref q4, .ref q5, .int 0, .ref q6, .int 0, .int 0])), (q1, .inl (c1, 7, .inl (fun _ => 0))), (q2, .inl (c2, 7, .inl (fun _ => 0))), (q3, .inl (c3, 7, .inl (fun _ => 0))), (qh, .inl (ch, 5, .inr (.inr (.inr (.inr (fun i => if i < 5 then some (rh i) else none)))))), (rh 0, .inl (c1, 8, .inl (fun _ => 0))), (rh 1, .inl (c1, 8, .inl (fun _ => 0))), (rh 2, .inl (c1, 8, .inl (fun _ => 0))), (rh 3, .inl (c1, 8, .inl (fun _ => 0))), (rh 4, .inl (c1, 8, .inl (fun _ => 0))), (q4, .inl (c4, 5, .inl (fun _ => 0))), (q5, .inl (c5, 408, .inl (fun _ => 0))), (q6, .inl (c6, 4, .inl (fun _ => 0)))]) rfl ?_
  have eh : (fun i => if i < 5 then some (rh i) else none) = rfK (fun i => if i = 30 then a else if i = 31 then q1 else if i = 32 then q2 else if i = 33 then q3 else if i = 34 then qh else if i = 35 then rh 0 else if i = 36 then rh 1 else if i = 37 then rh 2 else if i = 38 then rh 3 else if i = 39 then rh 4 else if i = 40 then q4 else if i = 41 then q5 else if i = 42 then q6 else 0) 26 34 := by
    funext i
    show _ = if i < 5 then some ((fun i => if i = 30 then a else if i = 31 then q1 else if i = 32 then q2 else if i = 33 then q3 else if i = 34 then qh else if i = 35 then rh 0 else if i = 36 then rh 1 else if i = 37 then rh 2 else if i = 38 then rh 3 else if i = 39 then rh 4 else if i = 40 then q4 else if i = 41 then q5 else if i = 42 then q6 else 0) (34 + 1 + i)) else none
    by_cases h : i < 5
    · rw [if_pos h, if_pos h]
      rcases (show i = 0 ∨ i = 1 ∨ i = 2 ∨ i = 3 ∨ i = 4 by omega) with rfl | rfl | rfl | rfl | rfl <;> rfl
    · rw [if_neg h, if_neg h]
  rw [eh]
  refine g_aw (ids := [30, 31, 32, 33, 34, 35, 36, 37, 38, 39, 40, 41, 42]) (ad := (fun i => if i = 30 then a else if i = 31 then q1 else if i = 32 then q2 else if i = 33 then q3 else if i = 34 then qh else if i = 35 then rh 0 else if i = 36 then rh 1 else if i = 37 then rh 2 else if i = 38 then rh 3 else if i = 39 then rh 4 else if i = 40 then q4 else if i = 41 then q5 else if i = 42 then q6 else 0)) (ca := (fun i => if i = 31 then c1 else if i = 32 then c2 else if i = 33 then c3 else if i = 34 then ch else if i = 35 then c1 else if i = 36 then c1 else if i = 37 then c1 else if i = 38 then c1 else if i = 39 then c1 else if i = 40 then c4 else if i = 41 then c5 else if i = 42 then c6 else c1)) (σ := (fun _ _ => 0, fun _ _ => 0, fun _ => 0)) C (by omega) (by omega) rfl (fun q hq => by
    have hq : q ∈ ([(c1, .int), (c2, .int), (c3, .int), (ch, .array .int), (c1, .int), (c1, .int), (c1, .int), (c1, .int), (c1, .int), (c4, .int), (c5, .int), (c6, .int)] : List (ClassId × FieldType)) := hq
    simp only [List.mem_cons, List.not_mem_nil, or_false] at hq
    rcases hq with rfl | rfl | rfl | rfl | rfl | rfl | rfl | rfl | rfl | rfl | rfl | rfl <;> simp) (fun C => ?_)
  have Rt := rv_of_rn C Rt (by decide) (by decide) rfl
  have hid : ∀ i, i ∈ ([30, 31, 32, 33, 34, 35, 36, 37, 38, 39, 40, 41, 42] : List Nat) → i ∈ ([30, 31, 32, 33, 34, 35, 36, 37, 38, 39, 40, 41, 42] : List Nat) := fun _ h => h
  show AW [30, 31, 32, 33, 34, 35, 36, 37, 38, 39, 40, 41, 42] (fun i => if i = 30 then a else if i = 31 then q1 else if i = 32 then q2 else if i = 33 then q3 else if i = 34 then qh else if i = 35 then rh 0 else if i = 36 then rh 1 else if i = 37 then rh 2 else if i = 38 then rh 3 else if i = 39 then rh 4 else if i = 40 then q4 else if i = 41 then q5 else if i = 42 then q6 else 0) (fun i => if i = 31 then c1 else if i = 32 then c2 else if i = 33 then c3 else if i = 34 then ch else if i = 35 then c1 else if i = 36 then c1 else if i = 37 then c1 else if i = 38 then c1 else if i = 39 then c1 else if i = 40 then c4 else if i = 41 then c5 else if i = 42 then c6 else c1) _ 62 [some (.ref ((fun i => if i = 30 then a else if i = 31 then q1 else if i = 32 then q2 else if i = 33 then q3 else if i = 34 then qh else if i = 35 then rh 0 else if i = 36 then rh 1 else if i = 37 then rh 2 else if i = 38 then rh 3 else if i = 39 then rh 4 else if i = 40 then q4 else if i = 41 then q5 else if i = 42 then q6 else 0) 30))] [] _
  refine a_aload_n C dX10_init_62 (i := 0) rfl rfl ?_
  refine a_callVv C (i := 30) kd_30 (hid 30 (by decide)) ⟨_, _, rfl⟩ (by decide) (k_clearT hid) mi_X10_clear ml_RX10_35 rfl rfl (Nat.le_of_ble_eq_true rfl) (Nat.le_of_ble_eq_true rfl) (Nat.le_of_ble_eq_true rfl) dX10_init_63 (fun σ2 q3 => ?_)
  subst q3
  exact a_vret Rt dX10_init_66 (by refine ⟨?_, fun h => absurd h (by decide)⟩; decide +kernel)

def kb_cX12_appends_0 : List Nat := [28, 154, 0, 7, 30, 167, 0, 16, 20, 0, 163, 30, 105, 28, 16, 97, 100, 4, 96, 133]
theorem ac_cX12_appends_0 : AL cX12_appends 0 kb_cX12_appends_0 := AL.of (m := 20) (by decide +kernel)
theorem dX12_appends_0 : decode cX12_appends 0 = .ok (.iload_n 2, 1) := o28 ac_cX12_appends_0 0 rfl
theorem dX12_appends_1 : decode cX12_appends 1 = .ok (.ifCond .ne 7, 3) := o154p ac_cX12_appends_0 1 0 7 rfl rfl
theorem dX12_appends_4 : decode cX12_appends 4 = .ok (.lload_n 0, 1) := o30 ac_cX12_appends_0 4 rfl
theorem dX12_appends_5 : decode cX12_appends 5 = .ok (.goto 16, 3) := o167p ac_cX12_appends_0 5 0 16 rfl rfl
def kb_cX12_appends_16 : List Nat := [100, 4, 96, 133, 97, 173]
theorem ac_cX12_appends_16 : AL cX12_appends 16 kb_cX12_appends_16 := AL.of (m := 6) (by decide +kernel)
theorem dX12_appends_21 : decode cX12_appends 21 = .ok (.lreturn, 1) := o173 ac_cX12_appends_16 5 rfl
set_option maxHeartbeats 4000000 in
set_option maxRecDepth 100000 in
theorem i_app0 {l : Launch} {D : va_G} {ids : List Nat} {ad : Nat → Nat} {ca : Nat → ClassId} {σ : HS} {x : Int64} (hid : ∀ i, 236 ≤ i ∧ i < 277 → i ∈ ids) : Kl l D ids ad ca yX12_appends cX12_appends 3 0 0 [.long x, .int 0] σ (fun r σ1 => r = x ∧ σ1 = σ) := by
  refine Kl.of (by decide) (Nat.le_of_ble_eq_true rfl) 0 (fun Γ C Rt => ?_)
  show AW ids ad ca Γ 0 [some (.long x), none, some (.int 0)] [] σ
  refine a_iload_n C dX12_appends_0 (i := 2) rfl rfl ?_
  refine a_if_ne C dX12_appends_1 (tgt := 8) rfl (fun h => absurd h (by decide)) (fun _ => ?_)
  refine a_lload_n C dX12_appends_4 (i := 0) rfl rfl ?_
  refine a_goto C dX12_appends_5 (tgt := 21) rfl ?_
  exact a_lret Rt dX12_appends_21 (⟨rfl, rfl⟩)
theorem dX12_appends_8 : decode cX12_appends 8 = .ok (.ldc2_w 163, 3) := o20 ac_cX12_appends_0 8 0 163 rfl
theorem dX12_appends_11 : decode cX12_appends 11 = .ok (.lload_n 0, 1) := o30 ac_cX12_appends_0 11 rfl
theorem dX12_appends_12 : decode cX12_appends 12 = .ok (.lmul, 1) := o105 ac_cX12_appends_0 12 rfl
theorem dX12_appends_13 : decode cX12_appends 13 = .ok (.iload_n 2, 1) := o28 ac_cX12_appends_0 13 rfl
theorem dX12_appends_14 : decode cX12_appends 14 = .ok (.bipush 97, 2) := o16p ac_cX12_appends_0 14 97 rfl rfl
theorem dX12_appends_16 : decode cX12_appends 16 = .ok (.isub, 1) := o100 ac_cX12_appends_16 0 rfl
theorem dX12_appends_17 : decode cX12_appends 17 = .ok (.iconst 1, 1) := o4 ac_cX12_appends_16 1 rfl
theorem dX12_appends_18 : decode cX12_appends 18 = .ok (.iadd, 1) := o96 ac_cX12_appends_16 2 rfl
theorem dX12_appends_19 : decode cX12_appends 19 = .ok (.i2l, 1) := o133 ac_cX12_appends_16 3 rfl
theorem dX12_appends_20 : decode cX12_appends 20 = .ok (.ladd, 1) := o97 ac_cX12_appends_16 4 rfl
set_option maxHeartbeats 4000000 in
set_option maxRecDepth 100000 in
theorem i_app1 {l : Launch} {D : va_G} {ids : List Nat} {ad : Nat → Nat} {ca : Nat → ClassId} {σ : HS} {x : Int64} {p1 : Int32} (hid : ∀ i, 236 ≤ i ∧ i < 277 → i ∈ ids) (hc : ¬ p1 = 0) : Kl l D ids ad ca yX12_appends cX12_appends 3 0 0 [.long x, .int p1] σ (fun r σ1 => r = ((27 * x) + (((p1 - 97) + 1).toInt64)) ∧ σ1 = σ) := by
  refine Kl.of (by decide) (Nat.le_of_ble_eq_true rfl) 0 (fun Γ C Rt => ?_)
  show AW ids ad ca Γ 0 [some (.long x), none, some (.int p1)] [] σ
  refine a_iload_n C dX12_appends_0 (i := 2) rfl rfl ?_
  refine a_if_ne C dX12_appends_1 (tgt := 8) rfl (fun c1 => ?_) (fun c1 => absurd c1 (hc))
  refine a_ldc2 C dX12_appends_8 ko_RX12_163 ?_
  refine a_lload_n C dX12_appends_11 (i := 0) rfl rfl ?_
  refine a_lmul C dX12_appends_12 ?_
  refine a_iload_n C dX12_appends_13 (i := 2) rfl rfl ?_
  refine a_bipush C dX12_appends_14 (v := 97) rfl ?_
  refine a_isub C dX12_appends_16 ?_
  refine a_iconst C dX12_appends_17 (v := 1) rfl ?_
  refine a_iadd C dX12_appends_18 ?_
  refine a_i2l C dX12_appends_19 ?_
  refine a_ladd C dX12_appends_20 ?_
  exact a_lret Rt dX12_appends_21 (⟨rfl, rfl⟩)
def kb_cX12_word_0 : List Nat := [9, 26, 184, 0, 165, 27, 184, 0, 165, 28, 184, 0, 165, 29, 184, 0, 165, 21, 4, 184]
theorem ac_cX12_word_0 : AL cX12_word 0 kb_cX12_word_0 := AL.of (m := 20) (by decide +kernel)
theorem dX12_word_0 : decode cX12_word 0 = .ok (.lconst 0, 1) := o9 ac_cX12_word_0 0 rfl
theorem dX12_word_1 : decode cX12_word 1 = .ok (.iload_n 0, 1) := o26 ac_cX12_word_0 1 rfl
theorem dX12_word_2 : decode cX12_word 2 = .ok (.invokestatic 165, 3) := o184 ac_cX12_word_0 2 0 165 rfl
theorem dX12_word_5 : decode cX12_word 5 = .ok (.iload_n 1, 1) := o27 ac_cX12_word_0 5 rfl
theorem dX12_word_6 : decode cX12_word 6 = .ok (.invokestatic 165, 3) := o184 ac_cX12_word_0 6 0 165 rfl
theorem dX12_word_9 : decode cX12_word 9 = .ok (.iload_n 2, 1) := o28 ac_cX12_word_0 9 rfl
theorem dX12_word_10 : decode cX12_word 10 = .ok (.invokestatic 165, 3) := o184 ac_cX12_word_0 10 0 165 rfl
theorem dX12_word_13 : decode cX12_word 13 = .ok (.iload_n 3, 1) := o29 ac_cX12_word_0 13 rfl
theorem dX12_word_14 : decode cX12_word 14 = .ok (.invokestatic 165, 3) := o184 ac_cX12_word_0 14 0 165 rfl
def kb_cX12_word_16 : List Nat := [165, 21, 4, 184, 0, 165, 21, 5, 184, 0, 165, 21, 6, 184, 0, 165, 173]
theorem ac_cX12_word_16 : AL cX12_word 16 kb_cX12_word_16 := AL.of (m := 17) (by decide +kernel)
theorem dX12_word_17 : decode cX12_word 17 = .ok (.iload 4, 2) := o21 ac_cX12_word_16 1 4 rfl
theorem dX12_word_19 : decode cX12_word 19 = .ok (.invokestatic 165, 3) := o184 ac_cX12_word_16 3 0 165 rfl
theorem dX12_word_22 : decode cX12_word 22 = .ok (.iload 5, 2) := o21 ac_cX12_word_16 6 5 rfl
theorem dX12_word_24 : decode cX12_word 24 = .ok (.invokestatic 165, 3) := o184 ac_cX12_word_16 8 0 165 rfl
theorem dX12_word_27 : decode cX12_word 27 = .ok (.iload 6, 2) := o21 ac_cX12_word_16 11 6 rfl
theorem dX12_word_29 : decode cX12_word 29 = .ok (.invokestatic 165, 3) := o184 ac_cX12_word_16 13 0 165 rfl
def kb_cX12_word_32 : List Nat := [173]
theorem ac_cX12_word_32 : AL cX12_word 32 kb_cX12_word_32 := AL.of (m := 1) (by decide +kernel)
theorem dX12_word_32 : decode cX12_word 32 = .ok (.lreturn, 1) := o173 ac_cX12_word_32 0 rfl
set_option maxHeartbeats 4000000 in
set_option maxRecDepth 100000 in
theorem i_word_0 {l : Launch} {D : va_G} {ids : List Nat} {ad : Nat → Nat} {ca : Nat → ClassId} {σ : HS} (hid : ∀ i, 236 ≤ i ∧ i < 277 → i ∈ ids) : Kl l D ids ad ca yX12_word cX12_word 7 1 22 [.int 116, .int 104, .int 105, .int 110, .int 103, .int 0, .int 0] σ (fun r σ1 => r = 10793230 ∧ σ1 = σ) := by
  refine Kl.of (by decide) (Nat.le_of_ble_eq_true rfl) 0 (fun Γ C Rt => ?_)
  show AW ids ad ca Γ 0 [some (.int 116), some (.int 104), some (.int 105), some (.int 110), some (.int 103), some (.int 0), some (.int 0)] [] σ
  refine a_lconst C dX12_word_0 (v := 0) rfl ?_
  refine a_iload_n C dX12_word_1 (i := 0) rfl rfl ?_
  refine a_callSl C (i_app1 hid (by decide)) ms_X12_appends ml_RX12_165 rfl rfl (Nat.le_of_ble_eq_true rfl) (Nat.le_of_ble_eq_true rfl) (Nat.le_of_ble_eq_true rfl) dX12_word_2 (fun r1 σ2 q3 => ?_)
  obtain ⟨rfl, q3⟩ := q3
  rw [q3]
  refine a_iload_n C dX12_word_5 (i := 1) rfl rfl ?_
  refine a_callSl C (i_app1 hid (by decide)) ms_X12_appends ml_RX12_165 rfl rfl (Nat.le_of_ble_eq_true rfl) (Nat.le_of_ble_eq_true rfl) (Nat.le_of_ble_eq_true rfl) dX12_word_6 (fun r4 σ5 q6 => ?_)
  obtain ⟨rfl, q6⟩ := q6
  rw [q6]
  refine a_iload_n C dX12_word_9 (i := 2) rfl rfl ?_
  refine a_callSl C (i_app1 hid (by decide)) ms_X12_appends ml_RX12_165 rfl rfl (Nat.le_of_ble_eq_true rfl) (Nat.le_of_ble_eq_true rfl) (Nat.le_of_ble_eq_true rfl) dX12_word_10 (fun r7 σ8 q9 => ?_)
  obtain ⟨rfl, q9⟩ := q9
  rw [q9]
  refine a_iload_n C dX12_word_13 (i := 3) rfl rfl ?_
  refine a_callSl C (i_app1 hid (by decide)) ms_X12_appends ml_RX12_165 rfl rfl (Nat.le_of_ble_eq_true rfl) (Nat.le_of_ble_eq_true rfl) (Nat.le_of_ble_eq_true rfl) dX12_word_14 (fun r10 σ11 q12 => ?_)
  obtain ⟨rfl, q12⟩ := q12
  rw [q12]
  refine a_iload C dX12_word_17 rfl ?_
  refine a_callSl C (i_app1 hid (by decide)) ms_X12_appends ml_RX12_165 rfl rfl (Nat.le_of_ble_eq_true rfl) (Nat.le_of_ble_eq_true rfl) (Nat.le_of_ble_eq_true rfl) dX12_word_19 (fun r13 σ14 q15 => ?_)
  obtain ⟨rfl, q15⟩ := q15
  rw [q15]
  refine a_iload C dX12_word_22 rfl ?_
  refine a_callSl C (i_app0 hid) ms_X12_appends ml_RX12_165 rfl rfl (Nat.le_of_ble_eq_true rfl) (Nat.le_of_ble_eq_true rfl) (Nat.le_of_ble_eq_true rfl) dX12_word_24 (fun r16 σ17 q18 => ?_)
  obtain ⟨rfl, q18⟩ := q18
  rw [q18]
  refine a_iload C dX12_word_27 rfl ?_
  refine a_callSl C (i_app0 hid) ms_X12_appends ml_RX12_165 rfl rfl (Nat.le_of_ble_eq_true rfl) (Nat.le_of_ble_eq_true rfl) (Nat.le_of_ble_eq_true rfl) dX12_word_29 (fun r19 σ20 q21 => ?_)
  obtain ⟨rfl, q21⟩ := q21
  rw [q21]
  exact a_lret Rt dX12_word_32 (⟨rfl, rfl⟩)
set_option maxHeartbeats 4000000 in
set_option maxRecDepth 100000 in
theorem i_word_1 {l : Launch} {D : va_G} {ids : List Nat} {ad : Nat → Nat} {ca : Nat → ClassId} {σ : HS} (hid : ∀ i, 236 ≤ i ∧ i < 277 → i ∈ ids) : Kl l D ids ad ca yX12_word cX12_word 7 1 22 [.int 112, .int 97, .int 116, .int 116, .int 101, .int 114, .int 110] σ (fun r σ1 => r = 6224103356 ∧ σ1 = σ) := by
  refine Kl.of (by decide) (Nat.le_of_ble_eq_true rfl) 0 (fun Γ C Rt => ?_)
  show AW ids ad ca Γ 0 [some (.int 112), some (.int 97), some (.int 116), some (.int 116), some (.int 101), some (.int 114), some (.int 110)] [] σ
  refine a_lconst C dX12_word_0 (v := 0) rfl ?_
  refine a_iload_n C dX12_word_1 (i := 0) rfl rfl ?_
  refine a_callSl C (i_app1 hid (by decide)) ms_X12_appends ml_RX12_165 rfl rfl (Nat.le_of_ble_eq_true rfl) (Nat.le_of_ble_eq_true rfl) (Nat.le_of_ble_eq_true rfl) dX12_word_2 (fun r1 σ2 q3 => ?_)
  obtain ⟨rfl, q3⟩ := q3
  rw [q3]
  refine a_iload_n C dX12_word_5 (i := 1) rfl rfl ?_
  refine a_callSl C (i_app1 hid (by decide)) ms_X12_appends ml_RX12_165 rfl rfl (Nat.le_of_ble_eq_true rfl) (Nat.le_of_ble_eq_true rfl) (Nat.le_of_ble_eq_true rfl) dX12_word_6 (fun r4 σ5 q6 => ?_)
  obtain ⟨rfl, q6⟩ := q6
  rw [q6]
  refine a_iload_n C dX12_word_9 (i := 2) rfl rfl ?_
  refine a_callSl C (i_app1 hid (by decide)) ms_X12_appends ml_RX12_165 rfl rfl (Nat.le_of_ble_eq_true rfl) (Nat.le_of_ble_eq_true rfl) (Nat.le_of_ble_eq_true rfl) dX12_word_10 (fun r7 σ8 q9 => ?_)
  obtain ⟨rfl, q9⟩ := q9
  rw [q9]
  refine a_iload_n C dX12_word_13 (i := 3) rfl rfl ?_
  refine a_callSl C (i_app1 hid (by decide)) ms_X12_appends ml_RX12_165 rfl rfl (Nat.le_of_ble_eq_true rfl) (Nat.le_of_ble_eq_true rfl) (Nat.le_of_ble_eq_true rfl) dX12_word_14 (fun r10 σ11 q12 => ?_)
  obtain ⟨rfl, q12⟩ := q12
  rw [q12]
  refine a_iload C dX12_word_17 rfl ?_
  refine a_callSl C (i_app1 hid (by decide)) ms_X12_appends ml_RX12_165 rfl rfl (Nat.le_of_ble_eq_true rfl) (Nat.le_of_ble_eq_true rfl) (Nat.le_of_ble_eq_true rfl) dX12_word_19 (fun r13 σ14 q15 => ?_)
  obtain ⟨rfl, q15⟩ := q15
  rw [q15]
  refine a_iload C dX12_word_22 rfl ?_
  refine a_callSl C (i_app1 hid (by decide)) ms_X12_appends ml_RX12_165 rfl rfl (Nat.le_of_ble_eq_true rfl) (Nat.le_of_ble_eq_true rfl) (Nat.le_of_ble_eq_true rfl) dX12_word_24 (fun r16 σ17 q18 => ?_)
  obtain ⟨rfl, q18⟩ := q18
  rw [q18]
  refine a_iload C dX12_word_27 rfl ?_
  refine a_callSl C (i_app1 hid (by decide)) ms_X12_appends ml_RX12_165 rfl rfl (Nat.le_of_ble_eq_true rfl) (Nat.le_of_ble_eq_true rfl) (Nat.le_of_ble_eq_true rfl) dX12_word_29 (fun r19 σ20 q21 => ?_)
  obtain ⟨rfl, q21⟩ := q21
  rw [q21]
  exact a_lret Rt dX12_word_32 (⟨rfl, rfl⟩)
set_option maxHeartbeats 4000000 in
set_option maxRecDepth 100000 in
theorem i_word_2 {l : Launch} {D : va_G} {ids : List Nat} {ad : Nat → Nat} {ca : Nat → ClassId} {σ : HS} (hid : ∀ i, 236 ≤ i ∧ i < 277 → i ∈ ids) : Kl l D ids ad ca yX12_word cX12_word 7 1 22 [.int 116, .int 105, .int 114, .int 101, .int 115, .int 0, .int 0] σ (fun r σ1 => r = 10819243 ∧ σ1 = σ) := by
  refine Kl.of (by decide) (Nat.le_of_ble_eq_true rfl) 0 (fun Γ C Rt => ?_)
  show AW ids ad ca Γ 0 [some (.int 116), some (.int 105), some (.int 114), some (.int 101), some (.int 115), some (.int 0), some (.int 0)] [] σ
  refine a_lconst C dX12_word_0 (v := 0) rfl ?_
  refine a_iload_n C dX12_word_1 (i := 0) rfl rfl ?_
  refine a_callSl C (i_app1 hid (by decide)) ms_X12_appends ml_RX12_165 rfl rfl (Nat.le_of_ble_eq_true rfl) (Nat.le_of_ble_eq_true rfl) (Nat.le_of_ble_eq_true rfl) dX12_word_2 (fun r1 σ2 q3 => ?_)
  obtain ⟨rfl, q3⟩ := q3
  rw [q3]
  refine a_iload_n C dX12_word_5 (i := 1) rfl rfl ?_
  refine a_callSl C (i_app1 hid (by decide)) ms_X12_appends ml_RX12_165 rfl rfl (Nat.le_of_ble_eq_true rfl) (Nat.le_of_ble_eq_true rfl) (Nat.le_of_ble_eq_true rfl) dX12_word_6 (fun r4 σ5 q6 => ?_)
  obtain ⟨rfl, q6⟩ := q6
  rw [q6]
  refine a_iload_n C dX12_word_9 (i := 2) rfl rfl ?_
  refine a_callSl C (i_app1 hid (by decide)) ms_X12_appends ml_RX12_165 rfl rfl (Nat.le_of_ble_eq_true rfl) (Nat.le_of_ble_eq_true rfl) (Nat.le_of_ble_eq_true rfl) dX12_word_10 (fun r7 σ8 q9 => ?_)
  obtain ⟨rfl, q9⟩ := q9
  rw [q9]
  refine a_iload_n C dX12_word_13 (i := 3) rfl rfl ?_
  refine a_callSl C (i_app1 hid (by decide)) ms_X12_appends ml_RX12_165 rfl rfl (Nat.le_of_ble_eq_true rfl) (Nat.le_of_ble_eq_true rfl) (Nat.le_of_ble_eq_true rfl) dX12_word_14 (fun r10 σ11 q12 => ?_)
  obtain ⟨rfl, q12⟩ := q12
  rw [q12]
  refine a_iload C dX12_word_17 rfl ?_
  refine a_callSl C (i_app1 hid (by decide)) ms_X12_appends ml_RX12_165 rfl rfl (Nat.le_of_ble_eq_true rfl) (Nat.le_of_ble_eq_true rfl) (Nat.le_of_ble_eq_true rfl) dX12_word_19 (fun r13 σ14 q15 => ?_)
  obtain ⟨rfl, q15⟩ := q15
  rw [q15]
  refine a_iload C dX12_word_22 rfl ?_
  refine a_callSl C (i_app0 hid) ms_X12_appends ml_RX12_165 rfl rfl (Nat.le_of_ble_eq_true rfl) (Nat.le_of_ble_eq_true rfl) (Nat.le_of_ble_eq_true rfl) dX12_word_24 (fun r16 σ17 q18 => ?_)
  obtain ⟨rfl, q18⟩ := q18
  rw [q18]
  refine a_iload C dX12_word_27 rfl ?_
  refine a_callSl C (i_app0 hid) ms_X12_appends ml_RX12_165 rfl rfl (Nat.le_of_ble_eq_true rfl) (Nat.le_of_ble_eq_true rfl) (Nat.le_of_ble_eq_true rfl) dX12_word_29 (fun r19 σ20 q21 => ?_)
  obtain ⟨rfl, q21⟩ := q21
  rw [q21]
  exact a_lret Rt dX12_word_32 (⟨rfl, rfl⟩)
set_option maxHeartbeats 4000000 in
set_option maxRecDepth 100000 in
theorem i_word_3 {l : Launch} {D : va_G} {ids : List Nat} {ad : Nat → Nat} {ca : Nat → ClassId} {σ : HS} (hid : ∀ i, 236 ≤ i ∧ i < 277 → i ∈ ids) : Kl l D ids ad ca yX12_word cX12_word 7 1 22 [.int 100, .int 114, .int 111, .int 112, .int 115, .int 0, .int 0] σ (fun r σ1 => r = 2491444 ∧ σ1 = σ) := by
  refine Kl.of (by decide) (Nat.le_of_ble_eq_true rfl) 0 (fun Γ C Rt => ?_)
  show AW ids ad ca Γ 0 [some (.int 100), some (.int 114), some (.int 111), some (.int 112), some (.int 115), some (.int 0), some (.int 0)] [] σ
  refine a_lconst C dX12_word_0 (v := 0) rfl ?_
  refine a_iload_n C dX12_word_1 (i := 0) rfl rfl ?_
  refine a_callSl C (i_app1 hid (by decide)) ms_X12_appends ml_RX12_165 rfl rfl (Nat.le_of_ble_eq_true rfl) (Nat.le_of_ble_eq_true rfl) (Nat.le_of_ble_eq_true rfl) dX12_word_2 (fun r1 σ2 q3 => ?_)
  obtain ⟨rfl, q3⟩ := q3
  rw [q3]
  refine a_iload_n C dX12_word_5 (i := 1) rfl rfl ?_
  refine a_callSl C (i_app1 hid (by decide)) ms_X12_appends ml_RX12_165 rfl rfl (Nat.le_of_ble_eq_true rfl) (Nat.le_of_ble_eq_true rfl) (Nat.le_of_ble_eq_true rfl) dX12_word_6 (fun r4 σ5 q6 => ?_)
  obtain ⟨rfl, q6⟩ := q6
  rw [q6]
  refine a_iload_n C dX12_word_9 (i := 2) rfl rfl ?_
  refine a_callSl C (i_app1 hid (by decide)) ms_X12_appends ml_RX12_165 rfl rfl (Nat.le_of_ble_eq_true rfl) (Nat.le_of_ble_eq_true rfl) (Nat.le_of_ble_eq_true rfl) dX12_word_10 (fun r7 σ8 q9 => ?_)
  obtain ⟨rfl, q9⟩ := q9
  rw [q9]
  refine a_iload_n C dX12_word_13 (i := 3) rfl rfl ?_
  refine a_callSl C (i_app1 hid (by decide)) ms_X12_appends ml_RX12_165 rfl rfl (Nat.le_of_ble_eq_true rfl) (Nat.le_of_ble_eq_true rfl) (Nat.le_of_ble_eq_true rfl) dX12_word_14 (fun r10 σ11 q12 => ?_)
  obtain ⟨rfl, q12⟩ := q12
  rw [q12]
  refine a_iload C dX12_word_17 rfl ?_
  refine a_callSl C (i_app1 hid (by decide)) ms_X12_appends ml_RX12_165 rfl rfl (Nat.le_of_ble_eq_true rfl) (Nat.le_of_ble_eq_true rfl) (Nat.le_of_ble_eq_true rfl) dX12_word_19 (fun r13 σ14 q15 => ?_)
  obtain ⟨rfl, q15⟩ := q15
  rw [q15]
  refine a_iload C dX12_word_22 rfl ?_
  refine a_callSl C (i_app0 hid) ms_X12_appends ml_RX12_165 rfl rfl (Nat.le_of_ble_eq_true rfl) (Nat.le_of_ble_eq_true rfl) (Nat.le_of_ble_eq_true rfl) dX12_word_24 (fun r16 σ17 q18 => ?_)
  obtain ⟨rfl, q18⟩ := q18
  rw [q18]
  refine a_iload C dX12_word_27 rfl ?_
  refine a_callSl C (i_app0 hid) ms_X12_appends ml_RX12_165 rfl rfl (Nat.le_of_ble_eq_true rfl) (Nat.le_of_ble_eq_true rfl) (Nat.le_of_ble_eq_true rfl) dX12_word_29 (fun r19 σ20 q21 => ?_)
  obtain ⟨rfl, q21⟩ := q21
  rw [q21]
  exact a_lret Rt dX12_word_32 (⟨rfl, rfl⟩)
set_option maxHeartbeats 4000000 in
set_option maxRecDepth 100000 in
theorem i_word_4 {l : Launch} {D : va_G} {ids : List Nat} {ad : Nat → Nat} {ca : Nat → ClassId} {σ : HS} (hid : ∀ i, 236 ≤ i ∧ i < 277 → i ∈ ids) : Kl l D ids ad ca yX12_word cX12_word 7 1 22 [.int 102, .int 111, .int 114, .int 99, .int 101, .int 0, .int 0] σ (fun r σ1 => r = 3497099 ∧ σ1 = σ) := by
  refine Kl.of (by decide) (Nat.le_of_ble_eq_true rfl) 0 (fun Γ C Rt => ?_)
  show AW ids ad ca Γ 0 [some (.int 102), some (.int 111), some (.int 114), some (.int 99), some (.int 101), some (.int 0), some (.int 0)] [] σ
  refine a_lconst C dX12_word_0 (v := 0) rfl ?_
  refine a_iload_n C dX12_word_1 (i := 0) rfl rfl ?_
  refine a_callSl C (i_app1 hid (by decide)) ms_X12_appends ml_RX12_165 rfl rfl (Nat.le_of_ble_eq_true rfl) (Nat.le_of_ble_eq_true rfl) (Nat.le_of_ble_eq_true rfl) dX12_word_2 (fun r1 σ2 q3 => ?_)
  obtain ⟨rfl, q3⟩ := q3
  rw [q3]
  refine a_iload_n C dX12_word_5 (i := 1) rfl rfl ?_
  refine a_callSl C (i_app1 hid (by decide)) ms_X12_appends ml_RX12_165 rfl rfl (Nat.le_of_ble_eq_true rfl) (Nat.le_of_ble_eq_true rfl) (Nat.le_of_ble_eq_true rfl) dX12_word_6 (fun r4 σ5 q6 => ?_)
  obtain ⟨rfl, q6⟩ := q6
  rw [q6]
  refine a_iload_n C dX12_word_9 (i := 2) rfl rfl ?_
  refine a_callSl C (i_app1 hid (by decide)) ms_X12_appends ml_RX12_165 rfl rfl (Nat.le_of_ble_eq_true rfl) (Nat.le_of_ble_eq_true rfl) (Nat.le_of_ble_eq_true rfl) dX12_word_10 (fun r7 σ8 q9 => ?_)
  obtain ⟨rfl, q9⟩ := q9
  rw [q9]
  refine a_iload_n C dX12_word_13 (i := 3) rfl rfl ?_
  refine a_callSl C (i_app1 hid (by decide)) ms_X12_appends ml_RX12_165 rfl rfl (Nat.le_of_ble_eq_true rfl) (Nat.le_of_ble_eq_true rfl) (Nat.le_of_ble_eq_true rfl) dX12_word_14 (fun r10 σ11 q12 => ?_)
  obtain ⟨rfl, q12⟩ := q12
  rw [q12]
  refine a_iload C dX12_word_17 rfl ?_
  refine a_callSl C (i_app1 hid (by decide)) ms_X12_appends ml_RX12_165 rfl rfl (Nat.le_of_ble_eq_true rfl) (Nat.le_of_ble_eq_true rfl) (Nat.le_of_ble_eq_true rfl) dX12_word_19 (fun r13 σ14 q15 => ?_)
  obtain ⟨rfl, q15⟩ := q15
  rw [q15]
  refine a_iload C dX12_word_22 rfl ?_
  refine a_callSl C (i_app0 hid) ms_X12_appends ml_RX12_165 rfl rfl (Nat.le_of_ble_eq_true rfl) (Nat.le_of_ble_eq_true rfl) (Nat.le_of_ble_eq_true rfl) dX12_word_24 (fun r16 σ17 q18 => ?_)
  obtain ⟨rfl, q18⟩ := q18
  rw [q18]
  refine a_iload C dX12_word_27 rfl ?_
  refine a_callSl C (i_app0 hid) ms_X12_appends ml_RX12_165 rfl rfl (Nat.le_of_ble_eq_true rfl) (Nat.le_of_ble_eq_true rfl) (Nat.le_of_ble_eq_true rfl) dX12_word_29 (fun r19 σ20 q21 => ?_)
  obtain ⟨rfl, q21⟩ := q21
  rw [q21]
  exact a_lret Rt dX12_word_32 (⟨rfl, rfl⟩)
set_option maxHeartbeats 4000000 in
set_option maxRecDepth 100000 in
theorem i_word_5 {l : Launch} {D : va_G} {ids : List Nat} {ad : Nat → Nat} {ca : Nat → ClassId} {σ : HS} (hid : ∀ i, 236 ≤ i ∧ i < 277 → i ∈ ids) : Kl l D ids ad ca yX12_word cX12_word 7 1 22 [.int 112, .int 97, .int 121, .int 115, .int 0, .int 0, .int 0] σ (fun r σ1 => r = 316351 ∧ σ1 = σ) := by
  refine Kl.of (by decide) (Nat.le_of_ble_eq_true rfl) 0 (fun Γ C Rt => ?_)
  show AW ids ad ca Γ 0 [some (.int 112), some (.int 97), some (.int 121), some (.int 115), some (.int 0), some (.int 0), some (.int 0)] [] σ
  refine a_lconst C dX12_word_0 (v := 0) rfl ?_
  refine a_iload_n C dX12_word_1 (i := 0) rfl rfl ?_
  refine a_callSl C (i_app1 hid (by decide)) ms_X12_appends ml_RX12_165 rfl rfl (Nat.le_of_ble_eq_true rfl) (Nat.le_of_ble_eq_true rfl) (Nat.le_of_ble_eq_true rfl) dX12_word_2 (fun r1 σ2 q3 => ?_)
  obtain ⟨rfl, q3⟩ := q3
  rw [q3]
  refine a_iload_n C dX12_word_5 (i := 1) rfl rfl ?_
  refine a_callSl C (i_app1 hid (by decide)) ms_X12_appends ml_RX12_165 rfl rfl (Nat.le_of_ble_eq_true rfl) (Nat.le_of_ble_eq_true rfl) (Nat.le_of_ble_eq_true rfl) dX12_word_6 (fun r4 σ5 q6 => ?_)
  obtain ⟨rfl, q6⟩ := q6
  rw [q6]
  refine a_iload_n C dX12_word_9 (i := 2) rfl rfl ?_
  refine a_callSl C (i_app1 hid (by decide)) ms_X12_appends ml_RX12_165 rfl rfl (Nat.le_of_ble_eq_true rfl) (Nat.le_of_ble_eq_true rfl) (Nat.le_of_ble_eq_true rfl) dX12_word_10 (fun r7 σ8 q9 => ?_)
  obtain ⟨rfl, q9⟩ := q9
  rw [q9]
  refine a_iload_n C dX12_word_13 (i := 3) rfl rfl ?_
  refine a_callSl C (i_app1 hid (by decide)) ms_X12_appends ml_RX12_165 rfl rfl (Nat.le_of_ble_eq_true rfl) (Nat.le_of_ble_eq_true rfl) (Nat.le_of_ble_eq_true rfl) dX12_word_14 (fun r10 σ11 q12 => ?_)
  obtain ⟨rfl, q12⟩ := q12
  rw [q12]
  refine a_iload C dX12_word_17 rfl ?_
  refine a_callSl C (i_app0 hid) ms_X12_appends ml_RX12_165 rfl rfl (Nat.le_of_ble_eq_true rfl) (Nat.le_of_ble_eq_true rfl) (Nat.le_of_ble_eq_true rfl) dX12_word_19 (fun r13 σ14 q15 => ?_)
  obtain ⟨rfl, q15⟩ := q15
  rw [q15]
  refine a_iload C dX12_word_22 rfl ?_
  refine a_callSl C (i_app0 hid) ms_X12_appends ml_RX12_165 rfl rfl (Nat.le_of_ble_eq_true rfl) (Nat.le_of_ble_eq_true rfl) (Nat.le_of_ble_eq_true rfl) dX12_word_24 (fun r16 σ17 q18 => ?_)
  obtain ⟨rfl, q18⟩ := q18
  rw [q18]
  refine a_iload C dX12_word_27 rfl ?_
  refine a_callSl C (i_app0 hid) ms_X12_appends ml_RX12_165 rfl rfl (Nat.le_of_ble_eq_true rfl) (Nat.le_of_ble_eq_true rfl) (Nat.le_of_ble_eq_true rfl) dX12_word_29 (fun r19 σ20 q21 => ?_)
  obtain ⟨rfl, q21⟩ := q21
  rw [q21]
  exact a_lret Rt dX12_word_32 (⟨rfl, rfl⟩)
set_option maxHeartbeats 4000000 in
set_option maxRecDepth 100000 in
theorem i_word_6 {l : Launch} {D : va_G} {ids : List Nat} {ad : Nat → Nat} {ca : Nat → ClassId} {σ : HS} (hid : ∀ i, 236 ≤ i ∧ i < 277 → i ∈ ids) : Kl l D ids ad ca yX12_word cX12_word 7 1 22 [.int 114, .int 101, .int 115, .int 116, .int 115, .int 0, .int 0] σ (fun r σ1 => r = 9678763 ∧ σ1 = σ) := by
  refine Kl.of (by decide) (Nat.le_of_ble_eq_true rfl) 0 (fun Γ C Rt => ?_)
  show AW ids ad ca Γ 0 [some (.int 114), some (.int 101), some (.int 115), some (.int 116), some (.int 115), some (.int 0), some (.int 0)] [] σ
  refine a_lconst C dX12_word_0 (v := 0) rfl ?_
  refine a_iload_n C dX12_word_1 (i := 0) rfl rfl ?_
  refine a_callSl C (i_app1 hid (by decide)) ms_X12_appends ml_RX12_165 rfl rfl (Nat.le_of_ble_eq_true rfl) (Nat.le_of_ble_eq_true rfl) (Nat.le_of_ble_eq_true rfl) dX12_word_2 (fun r1 σ2 q3 => ?_)
  obtain ⟨rfl, q3⟩ := q3
  rw [q3]
  refine a_iload_n C dX12_word_5 (i := 1) rfl rfl ?_
  refine a_callSl C (i_app1 hid (by decide)) ms_X12_appends ml_RX12_165 rfl rfl (Nat.le_of_ble_eq_true rfl) (Nat.le_of_ble_eq_true rfl) (Nat.le_of_ble_eq_true rfl) dX12_word_6 (fun r4 σ5 q6 => ?_)
  obtain ⟨rfl, q6⟩ := q6
  rw [q6]
  refine a_iload_n C dX12_word_9 (i := 2) rfl rfl ?_
  refine a_callSl C (i_app1 hid (by decide)) ms_X12_appends ml_RX12_165 rfl rfl (Nat.le_of_ble_eq_true rfl) (Nat.le_of_ble_eq_true rfl) (Nat.le_of_ble_eq_true rfl) dX12_word_10 (fun r7 σ8 q9 => ?_)
  obtain ⟨rfl, q9⟩ := q9
  rw [q9]
  refine a_iload_n C dX12_word_13 (i := 3) rfl rfl ?_
  refine a_callSl C (i_app1 hid (by decide)) ms_X12_appends ml_RX12_165 rfl rfl (Nat.le_of_ble_eq_true rfl) (Nat.le_of_ble_eq_true rfl) (Nat.le_of_ble_eq_true rfl) dX12_word_14 (fun r10 σ11 q12 => ?_)
  obtain ⟨rfl, q12⟩ := q12
  rw [q12]
  refine a_iload C dX12_word_17 rfl ?_
  refine a_callSl C (i_app1 hid (by decide)) ms_X12_appends ml_RX12_165 rfl rfl (Nat.le_of_ble_eq_true rfl) (Nat.le_of_ble_eq_true rfl) (Nat.le_of_ble_eq_true rfl) dX12_word_19 (fun r13 σ14 q15 => ?_)
  obtain ⟨rfl, q15⟩ := q15
  rw [q15]
  refine a_iload C dX12_word_22 rfl ?_
  refine a_callSl C (i_app0 hid) ms_X12_appends ml_RX12_165 rfl rfl (Nat.le_of_ble_eq_true rfl) (Nat.le_of_ble_eq_true rfl) (Nat.le_of_ble_eq_true rfl) dX12_word_24 (fun r16 σ17 q18 => ?_)
  obtain ⟨rfl, q18⟩ := q18
  rw [q18]
  refine a_iload C dX12_word_27 rfl ?_
  refine a_callSl C (i_app0 hid) ms_X12_appends ml_RX12_165 rfl rfl (Nat.le_of_ble_eq_true rfl) (Nat.le_of_ble_eq_true rfl) (Nat.le_of_ble_eq_true rfl) dX12_word_29 (fun r19 σ20 q21 => ?_)
  obtain ⟨rfl, q21⟩ := q21
  rw [q21]
  exact a_lret Rt dX12_word_32 (⟨rfl, rfl⟩)
set_option maxHeartbeats 4000000 in
set_option maxRecDepth 100000 in
theorem i_word_7 {l : Launch} {D : va_G} {ids : List Nat} {ad : Nat → Nat} {ca : Nat → ClassId} {σ : HS} (hid : ∀ i, 236 ≤ i ∧ i < 277 → i ∈ ids) : Kl l D ids ad ca yX12_word cX12_word 7 1 22 [.int 115, .int 101, .int 101, .int 100, .int 0, .int 0, .int 0] σ (fun r σ1 => r = 377761 ∧ σ1 = σ) := by
  refine Kl.of (by decide) (Nat.le_of_ble_eq_true rfl) 0 (fun Γ C Rt => ?_)
  show AW ids ad ca Γ 0 [some (.int 115), some (.int 101), some (.int 101), some (.int 100), some (.int 0), some (.int 0), some (.int 0)] [] σ
  refine a_lconst C dX12_word_0 (v := 0) rfl ?_
  refine a_iload_n C dX12_word_1 (i := 0) rfl rfl ?_
  refine a_callSl C (i_app1 hid (by decide)) ms_X12_appends ml_RX12_165 rfl rfl (Nat.le_of_ble_eq_true rfl) (Nat.le_of_ble_eq_true rfl) (Nat.le_of_ble_eq_true rfl) dX12_word_2 (fun r1 σ2 q3 => ?_)
  obtain ⟨rfl, q3⟩ := q3
  rw [q3]
  refine a_iload_n C dX12_word_5 (i := 1) rfl rfl ?_
  refine a_callSl C (i_app1 hid (by decide)) ms_X12_appends ml_RX12_165 rfl rfl (Nat.le_of_ble_eq_true rfl) (Nat.le_of_ble_eq_true rfl) (Nat.le_of_ble_eq_true rfl) dX12_word_6 (fun r4 σ5 q6 => ?_)
  obtain ⟨rfl, q6⟩ := q6
  rw [q6]
  refine a_iload_n C dX12_word_9 (i := 2) rfl rfl ?_
  refine a_callSl C (i_app1 hid (by decide)) ms_X12_appends ml_RX12_165 rfl rfl (Nat.le_of_ble_eq_true rfl) (Nat.le_of_ble_eq_true rfl) (Nat.le_of_ble_eq_true rfl) dX12_word_10 (fun r7 σ8 q9 => ?_)
  obtain ⟨rfl, q9⟩ := q9
  rw [q9]
  refine a_iload_n C dX12_word_13 (i := 3) rfl rfl ?_
  refine a_callSl C (i_app1 hid (by decide)) ms_X12_appends ml_RX12_165 rfl rfl (Nat.le_of_ble_eq_true rfl) (Nat.le_of_ble_eq_true rfl) (Nat.le_of_ble_eq_true rfl) dX12_word_14 (fun r10 σ11 q12 => ?_)
  obtain ⟨rfl, q12⟩ := q12
  rw [q12]
  refine a_iload C dX12_word_17 rfl ?_
  refine a_callSl C (i_app0 hid) ms_X12_appends ml_RX12_165 rfl rfl (Nat.le_of_ble_eq_true rfl) (Nat.le_of_ble_eq_true rfl) (Nat.le_of_ble_eq_true rfl) dX12_word_19 (fun r13 σ14 q15 => ?_)
  obtain ⟨rfl, q15⟩ := q15
  rw [q15]
  refine a_iload C dX12_word_22 rfl ?_
  refine a_callSl C (i_app0 hid) ms_X12_appends ml_RX12_165 rfl rfl (Nat.le_of_ble_eq_true rfl) (Nat.le_of_ble_eq_true rfl) (Nat.le_of_ble_eq_true rfl) dX12_word_24 (fun r16 σ17 q18 => ?_)
  obtain ⟨rfl, q18⟩ := q18
  rw [q18]
  refine a_iload C dX12_word_27 rfl ?_
  refine a_callSl C (i_app0 hid) ms_X12_appends ml_RX12_165 rfl rfl (Nat.le_of_ble_eq_true rfl) (Nat.le_of_ble_eq_true rfl) (Nat.le_of_ble_eq_true rfl) dX12_word_29 (fun r19 σ20 q21 => ?_)
  obtain ⟨rfl, q21⟩ := q21
  rw [q21]
  exact a_lret Rt dX12_word_32 (⟨rfl, rfl⟩)
set_option maxHeartbeats 4000000 in
set_option maxRecDepth 100000 in
theorem i_word_8 {l : Launch} {D : va_G} {ids : List Nat} {ad : Nat → Nat} {ca : Nat → ClassId} {σ : HS} (hid : ∀ i, 236 ≤ i ∧ i < 277 → i ∈ ids) : Kl l D ids ad ca yX12_word cX12_word 7 1 22 [.int 105, .int 102, .int 0, .int 0, .int 0, .int 0, .int 0] σ (fun r σ1 => r = 249 ∧ σ1 = σ) := by
  refine Kl.of (by decide) (Nat.le_of_ble_eq_true rfl) 0 (fun Γ C Rt => ?_)
  show AW ids ad ca Γ 0 [some (.int 105), some (.int 102), some (.int 0), some (.int 0), some (.int 0), some (.int 0), some (.int 0)] [] σ
  refine a_lconst C dX12_word_0 (v := 0) rfl ?_
  refine a_iload_n C dX12_word_1 (i := 0) rfl rfl ?_
  refine a_callSl C (i_app1 hid (by decide)) ms_X12_appends ml_RX12_165 rfl rfl (Nat.le_of_ble_eq_true rfl) (Nat.le_of_ble_eq_true rfl) (Nat.le_of_ble_eq_true rfl) dX12_word_2 (fun r1 σ2 q3 => ?_)
  obtain ⟨rfl, q3⟩ := q3
  rw [q3]
  refine a_iload_n C dX12_word_5 (i := 1) rfl rfl ?_
  refine a_callSl C (i_app1 hid (by decide)) ms_X12_appends ml_RX12_165 rfl rfl (Nat.le_of_ble_eq_true rfl) (Nat.le_of_ble_eq_true rfl) (Nat.le_of_ble_eq_true rfl) dX12_word_6 (fun r4 σ5 q6 => ?_)
  obtain ⟨rfl, q6⟩ := q6
  rw [q6]
  refine a_iload_n C dX12_word_9 (i := 2) rfl rfl ?_
  refine a_callSl C (i_app0 hid) ms_X12_appends ml_RX12_165 rfl rfl (Nat.le_of_ble_eq_true rfl) (Nat.le_of_ble_eq_true rfl) (Nat.le_of_ble_eq_true rfl) dX12_word_10 (fun r7 σ8 q9 => ?_)
  obtain ⟨rfl, q9⟩ := q9
  rw [q9]
  refine a_iload_n C dX12_word_13 (i := 3) rfl rfl ?_
  refine a_callSl C (i_app0 hid) ms_X12_appends ml_RX12_165 rfl rfl (Nat.le_of_ble_eq_true rfl) (Nat.le_of_ble_eq_true rfl) (Nat.le_of_ble_eq_true rfl) dX12_word_14 (fun r10 σ11 q12 => ?_)
  obtain ⟨rfl, q12⟩ := q12
  rw [q12]
  refine a_iload C dX12_word_17 rfl ?_
  refine a_callSl C (i_app0 hid) ms_X12_appends ml_RX12_165 rfl rfl (Nat.le_of_ble_eq_true rfl) (Nat.le_of_ble_eq_true rfl) (Nat.le_of_ble_eq_true rfl) dX12_word_19 (fun r13 σ14 q15 => ?_)
  obtain ⟨rfl, q15⟩ := q15
  rw [q15]
  refine a_iload C dX12_word_22 rfl ?_
  refine a_callSl C (i_app0 hid) ms_X12_appends ml_RX12_165 rfl rfl (Nat.le_of_ble_eq_true rfl) (Nat.le_of_ble_eq_true rfl) (Nat.le_of_ble_eq_true rfl) dX12_word_24 (fun r16 σ17 q18 => ?_)
  obtain ⟨rfl, q18⟩ := q18
  rw [q18]
  refine a_iload C dX12_word_27 rfl ?_
  refine a_callSl C (i_app0 hid) ms_X12_appends ml_RX12_165 rfl rfl (Nat.le_of_ble_eq_true rfl) (Nat.le_of_ble_eq_true rfl) (Nat.le_of_ble_eq_true rfl) dX12_word_29 (fun r19 σ20 q21 => ?_)
  obtain ⟨rfl, q21⟩ := q21
  rw [q21]
  exact a_lret Rt dX12_word_32 (⟨rfl, rfl⟩)
set_option maxHeartbeats 4000000 in
set_option maxRecDepth 100000 in
theorem i_word_9 {l : Launch} {D : va_G} {ids : List Nat} {ad : Nat → Nat} {ca : Nat → ClassId} {σ : HS} (hid : ∀ i, 236 ≤ i ∧ i < 277 → i ∈ ids) : Kl l D ids ad ca yX12_word cX12_word 7 1 22 [.int 116, .int 104, .int 101, .int 110, .int 0, .int 0, .int 0] σ (fun r σ1 => r = 399641 ∧ σ1 = σ) := by
  refine Kl.of (by decide) (Nat.le_of_ble_eq_true rfl) 0 (fun Γ C Rt => ?_)
  show AW ids ad ca Γ 0 [some (.int 116), some (.int 104), some (.int 101), some (.int 110), some (.int 0), some (.int 0), some (.int 0)] [] σ
  refine a_lconst C dX12_word_0 (v := 0) rfl ?_
  refine a_iload_n C dX12_word_1 (i := 0) rfl rfl ?_
  refine a_callSl C (i_app1 hid (by decide)) ms_X12_appends ml_RX12_165 rfl rfl (Nat.le_of_ble_eq_true rfl) (Nat.le_of_ble_eq_true rfl) (Nat.le_of_ble_eq_true rfl) dX12_word_2 (fun r1 σ2 q3 => ?_)
  obtain ⟨rfl, q3⟩ := q3
  rw [q3]
  refine a_iload_n C dX12_word_5 (i := 1) rfl rfl ?_
  refine a_callSl C (i_app1 hid (by decide)) ms_X12_appends ml_RX12_165 rfl rfl (Nat.le_of_ble_eq_true rfl) (Nat.le_of_ble_eq_true rfl) (Nat.le_of_ble_eq_true rfl) dX12_word_6 (fun r4 σ5 q6 => ?_)
  obtain ⟨rfl, q6⟩ := q6
  rw [q6]
  refine a_iload_n C dX12_word_9 (i := 2) rfl rfl ?_
  refine a_callSl C (i_app1 hid (by decide)) ms_X12_appends ml_RX12_165 rfl rfl (Nat.le_of_ble_eq_true rfl) (Nat.le_of_ble_eq_true rfl) (Nat.le_of_ble_eq_true rfl) dX12_word_10 (fun r7 σ8 q9 => ?_)
  obtain ⟨rfl, q9⟩ := q9
  rw [q9]
  refine a_iload_n C dX12_word_13 (i := 3) rfl rfl ?_
  refine a_callSl C (i_app1 hid (by decide)) ms_X12_appends ml_RX12_165 rfl rfl (Nat.le_of_ble_eq_true rfl) (Nat.le_of_ble_eq_true rfl) (Nat.le_of_ble_eq_true rfl) dX12_word_14 (fun r10 σ11 q12 => ?_)
  obtain ⟨rfl, q12⟩ := q12
  rw [q12]
  refine a_iload C dX12_word_17 rfl ?_
  refine a_callSl C (i_app0 hid) ms_X12_appends ml_RX12_165 rfl rfl (Nat.le_of_ble_eq_true rfl) (Nat.le_of_ble_eq_true rfl) (Nat.le_of_ble_eq_true rfl) dX12_word_19 (fun r13 σ14 q15 => ?_)
  obtain ⟨rfl, q15⟩ := q15
  rw [q15]
  refine a_iload C dX12_word_22 rfl ?_
  refine a_callSl C (i_app0 hid) ms_X12_appends ml_RX12_165 rfl rfl (Nat.le_of_ble_eq_true rfl) (Nat.le_of_ble_eq_true rfl) (Nat.le_of_ble_eq_true rfl) dX12_word_24 (fun r16 σ17 q18 => ?_)
  obtain ⟨rfl, q18⟩ := q18
  rw [q18]
  refine a_iload C dX12_word_27 rfl ?_
  refine a_callSl C (i_app0 hid) ms_X12_appends ml_RX12_165 rfl rfl (Nat.le_of_ble_eq_true rfl) (Nat.le_of_ble_eq_true rfl) (Nat.le_of_ble_eq_true rfl) dX12_word_29 (fun r19 σ20 q21 => ?_)
  obtain ⟨rfl, q21⟩ := q21
  rw [q21]
  exact a_lret Rt dX12_word_32 (⟨rfl, rfl⟩)
set_option maxHeartbeats 4000000 in
set_option maxRecDepth 100000 in
theorem i_word_10 {l : Launch} {D : va_G} {ids : List Nat} {ad : Nat → Nat} {ca : Nat → ClassId} {σ : HS} (hid : ∀ i, 236 ≤ i ∧ i < 277 → i ∈ ids) : Kl l D ids ad ca yX12_word cX12_word 7 1 22 [.int 101, .int 108, .int 115, .int 101, .int 0, .int 0, .int 0] σ (fun r σ1 => r = 107681 ∧ σ1 = σ) := by
  refine Kl.of (by decide) (Nat.le_of_ble_eq_true rfl) 0 (fun Γ C Rt => ?_)
  show AW ids ad ca Γ 0 [some (.int 101), some (.int 108), some (.int 115), some (.int 101), some (.int 0), some (.int 0), some (.int 0)] [] σ
  refine a_lconst C dX12_word_0 (v := 0) rfl ?_
  refine a_iload_n C dX12_word_1 (i := 0) rfl rfl ?_
  refine a_callSl C (i_app1 hid (by decide)) ms_X12_appends ml_RX12_165 rfl rfl (Nat.le_of_ble_eq_true rfl) (Nat.le_of_ble_eq_true rfl) (Nat.le_of_ble_eq_true rfl) dX12_word_2 (fun r1 σ2 q3 => ?_)
  obtain ⟨rfl, q3⟩ := q3
  rw [q3]
  refine a_iload_n C dX12_word_5 (i := 1) rfl rfl ?_
  refine a_callSl C (i_app1 hid (by decide)) ms_X12_appends ml_RX12_165 rfl rfl (Nat.le_of_ble_eq_true rfl) (Nat.le_of_ble_eq_true rfl) (Nat.le_of_ble_eq_true rfl) dX12_word_6 (fun r4 σ5 q6 => ?_)
  obtain ⟨rfl, q6⟩ := q6
  rw [q6]
  refine a_iload_n C dX12_word_9 (i := 2) rfl rfl ?_
  refine a_callSl C (i_app1 hid (by decide)) ms_X12_appends ml_RX12_165 rfl rfl (Nat.le_of_ble_eq_true rfl) (Nat.le_of_ble_eq_true rfl) (Nat.le_of_ble_eq_true rfl) dX12_word_10 (fun r7 σ8 q9 => ?_)
  obtain ⟨rfl, q9⟩ := q9
  rw [q9]
  refine a_iload_n C dX12_word_13 (i := 3) rfl rfl ?_
  refine a_callSl C (i_app1 hid (by decide)) ms_X12_appends ml_RX12_165 rfl rfl (Nat.le_of_ble_eq_true rfl) (Nat.le_of_ble_eq_true rfl) (Nat.le_of_ble_eq_true rfl) dX12_word_14 (fun r10 σ11 q12 => ?_)
  obtain ⟨rfl, q12⟩ := q12
  rw [q12]
  refine a_iload C dX12_word_17 rfl ?_
  refine a_callSl C (i_app0 hid) ms_X12_appends ml_RX12_165 rfl rfl (Nat.le_of_ble_eq_true rfl) (Nat.le_of_ble_eq_true rfl) (Nat.le_of_ble_eq_true rfl) dX12_word_19 (fun r13 σ14 q15 => ?_)
  obtain ⟨rfl, q15⟩ := q15
  rw [q15]
  refine a_iload C dX12_word_22 rfl ?_
  refine a_callSl C (i_app0 hid) ms_X12_appends ml_RX12_165 rfl rfl (Nat.le_of_ble_eq_true rfl) (Nat.le_of_ble_eq_true rfl) (Nat.le_of_ble_eq_true rfl) dX12_word_24 (fun r16 σ17 q18 => ?_)
  obtain ⟨rfl, q18⟩ := q18
  rw [q18]
  refine a_iload C dX12_word_27 rfl ?_
  refine a_callSl C (i_app0 hid) ms_X12_appends ml_RX12_165 rfl rfl (Nat.le_of_ble_eq_true rfl) (Nat.le_of_ble_eq_true rfl) (Nat.le_of_ble_eq_true rfl) dX12_word_29 (fun r19 σ20 q21 => ?_)
  obtain ⟨rfl, q21⟩ := q21
  rw [q21]
  exact a_lret Rt dX12_word_32 (⟨rfl, rfl⟩)
set_option maxHeartbeats 4000000 in
set_option maxRecDepth 100000 in
theorem i_word_11 {l : Launch} {D : va_G} {ids : List Nat} {ad : Nat → Nat} {ca : Nat → ClassId} {σ : HS} (hid : ∀ i, 236 ≤ i ∧ i < 277 → i ∈ ids) : Kl l D ids ad ca yX12_word cX12_word 7 1 22 [.int 119, .int 101, .int 105, .int 103, .int 104, .int 116, .int 0] σ (fun r σ1 => r = 332864552 ∧ σ1 = σ) := by
  refine Kl.of (by decide) (Nat.le_of_ble_eq_true rfl) 0 (fun Γ C Rt => ?_)
  show AW ids ad ca Γ 0 [some (.int 119), some (.int 101), some (.int 105), some (.int 103), some (.int 104), some (.int 116), some (.int 0)] [] σ
  refine a_lconst C dX12_word_0 (v := 0) rfl ?_
  refine a_iload_n C dX12_word_1 (i := 0) rfl rfl ?_
  refine a_callSl C (i_app1 hid (by decide)) ms_X12_appends ml_RX12_165 rfl rfl (Nat.le_of_ble_eq_true rfl) (Nat.le_of_ble_eq_true rfl) (Nat.le_of_ble_eq_true rfl) dX12_word_2 (fun r1 σ2 q3 => ?_)
  obtain ⟨rfl, q3⟩ := q3
  rw [q3]
  refine a_iload_n C dX12_word_5 (i := 1) rfl rfl ?_
  refine a_callSl C (i_app1 hid (by decide)) ms_X12_appends ml_RX12_165 rfl rfl (Nat.le_of_ble_eq_true rfl) (Nat.le_of_ble_eq_true rfl) (Nat.le_of_ble_eq_true rfl) dX12_word_6 (fun r4 σ5 q6 => ?_)
  obtain ⟨rfl, q6⟩ := q6
  rw [q6]
  refine a_iload_n C dX12_word_9 (i := 2) rfl rfl ?_
  refine a_callSl C (i_app1 hid (by decide)) ms_X12_appends ml_RX12_165 rfl rfl (Nat.le_of_ble_eq_true rfl) (Nat.le_of_ble_eq_true rfl) (Nat.le_of_ble_eq_true rfl) dX12_word_10 (fun r7 σ8 q9 => ?_)
  obtain ⟨rfl, q9⟩ := q9
  rw [q9]
  refine a_iload_n C dX12_word_13 (i := 3) rfl rfl ?_
  refine a_callSl C (i_app1 hid (by decide)) ms_X12_appends ml_RX12_165 rfl rfl (Nat.le_of_ble_eq_true rfl) (Nat.le_of_ble_eq_true rfl) (Nat.le_of_ble_eq_true rfl) dX12_word_14 (fun r10 σ11 q12 => ?_)
  obtain ⟨rfl, q12⟩ := q12
  rw [q12]
  refine a_iload C dX12_word_17 rfl ?_
  refine a_callSl C (i_app1 hid (by decide)) ms_X12_appends ml_RX12_165 rfl rfl (Nat.le_of_ble_eq_true rfl) (Nat.le_of_ble_eq_true rfl) (Nat.le_of_ble_eq_true rfl) dX12_word_19 (fun r13 σ14 q15 => ?_)
  obtain ⟨rfl, q15⟩ := q15
  rw [q15]
  refine a_iload C dX12_word_22 rfl ?_
  refine a_callSl C (i_app1 hid (by decide)) ms_X12_appends ml_RX12_165 rfl rfl (Nat.le_of_ble_eq_true rfl) (Nat.le_of_ble_eq_true rfl) (Nat.le_of_ble_eq_true rfl) dX12_word_24 (fun r16 σ17 q18 => ?_)
  obtain ⟨rfl, q18⟩ := q18
  rw [q18]
  refine a_iload C dX12_word_27 rfl ?_
  refine a_callSl C (i_app0 hid) ms_X12_appends ml_RX12_165 rfl rfl (Nat.le_of_ble_eq_true rfl) (Nat.le_of_ble_eq_true rfl) (Nat.le_of_ble_eq_true rfl) dX12_word_29 (fun r19 σ20 q21 => ?_)
  obtain ⟨rfl, q21⟩ := q21
  rw [q21]
  exact a_lret Rt dX12_word_32 (⟨rfl, rfl⟩)
set_option maxHeartbeats 4000000 in
set_option maxRecDepth 100000 in
theorem i_word_12 {l : Launch} {D : va_G} {ids : List Nat} {ad : Nat → Nat} {ca : Nat → ClassId} {σ : HS} (hid : ∀ i, 236 ≤ i ∧ i < 277 → i ∈ ids) : Kl l D ids ad ca yX12_word cX12_word 7 1 22 [.int 101, .int 100, .int 103, .int 101, .int 0, .int 0, .int 0] σ (fun r σ1 => r = 101525 ∧ σ1 = σ) := by
  refine Kl.of (by decide) (Nat.le_of_ble_eq_true rfl) 0 (fun Γ C Rt => ?_)
  show AW ids ad ca Γ 0 [some (.int 101), some (.int 100), some (.int 103), some (.int 101), some (.int 0), some (.int 0), some (.int 0)] [] σ
  refine a_lconst C dX12_word_0 (v := 0) rfl ?_
  refine a_iload_n C dX12_word_1 (i := 0) rfl rfl ?_
  refine a_callSl C (i_app1 hid (by decide)) ms_X12_appends ml_RX12_165 rfl rfl (Nat.le_of_ble_eq_true rfl) (Nat.le_of_ble_eq_true rfl) (Nat.le_of_ble_eq_true rfl) dX12_word_2 (fun r1 σ2 q3 => ?_)
  obtain ⟨rfl, q3⟩ := q3
  rw [q3]
  refine a_iload_n C dX12_word_5 (i := 1) rfl rfl ?_
  refine a_callSl C (i_app1 hid (by decide)) ms_X12_appends ml_RX12_165 rfl rfl (Nat.le_of_ble_eq_true rfl) (Nat.le_of_ble_eq_true rfl) (Nat.le_of_ble_eq_true rfl) dX12_word_6 (fun r4 σ5 q6 => ?_)
  obtain ⟨rfl, q6⟩ := q6
  rw [q6]
  refine a_iload_n C dX12_word_9 (i := 2) rfl rfl ?_
  refine a_callSl C (i_app1 hid (by decide)) ms_X12_appends ml_RX12_165 rfl rfl (Nat.le_of_ble_eq_true rfl) (Nat.le_of_ble_eq_true rfl) (Nat.le_of_ble_eq_true rfl) dX12_word_10 (fun r7 σ8 q9 => ?_)
  obtain ⟨rfl, q9⟩ := q9
  rw [q9]
  refine a_iload_n C dX12_word_13 (i := 3) rfl rfl ?_
  refine a_callSl C (i_app1 hid (by decide)) ms_X12_appends ml_RX12_165 rfl rfl (Nat.le_of_ble_eq_true rfl) (Nat.le_of_ble_eq_true rfl) (Nat.le_of_ble_eq_true rfl) dX12_word_14 (fun r10 σ11 q12 => ?_)
  obtain ⟨rfl, q12⟩ := q12
  rw [q12]
  refine a_iload C dX12_word_17 rfl ?_
  refine a_callSl C (i_app0 hid) ms_X12_appends ml_RX12_165 rfl rfl (Nat.le_of_ble_eq_true rfl) (Nat.le_of_ble_eq_true rfl) (Nat.le_of_ble_eq_true rfl) dX12_word_19 (fun r13 σ14 q15 => ?_)
  obtain ⟨rfl, q15⟩ := q15
  rw [q15]
  refine a_iload C dX12_word_22 rfl ?_
  refine a_callSl C (i_app0 hid) ms_X12_appends ml_RX12_165 rfl rfl (Nat.le_of_ble_eq_true rfl) (Nat.le_of_ble_eq_true rfl) (Nat.le_of_ble_eq_true rfl) dX12_word_24 (fun r16 σ17 q18 => ?_)
  obtain ⟨rfl, q18⟩ := q18
  rw [q18]
  refine a_iload C dX12_word_27 rfl ?_
  refine a_callSl C (i_app0 hid) ms_X12_appends ml_RX12_165 rfl rfl (Nat.le_of_ble_eq_true rfl) (Nat.le_of_ble_eq_true rfl) (Nat.le_of_ble_eq_true rfl) dX12_word_29 (fun r19 σ20 q21 => ?_)
  obtain ⟨rfl, q21⟩ := q21
  rw [q21]
  exact a_lret Rt dX12_word_32 (⟨rfl, rfl⟩)
set_option maxHeartbeats 4000000 in
set_option maxRecDepth 100000 in
theorem i_word_13 {l : Launch} {D : va_G} {ids : List Nat} {ad : Nat → Nat} {ca : Nat → ClassId} {σ : HS} (hid : ∀ i, 236 ≤ i ∧ i < 277 → i ∈ ids) : Kl l D ids ad ca yX12_word cX12_word 7 1 22 [.int 104, .int 101, .int 105, .int 103, .int 104, .int 116, .int 0] σ (fun r σ1 => r = 117630947 ∧ σ1 = σ) := by
  refine Kl.of (by decide) (Nat.le_of_ble_eq_true rfl) 0 (fun Γ C Rt => ?_)
  show AW ids ad ca Γ 0 [some (.int 104), some (.int 101), some (.int 105), some (.int 103), some (.int 104), some (.int 116), some (.int 0)] [] σ
  refine a_lconst C dX12_word_0 (v := 0) rfl ?_
  refine a_iload_n C dX12_word_1 (i := 0) rfl rfl ?_
  refine a_callSl C (i_app1 hid (by decide)) ms_X12_appends ml_RX12_165 rfl rfl (Nat.le_of_ble_eq_true rfl) (Nat.le_of_ble_eq_true rfl) (Nat.le_of_ble_eq_true rfl) dX12_word_2 (fun r1 σ2 q3 => ?_)
  obtain ⟨rfl, q3⟩ := q3
  rw [q3]
  refine a_iload_n C dX12_word_5 (i := 1) rfl rfl ?_
  refine a_callSl C (i_app1 hid (by decide)) ms_X12_appends ml_RX12_165 rfl rfl (Nat.le_of_ble_eq_true rfl) (Nat.le_of_ble_eq_true rfl) (Nat.le_of_ble_eq_true rfl) dX12_word_6 (fun r4 σ5 q6 => ?_)
  obtain ⟨rfl, q6⟩ := q6
  rw [q6]
  refine a_iload_n C dX12_word_9 (i := 2) rfl rfl ?_
  refine a_callSl C (i_app1 hid (by decide)) ms_X12_appends ml_RX12_165 rfl rfl (Nat.le_of_ble_eq_true rfl) (Nat.le_of_ble_eq_true rfl) (Nat.le_of_ble_eq_true rfl) dX12_word_10 (fun r7 σ8 q9 => ?_)
  obtain ⟨rfl, q9⟩ := q9
  rw [q9]
  refine a_iload_n C dX12_word_13 (i := 3) rfl rfl ?_
  refine a_callSl C (i_app1 hid (by decide)) ms_X12_appends ml_RX12_165 rfl rfl (Nat.le_of_ble_eq_true rfl) (Nat.le_of_ble_eq_true rfl) (Nat.le_of_ble_eq_true rfl) dX12_word_14 (fun r10 σ11 q12 => ?_)
  obtain ⟨rfl, q12⟩ := q12
  rw [q12]
  refine a_iload C dX12_word_17 rfl ?_
  refine a_callSl C (i_app1 hid (by decide)) ms_X12_appends ml_RX12_165 rfl rfl (Nat.le_of_ble_eq_true rfl) (Nat.le_of_ble_eq_true rfl) (Nat.le_of_ble_eq_true rfl) dX12_word_19 (fun r13 σ14 q15 => ?_)
  obtain ⟨rfl, q15⟩ := q15
  rw [q15]
  refine a_iload C dX12_word_22 rfl ?_
  refine a_callSl C (i_app1 hid (by decide)) ms_X12_appends ml_RX12_165 rfl rfl (Nat.le_of_ble_eq_true rfl) (Nat.le_of_ble_eq_true rfl) (Nat.le_of_ble_eq_true rfl) dX12_word_24 (fun r16 σ17 q18 => ?_)
  obtain ⟨rfl, q18⟩ := q18
  rw [q18]
  refine a_iload C dX12_word_27 rfl ?_
  refine a_callSl C (i_app0 hid) ms_X12_appends ml_RX12_165 rfl rfl (Nat.le_of_ble_eq_true rfl) (Nat.le_of_ble_eq_true rfl) (Nat.le_of_ble_eq_true rfl) dX12_word_29 (fun r19 σ20 q21 => ?_)
  obtain ⟨rfl, q21⟩ := q21
  rw [q21]
  exact a_lret Rt dX12_word_32 (⟨rfl, rfl⟩)
set_option maxHeartbeats 4000000 in
set_option maxRecDepth 100000 in
theorem i_word_14 {l : Launch} {D : va_G} {ids : List Nat} {ad : Nat → Nat} {ca : Nat → ClassId} {σ : HS} (hid : ∀ i, 236 ≤ i ∧ i < 277 → i ∈ ids) : Kl l D ids ad ca yX12_word cX12_word 7 1 22 [.int 98, .int 101, .int 97, .int 116, .int 0, .int 0, .int 0] σ (fun r σ1 => r = 43058 ∧ σ1 = σ) := by
  refine Kl.of (by decide) (Nat.le_of_ble_eq_true rfl) 0 (fun Γ C Rt => ?_)
  show AW ids ad ca Γ 0 [some (.int 98), some (.int 101), some (.int 97), some (.int 116), some (.int 0), some (.int 0), some (.int 0)] [] σ
  refine a_lconst C dX12_word_0 (v := 0) rfl ?_
  refine a_iload_n C dX12_word_1 (i := 0) rfl rfl ?_
  refine a_callSl C (i_app1 hid (by decide)) ms_X12_appends ml_RX12_165 rfl rfl (Nat.le_of_ble_eq_true rfl) (Nat.le_of_ble_eq_true rfl) (Nat.le_of_ble_eq_true rfl) dX12_word_2 (fun r1 σ2 q3 => ?_)
  obtain ⟨rfl, q3⟩ := q3
  rw [q3]
  refine a_iload_n C dX12_word_5 (i := 1) rfl rfl ?_
  refine a_callSl C (i_app1 hid (by decide)) ms_X12_appends ml_RX12_165 rfl rfl (Nat.le_of_ble_eq_true rfl) (Nat.le_of_ble_eq_true rfl) (Nat.le_of_ble_eq_true rfl) dX12_word_6 (fun r4 σ5 q6 => ?_)
  obtain ⟨rfl, q6⟩ := q6
  rw [q6]
  refine a_iload_n C dX12_word_9 (i := 2) rfl rfl ?_
  refine a_callSl C (i_app1 hid (by decide)) ms_X12_appends ml_RX12_165 rfl rfl (Nat.le_of_ble_eq_true rfl) (Nat.le_of_ble_eq_true rfl) (Nat.le_of_ble_eq_true rfl) dX12_word_10 (fun r7 σ8 q9 => ?_)
  obtain ⟨rfl, q9⟩ := q9
  rw [q9]
  refine a_iload_n C dX12_word_13 (i := 3) rfl rfl ?_
  refine a_callSl C (i_app1 hid (by decide)) ms_X12_appends ml_RX12_165 rfl rfl (Nat.le_of_ble_eq_true rfl) (Nat.le_of_ble_eq_true rfl) (Nat.le_of_ble_eq_true rfl) dX12_word_14 (fun r10 σ11 q12 => ?_)
  obtain ⟨rfl, q12⟩ := q12
  rw [q12]
  refine a_iload C dX12_word_17 rfl ?_
  refine a_callSl C (i_app0 hid) ms_X12_appends ml_RX12_165 rfl rfl (Nat.le_of_ble_eq_true rfl) (Nat.le_of_ble_eq_true rfl) (Nat.le_of_ble_eq_true rfl) dX12_word_19 (fun r13 σ14 q15 => ?_)
  obtain ⟨rfl, q15⟩ := q15
  rw [q15]
  refine a_iload C dX12_word_22 rfl ?_
  refine a_callSl C (i_app0 hid) ms_X12_appends ml_RX12_165 rfl rfl (Nat.le_of_ble_eq_true rfl) (Nat.le_of_ble_eq_true rfl) (Nat.le_of_ble_eq_true rfl) dX12_word_24 (fun r16 σ17 q18 => ?_)
  obtain ⟨rfl, q18⟩ := q18
  rw [q18]
  refine a_iload C dX12_word_27 rfl ?_
  refine a_callSl C (i_app0 hid) ms_X12_appends ml_RX12_165 rfl rfl (Nat.le_of_ble_eq_true rfl) (Nat.le_of_ble_eq_true rfl) (Nat.le_of_ble_eq_true rfl) dX12_word_29 (fun r19 σ20 q21 => ?_)
  obtain ⟨rfl, q21⟩ := q21
  rw [q21]
  exact a_lret Rt dX12_word_32 (⟨rfl, rfl⟩)
set_option maxHeartbeats 4000000 in
set_option maxRecDepth 100000 in
theorem i_word_15 {l : Launch} {D : va_G} {ids : List Nat} {ad : Nat → Nat} {ca : Nat → ClassId} {σ : HS} (hid : ∀ i, 236 ≤ i ∧ i < 277 → i ∈ ids) : Kl l D ids ad ca yX12_word cX12_word 7 1 22 [.int 116, .int 105, .int 114, .int 101, .int 100, .int 0, .int 0] σ (fun r σ1 => r = 10819228 ∧ σ1 = σ) := by
  refine Kl.of (by decide) (Nat.le_of_ble_eq_true rfl) 0 (fun Γ C Rt => ?_)
  show AW ids ad ca Γ 0 [some (.int 116), some (.int 105), some (.int 114), some (.int 101), some (.int 100), some (.int 0), some (.int 0)] [] σ
  refine a_lconst C dX12_word_0 (v := 0) rfl ?_
  refine a_iload_n C dX12_word_1 (i := 0) rfl rfl ?_
  refine a_callSl C (i_app1 hid (by decide)) ms_X12_appends ml_RX12_165 rfl rfl (Nat.le_of_ble_eq_true rfl) (Nat.le_of_ble_eq_true rfl) (Nat.le_of_ble_eq_true rfl) dX12_word_2 (fun r1 σ2 q3 => ?_)
  obtain ⟨rfl, q3⟩ := q3
  rw [q3]
  refine a_iload_n C dX12_word_5 (i := 1) rfl rfl ?_
  refine a_callSl C (i_app1 hid (by decide)) ms_X12_appends ml_RX12_165 rfl rfl (Nat.le_of_ble_eq_true rfl) (Nat.le_of_ble_eq_true rfl) (Nat.le_of_ble_eq_true rfl) dX12_word_6 (fun r4 σ5 q6 => ?_)
  obtain ⟨rfl, q6⟩ := q6
  rw [q6]
  refine a_iload_n C dX12_word_9 (i := 2) rfl rfl ?_
  refine a_callSl C (i_app1 hid (by decide)) ms_X12_appends ml_RX12_165 rfl rfl (Nat.le_of_ble_eq_true rfl) (Nat.le_of_ble_eq_true rfl) (Nat.le_of_ble_eq_true rfl) dX12_word_10 (fun r7 σ8 q9 => ?_)
  obtain ⟨rfl, q9⟩ := q9
  rw [q9]
  refine a_iload_n C dX12_word_13 (i := 3) rfl rfl ?_
  refine a_callSl C (i_app1 hid (by decide)) ms_X12_appends ml_RX12_165 rfl rfl (Nat.le_of_ble_eq_true rfl) (Nat.le_of_ble_eq_true rfl) (Nat.le_of_ble_eq_true rfl) dX12_word_14 (fun r10 σ11 q12 => ?_)
  obtain ⟨rfl, q12⟩ := q12
  rw [q12]
  refine a_iload C dX12_word_17 rfl ?_
  refine a_callSl C (i_app1 hid (by decide)) ms_X12_appends ml_RX12_165 rfl rfl (Nat.le_of_ble_eq_true rfl) (Nat.le_of_ble_eq_true rfl) (Nat.le_of_ble_eq_true rfl) dX12_word_19 (fun r13 σ14 q15 => ?_)
  obtain ⟨rfl, q15⟩ := q15
  rw [q15]
  refine a_iload C dX12_word_22 rfl ?_
  refine a_callSl C (i_app0 hid) ms_X12_appends ml_RX12_165 rfl rfl (Nat.le_of_ble_eq_true rfl) (Nat.le_of_ble_eq_true rfl) (Nat.le_of_ble_eq_true rfl) dX12_word_24 (fun r16 σ17 q18 => ?_)
  obtain ⟨rfl, q18⟩ := q18
  rw [q18]
  refine a_iload C dX12_word_27 rfl ?_
  refine a_callSl C (i_app0 hid) ms_X12_appends ml_RX12_165 rfl rfl (Nat.le_of_ble_eq_true rfl) (Nat.le_of_ble_eq_true rfl) (Nat.le_of_ble_eq_true rfl) dX12_word_29 (fun r19 σ20 q21 => ?_)
  obtain ⟨rfl, q21⟩ := q21
  rw [q21]
  exact a_lret Rt dX12_word_32 (⟨rfl, rfl⟩)
set_option maxHeartbeats 4000000 in
set_option maxRecDepth 100000 in
theorem i_word_16 {l : Launch} {D : va_G} {ids : List Nat} {ad : Nat → Nat} {ca : Nat → ClassId} {σ : HS} (hid : ∀ i, 236 ≤ i ∧ i < 277 → i ∈ ids) : Kl l D ids ad ca yX12_word cX12_word 7 1 22 [.int 117, .int 112, .int 0, .int 0, .int 0, .int 0, .int 0] σ (fun r σ1 => r = 583 ∧ σ1 = σ) := by
  refine Kl.of (by decide) (Nat.le_of_ble_eq_true rfl) 0 (fun Γ C Rt => ?_)
  show AW ids ad ca Γ 0 [some (.int 117), some (.int 112), some (.int 0), some (.int 0), some (.int 0), some (.int 0), some (.int 0)] [] σ
  refine a_lconst C dX12_word_0 (v := 0) rfl ?_
  refine a_iload_n C dX12_word_1 (i := 0) rfl rfl ?_
  refine a_callSl C (i_app1 hid (by decide)) ms_X12_appends ml_RX12_165 rfl rfl (Nat.le_of_ble_eq_true rfl) (Nat.le_of_ble_eq_true rfl) (Nat.le_of_ble_eq_true rfl) dX12_word_2 (fun r1 σ2 q3 => ?_)
  obtain ⟨rfl, q3⟩ := q3
  rw [q3]
  refine a_iload_n C dX12_word_5 (i := 1) rfl rfl ?_
  refine a_callSl C (i_app1 hid (by decide)) ms_X12_appends ml_RX12_165 rfl rfl (Nat.le_of_ble_eq_true rfl) (Nat.le_of_ble_eq_true rfl) (Nat.le_of_ble_eq_true rfl) dX12_word_6 (fun r4 σ5 q6 => ?_)
  obtain ⟨rfl, q6⟩ := q6
  rw [q6]
  refine a_iload_n C dX12_word_9 (i := 2) rfl rfl ?_
  refine a_callSl C (i_app0 hid) ms_X12_appends ml_RX12_165 rfl rfl (Nat.le_of_ble_eq_true rfl) (Nat.le_of_ble_eq_true rfl) (Nat.le_of_ble_eq_true rfl) dX12_word_10 (fun r7 σ8 q9 => ?_)
  obtain ⟨rfl, q9⟩ := q9
  rw [q9]
  refine a_iload_n C dX12_word_13 (i := 3) rfl rfl ?_
  refine a_callSl C (i_app0 hid) ms_X12_appends ml_RX12_165 rfl rfl (Nat.le_of_ble_eq_true rfl) (Nat.le_of_ble_eq_true rfl) (Nat.le_of_ble_eq_true rfl) dX12_word_14 (fun r10 σ11 q12 => ?_)
  obtain ⟨rfl, q12⟩ := q12
  rw [q12]
  refine a_iload C dX12_word_17 rfl ?_
  refine a_callSl C (i_app0 hid) ms_X12_appends ml_RX12_165 rfl rfl (Nat.le_of_ble_eq_true rfl) (Nat.le_of_ble_eq_true rfl) (Nat.le_of_ble_eq_true rfl) dX12_word_19 (fun r13 σ14 q15 => ?_)
  obtain ⟨rfl, q15⟩ := q15
  rw [q15]
  refine a_iload C dX12_word_22 rfl ?_
  refine a_callSl C (i_app0 hid) ms_X12_appends ml_RX12_165 rfl rfl (Nat.le_of_ble_eq_true rfl) (Nat.le_of_ble_eq_true rfl) (Nat.le_of_ble_eq_true rfl) dX12_word_24 (fun r16 σ17 q18 => ?_)
  obtain ⟨rfl, q18⟩ := q18
  rw [q18]
  refine a_iload C dX12_word_27 rfl ?_
  refine a_callSl C (i_app0 hid) ms_X12_appends ml_RX12_165 rfl rfl (Nat.le_of_ble_eq_true rfl) (Nat.le_of_ble_eq_true rfl) (Nat.le_of_ble_eq_true rfl) dX12_word_29 (fun r19 σ20 q21 => ?_)
  obtain ⟨rfl, q21⟩ := q21
  rw [q21]
  exact a_lret Rt dX12_word_32 (⟨rfl, rfl⟩)
set_option maxHeartbeats 4000000 in
set_option maxRecDepth 100000 in
theorem i_word_17 {l : Launch} {D : va_G} {ids : List Nat} {ad : Nat → Nat} {ca : Nat → ClassId} {σ : HS} (hid : ∀ i, 236 ≤ i ∧ i < 277 → i ∈ ids) : Kl l D ids ad ca yX12_word cX12_word 7 1 22 [.int 119, .int 104, .int 105, .int 99, .int 104, .int 0, .int 0] σ (fun r σ1 => r = 12387257 ∧ σ1 = σ) := by
  refine Kl.of (by decide) (Nat.le_of_ble_eq_true rfl) 0 (fun Γ C Rt => ?_)
  show AW ids ad ca Γ 0 [some (.int 119), some (.int 104), some (.int 105), some (.int 99), some (.int 104), some (.int 0), some (.int 0)] [] σ
  refine a_lconst C dX12_word_0 (v := 0) rfl ?_
  refine a_iload_n C dX12_word_1 (i := 0) rfl rfl ?_
  refine a_callSl C (i_app1 hid (by decide)) ms_X12_appends ml_RX12_165 rfl rfl (Nat.le_of_ble_eq_true rfl) (Nat.le_of_ble_eq_true rfl) (Nat.le_of_ble_eq_true rfl) dX12_word_2 (fun r1 σ2 q3 => ?_)
  obtain ⟨rfl, q3⟩ := q3
  rw [q3]
  refine a_iload_n C dX12_word_5 (i := 1) rfl rfl ?_
  refine a_callSl C (i_app1 hid (by decide)) ms_X12_appends ml_RX12_165 rfl rfl (Nat.le_of_ble_eq_true rfl) (Nat.le_of_ble_eq_true rfl) (Nat.le_of_ble_eq_true rfl) dX12_word_6 (fun r4 σ5 q6 => ?_)
  obtain ⟨rfl, q6⟩ := q6
  rw [q6]
  refine a_iload_n C dX12_word_9 (i := 2) rfl rfl ?_
  refine a_callSl C (i_app1 hid (by decide)) ms_X12_appends ml_RX12_165 rfl rfl (Nat.le_of_ble_eq_true rfl) (Nat.le_of_ble_eq_true rfl) (Nat.le_of_ble_eq_true rfl) dX12_word_10 (fun r7 σ8 q9 => ?_)
  obtain ⟨rfl, q9⟩ := q9
  rw [q9]
  refine a_iload_n C dX12_word_13 (i := 3) rfl rfl ?_
  refine a_callSl C (i_app1 hid (by decide)) ms_X12_appends ml_RX12_165 rfl rfl (Nat.le_of_ble_eq_true rfl) (Nat.le_of_ble_eq_true rfl) (Nat.le_of_ble_eq_true rfl) dX12_word_14 (fun r10 σ11 q12 => ?_)
  obtain ⟨rfl, q12⟩ := q12
  rw [q12]
  refine a_iload C dX12_word_17 rfl ?_
  refine a_callSl C (i_app1 hid (by decide)) ms_X12_appends ml_RX12_165 rfl rfl (Nat.le_of_ble_eq_true rfl) (Nat.le_of_ble_eq_true rfl) (Nat.le_of_ble_eq_true rfl) dX12_word_19 (fun r13 σ14 q15 => ?_)
  obtain ⟨rfl, q15⟩ := q15
  rw [q15]
  refine a_iload C dX12_word_22 rfl ?_
  refine a_callSl C (i_app0 hid) ms_X12_appends ml_RX12_165 rfl rfl (Nat.le_of_ble_eq_true rfl) (Nat.le_of_ble_eq_true rfl) (Nat.le_of_ble_eq_true rfl) dX12_word_24 (fun r16 σ17 q18 => ?_)
  obtain ⟨rfl, q18⟩ := q18
  rw [q18]
  refine a_iload C dX12_word_27 rfl ?_
  refine a_callSl C (i_app0 hid) ms_X12_appends ml_RX12_165 rfl rfl (Nat.le_of_ble_eq_true rfl) (Nat.le_of_ble_eq_true rfl) (Nat.le_of_ble_eq_true rfl) dX12_word_29 (fun r19 σ20 q21 => ?_)
  obtain ⟨rfl, q21⟩ := q21
  rw [q21]
  exact a_lret Rt dX12_word_32 (⟨rfl, rfl⟩)
set_option maxHeartbeats 4000000 in
set_option maxRecDepth 100000 in
theorem i_word_18 {l : Launch} {D : va_G} {ids : List Nat} {ad : Nat → Nat} {ca : Nat → ClassId} {σ : HS} (hid : ∀ i, 236 ≤ i ∧ i < 277 → i ∈ ids) : Kl l D ids ad ca yX12_word cX12_word 7 1 22 [.int 99, .int 97, .int 117, .int 103, .int 104, .int 116, .int 0] σ (fun r σ1 => r = 43996844 ∧ σ1 = σ) := by
  refine Kl.of (by decide) (Nat.le_of_ble_eq_true rfl) 0 (fun Γ C Rt => ?_)
  show AW ids ad ca Γ 0 [some (.int 99), some (.int 97), some (.int 117), some (.int 103), some (.int 104), some (.int 116), some (.int 0)] [] σ
  refine a_lconst C dX12_word_0 (v := 0) rfl ?_
  refine a_iload_n C dX12_word_1 (i := 0) rfl rfl ?_
  refine a_callSl C (i_app1 hid (by decide)) ms_X12_appends ml_RX12_165 rfl rfl (Nat.le_of_ble_eq_true rfl) (Nat.le_of_ble_eq_true rfl) (Nat.le_of_ble_eq_true rfl) dX12_word_2 (fun r1 σ2 q3 => ?_)
  obtain ⟨rfl, q3⟩ := q3
  rw [q3]
  refine a_iload_n C dX12_word_5 (i := 1) rfl rfl ?_
  refine a_callSl C (i_app1 hid (by decide)) ms_X12_appends ml_RX12_165 rfl rfl (Nat.le_of_ble_eq_true rfl) (Nat.le_of_ble_eq_true rfl) (Nat.le_of_ble_eq_true rfl) dX12_word_6 (fun r4 σ5 q6 => ?_)
  obtain ⟨rfl, q6⟩ := q6
  rw [q6]
  refine a_iload_n C dX12_word_9 (i := 2) rfl rfl ?_
  refine a_callSl C (i_app1 hid (by decide)) ms_X12_appends ml_RX12_165 rfl rfl (Nat.le_of_ble_eq_true rfl) (Nat.le_of_ble_eq_true rfl) (Nat.le_of_ble_eq_true rfl) dX12_word_10 (fun r7 σ8 q9 => ?_)
  obtain ⟨rfl, q9⟩ := q9
  rw [q9]
  refine a_iload_n C dX12_word_13 (i := 3) rfl rfl ?_
  refine a_callSl C (i_app1 hid (by decide)) ms_X12_appends ml_RX12_165 rfl rfl (Nat.le_of_ble_eq_true rfl) (Nat.le_of_ble_eq_true rfl) (Nat.le_of_ble_eq_true rfl) dX12_word_14 (fun r10 σ11 q12 => ?_)
  obtain ⟨rfl, q12⟩ := q12
  rw [q12]
  refine a_iload C dX12_word_17 rfl ?_
  refine a_callSl C (i_app1 hid (by decide)) ms_X12_appends ml_RX12_165 rfl rfl (Nat.le_of_ble_eq_true rfl) (Nat.le_of_ble_eq_true rfl) (Nat.le_of_ble_eq_true rfl) dX12_word_19 (fun r13 σ14 q15 => ?_)
  obtain ⟨rfl, q15⟩ := q15
  rw [q15]
  refine a_iload C dX12_word_22 rfl ?_
  refine a_callSl C (i_app1 hid (by decide)) ms_X12_appends ml_RX12_165 rfl rfl (Nat.le_of_ble_eq_true rfl) (Nat.le_of_ble_eq_true rfl) (Nat.le_of_ble_eq_true rfl) dX12_word_24 (fun r16 σ17 q18 => ?_)
  obtain ⟨rfl, q18⟩ := q18
  rw [q18]
  refine a_iload C dX12_word_27 rfl ?_
  refine a_callSl C (i_app0 hid) ms_X12_appends ml_RX12_165 rfl rfl (Nat.le_of_ble_eq_true rfl) (Nat.le_of_ble_eq_true rfl) (Nat.le_of_ble_eq_true rfl) dX12_word_29 (fun r19 σ20 q21 => ?_)
  obtain ⟨rfl, q21⟩ := q21
  rw [q21]
  exact a_lret Rt dX12_word_32 (⟨rfl, rfl⟩)
set_option maxHeartbeats 4000000 in
set_option maxRecDepth 100000 in
theorem i_word_19 {l : Launch} {D : va_G} {ids : List Nat} {ad : Nat → Nat} {ca : Nat → ClassId} {σ : HS} (hid : ∀ i, 236 ≤ i ∧ i < 277 → i ∈ ids) : Kl l D ids ad ca yX12_word cX12_word 7 1 22 [.int 104, .int 97, .int 110, .int 100, .int 0, .int 0, .int 0] σ (fun r σ1 => r = 158575 ∧ σ1 = σ) := by
  refine Kl.of (by decide) (Nat.le_of_ble_eq_true rfl) 0 (fun Γ C Rt => ?_)
  show AW ids ad ca Γ 0 [some (.int 104), some (.int 97), some (.int 110), some (.int 100), some (.int 0), some (.int 0), some (.int 0)] [] σ
  refine a_lconst C dX12_word_0 (v := 0) rfl ?_
  refine a_iload_n C dX12_word_1 (i := 0) rfl rfl ?_
  refine a_callSl C (i_app1 hid (by decide)) ms_X12_appends ml_RX12_165 rfl rfl (Nat.le_of_ble_eq_true rfl) (Nat.le_of_ble_eq_true rfl) (Nat.le_of_ble_eq_true rfl) dX12_word_2 (fun r1 σ2 q3 => ?_)
  obtain ⟨rfl, q3⟩ := q3
  rw [q3]
  refine a_iload_n C dX12_word_5 (i := 1) rfl rfl ?_
  refine a_callSl C (i_app1 hid (by decide)) ms_X12_appends ml_RX12_165 rfl rfl (Nat.le_of_ble_eq_true rfl) (Nat.le_of_ble_eq_true rfl) (Nat.le_of_ble_eq_true rfl) dX12_word_6 (fun r4 σ5 q6 => ?_)
  obtain ⟨rfl, q6⟩ := q6
  rw [q6]
  refine a_iload_n C dX12_word_9 (i := 2) rfl rfl ?_
  refine a_callSl C (i_app1 hid (by decide)) ms_X12_appends ml_RX12_165 rfl rfl (Nat.le_of_ble_eq_true rfl) (Nat.le_of_ble_eq_true rfl) (Nat.le_of_ble_eq_true rfl) dX12_word_10 (fun r7 σ8 q9 => ?_)
  obtain ⟨rfl, q9⟩ := q9
  rw [q9]
  refine a_iload_n C dX12_word_13 (i := 3) rfl rfl ?_
  refine a_callSl C (i_app1 hid (by decide)) ms_X12_appends ml_RX12_165 rfl rfl (Nat.le_of_ble_eq_true rfl) (Nat.le_of_ble_eq_true rfl) (Nat.le_of_ble_eq_true rfl) dX12_word_14 (fun r10 σ11 q12 => ?_)
  obtain ⟨rfl, q12⟩ := q12
  rw [q12]
  refine a_iload C dX12_word_17 rfl ?_
  refine a_callSl C (i_app0 hid) ms_X12_appends ml_RX12_165 rfl rfl (Nat.le_of_ble_eq_true rfl) (Nat.le_of_ble_eq_true rfl) (Nat.le_of_ble_eq_true rfl) dX12_word_19 (fun r13 σ14 q15 => ?_)
  obtain ⟨rfl, q15⟩ := q15
  rw [q15]
  refine a_iload C dX12_word_22 rfl ?_
  refine a_callSl C (i_app0 hid) ms_X12_appends ml_RX12_165 rfl rfl (Nat.le_of_ble_eq_true rfl) (Nat.le_of_ble_eq_true rfl) (Nat.le_of_ble_eq_true rfl) dX12_word_24 (fun r16 σ17 q18 => ?_)
  obtain ⟨rfl, q18⟩ := q18
  rw [q18]
  refine a_iload C dX12_word_27 rfl ?_
  refine a_callSl C (i_app0 hid) ms_X12_appends ml_RX12_165 rfl rfl (Nat.le_of_ble_eq_true rfl) (Nat.le_of_ble_eq_true rfl) (Nat.le_of_ble_eq_true rfl) dX12_word_29 (fun r19 σ20 q21 => ?_)
  obtain ⟨rfl, q21⟩ := q21
  rw [q21]
  exact a_lret Rt dX12_word_32 (⟨rfl, rfl⟩)
set_option maxHeartbeats 4000000 in
set_option maxRecDepth 100000 in
theorem i_plain {l : Launch} {D : va_G} {ids : List Nat} {ad : Nat → Nat} {ca : Nat → ClassId} {σ : HS} (hid : ∀ i, 236 ≤ i ∧ i < 277 → i ∈ ids) : Kv l D ids ad ca yX12_plain cX12_plain 3 0 0 [.ref (ad 236), .int 0] σ (fun σ1 => σ1 = (hI (hI (hI (hI (hI (hI (hI (hI (hI (hI (hI (hI σ 245 0 0) 249 0 0) 252 0 1) 253 0 0) 254 0 0) 255 0 0) 254 1 0) 255 1 0) 254 2 0) 255 2 0) 254 3 0) 255 3 0)) := by
  refine Kv.of (by decide) (Nat.le_of_ble_eq_true rfl) 1 (fun Γ C Rt => ?_)
  show AW ids ad ca Γ 0 [some (.ref (ad 236)), some (.int 0), none] [] σ
  refine a_aload_n C dX12_plain_0 (i := 0) rfl rfl ?_
  refine a_get C fl_RX12_43 (i := 236) kd_236 (hid 236 (by decide)) (v := .ref (ad 245)) rfl dX12_plain_1 ?_
  refine a_iload_n C dX12_plain_4 (i := 1) rfl rfl ?_
  refine a_iconst C dX12_plain_5 (v := 0) rfl ?_
  refine a_iast C (i := 245) 0 kd_245 (hid 245 (by decide)) (by decide) rfl (by rw [al_245]; decide) dX12_plain_6 ?_
  refine a_aload_n C dX12_plain_7 (i := 0) rfl rfl ?_
  refine a_get C fl_RX12_55 (i := 236) kd_236 (hid 236 (by decide)) (v := .ref (ad 249)) rfl dX12_plain_8 ?_
  refine a_iload_n C dX12_plain_11 (i := 1) rfl rfl ?_
  refine a_iconst C dX12_plain_12 (v := 0) rfl ?_
  refine a_iast C (i := 249) 0 kd_249 (hid 249 (by decide)) (by decide) rfl (by rw [al_249]; decide) dX12_plain_13 ?_
  refine a_aload_n C dX12_plain_14 (i := 0) rfl rfl ?_
  refine a_get C fl_RX12_64 (i := 236) kd_236 (hid 236 (by decide)) (v := .ref (ad 252)) rfl dX12_plain_15 ?_
  refine a_iload_n C dX12_plain_18 (i := 1) rfl rfl ?_
  refine a_iconst C dX12_plain_19 (v := 1) rfl ?_
  refine a_iast C (i := 252) 0 kd_252 (hid 252 (by decide)) (by decide) rfl (by rw [al_252]; decide) dX12_plain_20 ?_
  refine a_aload_n C dX12_plain_21 (i := 0) rfl rfl ?_
  refine a_get C fl_RX12_67 (i := 236) kd_236 (hid 236 (by decide)) (v := .ref (ad 253)) rfl dX12_plain_22 ?_
  refine a_iload_n C dX12_plain_25 (i := 1) rfl rfl ?_
  refine a_iconst C dX12_plain_26 (v := 0) rfl ?_
  refine a_iast C (i := 253) 0 kd_253 (hid 253 (by decide)) (by decide) rfl (by rw [al_253]; decide) dX12_plain_27 ?_
  refine a_iconst C dX12_plain_28 (v := 0) rfl ?_
  refine a_istore_n C dX12_plain_29 (i := 2) rfl (by decide) rfl (vs1 := [some (.ref (ad 236)), some (.int 0), some (.int 0)]) rfl ?_
  refine a_iload_n C dX12_plain_30 (i := 2) rfl rfl ?_
  refine a_iconst C dX12_plain_31 (v := 4) rfl ?_
  refine a_ic_ge C dX12_plain_32 (tgt := 63) rfl (fun h => absurd h (by decide)) (fun _ => ?_)
  refine a_aload_n C dX12_plain_35 (i := 0) rfl rfl ?_
  refine a_get C fl_RX12_70 (i := 236) kd_236 (hid 236 (by decide)) (v := .ref (ad 254)) rfl dX12_plain_36 ?_
  refine a_iconst C dX12_plain_39 (v := 4) rfl ?_
  refine a_iload_n C dX12_plain_40 (i := 1) rfl rfl ?_
  refine a_imul C dX12_plain_41 ?_
  refine a_iload_n C dX12_plain_42 (i := 2) rfl rfl ?_
  refine a_iadd C dX12_plain_43 ?_
  refine a_iconst C dX12_plain_44 (v := 0) rfl ?_
  refine a_iast C (i := 254) 0 kd_254 (hid 254 (by decide)) (by decide) rfl (by rw [al_254]; decide) dX12_plain_45 ?_
  refine a_aload_n C dX12_plain_46 (i := 0) rfl rfl ?_
  refine a_get C fl_RX12_73 (i := 236) kd_236 (hid 236 (by decide)) (v := .ref (ad 255)) rfl dX12_plain_47 ?_
  refine a_iconst C dX12_plain_50 (v := 4) rfl ?_
  refine a_iload_n C dX12_plain_51 (i := 1) rfl rfl ?_
  refine a_imul C dX12_plain_52 ?_
  refine a_iload_n C dX12_plain_53 (i := 2) rfl rfl ?_
  refine a_iadd C dX12_plain_54 ?_
  refine a_iconst C dX12_plain_55 (v := 0) rfl ?_
  refine a_iast C (i := 255) 0 kd_255 (hid 255 (by decide)) (by decide) rfl (by rw [al_255]; decide) dX12_plain_56 ?_
  refine a_iinc C dX12_plain_57 rfl (v := 1) rfl (by decide) rfl (vs1 := [some (.ref (ad 236)), some (.int 0), some (.int 1)]) rfl ?_
  refine a_goto C dX12_plain_60 (tgt := 30) rfl ?_
  refine a_iload_n C dX12_plain_30 (i := 2) rfl rfl ?_
  refine a_iconst C dX12_plain_31 (v := 4) rfl ?_
  refine a_ic_ge C dX12_plain_32 (tgt := 63) rfl (fun h => absurd h (by decide)) (fun _ => ?_)
  refine a_aload_n C dX12_plain_35 (i := 0) rfl rfl ?_
  refine a_get C fl_RX12_70 (i := 236) kd_236 (hid 236 (by decide)) (v := .ref (ad 254)) rfl dX12_plain_36 ?_
  refine a_iconst C dX12_plain_39 (v := 4) rfl ?_
  refine a_iload_n C dX12_plain_40 (i := 1) rfl rfl ?_
  refine a_imul C dX12_plain_41 ?_
  refine a_iload_n C dX12_plain_42 (i := 2) rfl rfl ?_
  refine a_iadd C dX12_plain_43 ?_
  refine a_iconst C dX12_plain_44 (v := 0) rfl ?_
  refine a_iast C (i := 254) 1 kd_254 (hid 254 (by decide)) (by decide) rfl (by rw [al_254]; decide) dX12_plain_45 ?_
  refine a_aload_n C dX12_plain_46 (i := 0) rfl rfl ?_
  refine a_get C fl_RX12_73 (i := 236) kd_236 (hid 236 (by decide)) (v := .ref (ad 255)) rfl dX12_plain_47 ?_
  refine a_iconst C dX12_plain_50 (v := 4) rfl ?_
  refine a_iload_n C dX12_plain_51 (i := 1) rfl rfl ?_
  refine a_imul C dX12_plain_52 ?_
  refine a_iload_n C dX12_plain_53 (i := 2) rfl rfl ?_
  refine a_iadd C dX12_plain_54 ?_
  refine a_iconst C dX12_plain_55 (v := 0) rfl ?_
  refine a_iast C (i := 255) 1 kd_255 (hid 255 (by decide)) (by decide) rfl (by rw [al_255]; decide) dX12_plain_56 ?_
  refine a_iinc C dX12_plain_57 rfl (v := 2) rfl (by decide) rfl (vs1 := [some (.ref (ad 236)), some (.int 0), some (.int 2)]) rfl ?_
  refine a_goto C dX12_plain_60 (tgt := 30) rfl ?_
  refine a_iload_n C dX12_plain_30 (i := 2) rfl rfl ?_
  refine a_iconst C dX12_plain_31 (v := 4) rfl ?_
  refine a_ic_ge C dX12_plain_32 (tgt := 63) rfl (fun h => absurd h (by decide)) (fun _ => ?_)
  refine a_aload_n C dX12_plain_35 (i := 0) rfl rfl ?_
  refine a_get C fl_RX12_70 (i := 236) kd_236 (hid 236 (by decide)) (v := .ref (ad 254)) rfl dX12_plain_36 ?_
  refine a_iconst C dX12_plain_39 (v := 4) rfl ?_
  refine a_iload_n C dX12_plain_40 (i := 1) rfl rfl ?_
  refine a_imul C dX12_plain_41 ?_
  refine a_iload_n C dX12_plain_42 (i := 2) rfl rfl ?_
  refine a_iadd C dX12_plain_43 ?_
  refine a_iconst C dX12_plain_44 (v := 0) rfl ?_
  refine a_iast C (i := 254) 2 kd_254 (hid 254 (by decide)) (by decide) rfl (by rw [al_254]; decide) dX12_plain_45 ?_
  refine a_aload_n C dX12_plain_46 (i := 0) rfl rfl ?_
  refine a_get C fl_RX12_73 (i := 236) kd_236 (hid 236 (by decide)) (v := .ref (ad 255)) rfl dX12_plain_47 ?_
  refine a_iconst C dX12_plain_50 (v := 4) rfl ?_
  refine a_iload_n C dX12_plain_51 (i := 1) rfl rfl ?_
  refine a_imul C dX12_plain_52 ?_
  refine a_iload_n C dX12_plain_53 (i := 2) rfl rfl ?_
  refine a_iadd C dX12_plain_54 ?_
  refine a_iconst C dX12_plain_55 (v := 0) rfl ?_
  refine a_iast C (i := 255) 2 kd_255 (hid 255 (by decide)) (by decide) rfl (by rw [al_255]; decide) dX12_plain_56 ?_
  refine a_iinc C dX12_plain_57 rfl (v := 3) rfl (by decide) rfl (vs1 := [some (.ref (ad 236)), some (.int 0), some (.int 3)]) rfl ?_
  refine a_goto C dX12_plain_60 (tgt := 30) rfl ?_
  refine a_iload_n C dX12_plain_30 (i := 2) rfl rfl ?_
  refine a_iconst C dX12_plain_31 (v := 4) rfl ?_
  refine a_ic_ge C dX12_plain_32 (tgt := 63) rfl (fun h => absurd h (by decide)) (fun _ => ?_)
  refine a_aload_n C dX12_plain_35 (i := 0) rfl rfl ?_
  refine a_get C fl_RX12_70 (i := 236) kd_236 (hid 236 (by decide)) (v := .ref (ad 254)) rfl dX12_plain_36 ?_
  refine a_iconst C dX12_plain_39 (v := 4) rfl ?_
  refine a_iload_n C dX12_plain_40 (i := 1) rfl rfl ?_
  refine a_imul C dX12_plain_41 ?_
  refine a_iload_n C dX12_plain_42 (i := 2) rfl rfl ?_
  refine a_iadd C dX12_plain_43 ?_
  refine a_iconst C dX12_plain_44 (v := 0) rfl ?_
  refine a_iast C (i := 254) 3 kd_254 (hid 254 (by decide)) (by decide) rfl (by rw [al_254]; decide) dX12_plain_45 ?_
  refine a_aload_n C dX12_plain_46 (i := 0) rfl rfl ?_
  refine a_get C fl_RX12_73 (i := 236) kd_236 (hid 236 (by decide)) (v := .ref (ad 255)) rfl dX12_plain_47 ?_
  refine a_iconst C dX12_plain_50 (v := 4) rfl ?_
  refine a_iload_n C dX12_plain_51 (i := 1) rfl rfl ?_
  refine a_imul C dX12_plain_52 ?_
  refine a_iload_n C dX12_plain_53 (i := 2) rfl rfl ?_
  refine a_iadd C dX12_plain_54 ?_
  refine a_iconst C dX12_plain_55 (v := 0) rfl ?_
  refine a_iast C (i := 255) 3 kd_255 (hid 255 (by decide)) (by decide) rfl (by rw [al_255]; decide) dX12_plain_56 ?_
  refine a_iinc C dX12_plain_57 rfl (v := 4) rfl (by decide) rfl (vs1 := [some (.ref (ad 236)), some (.int 0), some (.int 4)]) rfl ?_
  refine a_goto C dX12_plain_60 (tgt := 30) rfl ?_
  refine a_iload_n C dX12_plain_30 (i := 2) rfl rfl ?_
  refine a_iconst C dX12_plain_31 (v := 4) rfl ?_
  refine a_ic_ge C dX12_plain_32 (tgt := 63) rfl (fun _ => ?_) (fun h => absurd h (by decide))
  exact a_vret Rt dX12_plain_63 (rfl)
set_option maxHeartbeats 4000000 in
set_option maxRecDepth 100000 in
theorem i_begins {l : Launch} {D : va_G} {ids : List Nat} {ad : Nat → Nat} {ca : Nat → ClassId} {σ : HS} (hid : ∀ i, 236 ≤ i ∧ i < 277 → i ∈ ids) (h_236_18 : σ.1 236 18 = 0) (h_245_0 : σ.1 245 0 = 0) (h_249_0 : σ.1 249 0 = 0) (h_253_0 : σ.1 253 0 = 0) : Kv l D ids ad ca yX12_begins cX12_begins 2 0 0 [.ref (ad 236)] σ (fun σ1 => σ1 = (hI (hI (hI (hI (hI (hI (hI (hI (hI (hI (hI (hI (hI (hI (hI (hI (hI (hI (hI (hI (hI (hI (hI (hI (hI (hI (hI (hI (hI (hI (hI (hI (hI σ 267 0 0) 267 1 0) 267 2 0) 267 3 0) 267 4 0) 267 5 0) 267 6 0) 267 7 0) 267 8 0) 267 9 0) 267 10 0) 267 11 0) 267 12 0) 267 13 0) 267 14 0) 267 15 0) 267 16 0) 267 17 0) 267 18 0) 267 19 0) 267 20 0) 267 21 0) 267 22 0) 267 23 0) 267 24 0) 267 25 0) 267 26 0) 267 27 0) 267 28 0) 267 26 (-2)) 267 28 (-1)) 236 49 0) 236 50 0)) := by
  refine Kv.of (by decide) (Nat.le_of_ble_eq_true rfl) 1 (fun Γ C Rt => ?_)
  show AW ids ad ca Γ 0 [some (.ref (ad 236)), none] [] σ
  refine a_iconst C dX12_begins_0 (v := 0) rfl ?_
  refine a_istore_n C dX12_begins_1 (i := 1) rfl (by decide) rfl (vs1 := [some (.ref (ad 236)), some (.int 0)]) rfl ?_
  refine a_iload_n C dX12_begins_2 (i := 1) rfl rfl ?_
  refine a_bipush C dX12_begins_3 (v := 29) rfl ?_
  refine a_ic_ge C dX12_begins_5 (tgt := 21) rfl (fun h => absurd h (by decide)) (fun _ => ?_)
  refine a_aload_n C dX12_begins_8 (i := 0) rfl rfl ?_
  refine a_get C fl_RX12_110 (i := 236) kd_236 (hid 236 (by decide)) (v := .ref (ad 267)) rfl dX12_begins_9 ?_
  refine a_iload_n C dX12_begins_12 (i := 1) rfl rfl ?_
  refine a_iconst C dX12_begins_13 (v := 0) rfl ?_
  refine a_iast C (i := 267) 0 kd_267 (hid 267 (by decide)) (by decide) rfl (by rw [al_267]; decide) dX12_begins_14 ?_
  refine a_iinc C dX12_begins_15 rfl (v := 1) rfl (by decide) rfl (vs1 := [some (.ref (ad 236)), some (.int 1)]) rfl ?_
  refine a_goto C dX12_begins_18 (tgt := 2) rfl ?_
  refine a_iload_n C dX12_begins_2 (i := 1) rfl rfl ?_
  refine a_bipush C dX12_begins_3 (v := 29) rfl ?_
  refine a_ic_ge C dX12_begins_5 (tgt := 21) rfl (fun h => absurd h (by decide)) (fun _ => ?_)
  refine a_aload_n C dX12_begins_8 (i := 0) rfl rfl ?_
  refine a_get C fl_RX12_110 (i := 236) kd_236 (hid 236 (by decide)) (v := .ref (ad 267)) rfl dX12_begins_9 ?_
  refine a_iload_n C dX12_begins_12 (i := 1) rfl rfl ?_
  refine a_iconst C dX12_begins_13 (v := 0) rfl ?_
  refine a_iast C (i := 267) 1 kd_267 (hid 267 (by decide)) (by decide) rfl (by rw [al_267]; decide) dX12_begins_14 ?_
  refine a_iinc C dX12_begins_15 rfl (v := 2) rfl (by decide) rfl (vs1 := [some (.ref (ad 236)), some (.int 2)]) rfl ?_
  refine a_goto C dX12_begins_18 (tgt := 2) rfl ?_
  refine a_iload_n C dX12_begins_2 (i := 1) rfl rfl ?_
  refine a_bipush C dX12_begins_3 (v := 29) rfl ?_
  refine a_ic_ge C dX12_begins_5 (tgt := 21) rfl (fun h => absurd h (by decide)) (fun _ => ?_)
  refine a_aload_n C dX12_begins_8 (i := 0) rfl rfl ?_
  refine a_get C fl_RX12_110 (i := 236) kd_236 (hid 236 (by decide)) (v := .ref (ad 267)) rfl dX12_begins_9 ?_
  refine a_iload_n C dX12_begins_12 (i := 1) rfl rfl ?_
  refine a_iconst C dX12_begins_13 (v := 0) rfl ?_
  refine a_iast C (i := 267) 2 kd_267 (hid 267 (by decide)) (by decide) rfl (by rw [al_267]; decide) dX12_begins_14 ?_
  refine a_iinc C dX12_begins_15 rfl (v := 3) rfl (by decide) rfl (vs1 := [some (.ref (ad 236)), some (.int 3)]) rfl ?_
  refine a_goto C dX12_begins_18 (tgt := 2) rfl ?_
  refine a_iload_n C dX12_begins_2 (i := 1) rfl rfl ?_
  refine a_bipush C dX12_begins_3 (v := 29) rfl ?_
  refine a_ic_ge C dX12_begins_5 (tgt := 21) rfl (fun h => absurd h (by decide)) (fun _ => ?_)
  refine a_aload_n C dX12_begins_8 (i := 0) rfl rfl ?_
  refine a_get C fl_RX12_110 (i := 236) kd_236 (hid 236 (by decide)) (v := .ref (ad 267)) rfl dX12_begins_9 ?_
  refine a_iload_n C dX12_begins_12 (i := 1) rfl rfl ?_
  refine a_iconst C dX12_begins_13 (v := 0) rfl ?_
  refine a_iast C (i := 267) 3 kd_267 (hid 267 (by decide)) (by decide) rfl (by rw [al_267]; decide) dX12_begins_14 ?_
  refine a_iinc C dX12_begins_15 rfl (v := 4) rfl (by decide) rfl (vs1 := [some (.ref (ad 236)), some (.int 4)]) rfl ?_
  refine a_goto C dX12_begins_18 (tgt := 2) rfl ?_
  refine a_iload_n C dX12_begins_2 (i := 1) rfl rfl ?_
  refine a_bipush C dX12_begins_3 (v := 29) rfl ?_
  refine a_ic_ge C dX12_begins_5 (tgt := 21) rfl (fun h => absurd h (by decide)) (fun _ => ?_)
  refine a_aload_n C dX12_begins_8 (i := 0) rfl rfl ?_
  refine a_get C fl_RX12_110 (i := 236) kd_236 (hid 236 (by decide)) (v := .ref (ad 267)) rfl dX12_begins_9 ?_
  refine a_iload_n C dX12_begins_12 (i := 1) rfl rfl ?_
  refine a_iconst C dX12_begins_13 (v := 0) rfl ?_
  refine a_iast C (i := 267) 4 kd_267 (hid 267 (by decide)) (by decide) rfl (by rw [al_267]; decide) dX12_begins_14 ?_
  refine a_iinc C dX12_begins_15 rfl (v := 5) rfl (by decide) rfl (vs1 := [some (.ref (ad 236)), some (.int 5)]) rfl ?_
  refine a_goto C dX12_begins_18 (tgt := 2) rfl ?_
  refine a_iload_n C dX12_begins_2 (i := 1) rfl rfl ?_
  refine a_bipush C dX12_begins_3 (v := 29) rfl ?_
  refine a_ic_ge C dX12_begins_5 (tgt := 21) rfl (fun h => absurd h (by decide)) (fun _ => ?_)
  refine a_aload_n C dX12_begins_8 (i := 0) rfl rfl ?_
  refine a_get C fl_RX12_110 (i := 236) kd_236 (hid 236 (by decide)) (v := .ref (ad 267)) rfl dX12_begins_9 ?_
  refine a_iload_n C dX12_begins_12 (i := 1) rfl rfl ?_
  refine a_iconst C dX12_begins_13 (v := 0) rfl ?_
  refine a_iast C (i := 267) 5 kd_267 (hid 267 (by decide)) (by decide) rfl (by rw [al_267]; decide) dX12_begins_14 ?_
  refine a_iinc C dX12_begins_15 rfl (v := 6) rfl (by decide) rfl (vs1 := [some (.ref (ad 236)), some (.int 6)]) rfl ?_
  refine a_goto C dX12_begins_18 (tgt := 2) rfl ?_
  refine a_iload_n C dX12_begins_2 (i := 1) rfl rfl ?_
  refine a_bipush C dX12_begins_3 (v := 29) rfl ?_
  refine a_ic_ge C dX12_begins_5 (tgt := 21) rfl (fun h => absurd h (by decide)) (fun _ => ?_)
  refine a_aload_n C dX12_begins_8 (i := 0) rfl rfl ?_
  refine a_get C fl_RX12_110 (i := 236) kd_236 (hid 236 (by decide)) (v := .ref (ad 267)) rfl dX12_begins_9 ?_
  refine a_iload_n C dX12_begins_12 (i := 1) rfl rfl ?_
  refine a_iconst C dX12_begins_13 (v := 0) rfl ?_
  refine a_iast C (i := 267) 6 kd_267 (hid 267 (by decide)) (by decide) rfl (by rw [al_267]; decide) dX12_begins_14 ?_
  refine a_iinc C dX12_begins_15 rfl (v := 7) rfl (by decide) rfl (vs1 := [some (.ref (ad 236)), some (.int 7)]) rfl ?_
  refine a_goto C dX12_begins_18 (tgt := 2) rfl ?_
  refine a_iload_n C dX12_begins_2 (i := 1) rfl rfl ?_
  refine a_bipush C dX12_begins_3 (v := 29) rfl ?_
  refine a_ic_ge C dX12_begins_5 (tgt := 21) rfl (fun h => absurd h (by decide)) (fun _ => ?_)
  refine a_aload_n C dX12_begins_8 (i := 0) rfl rfl ?_
  refine a_get C fl_RX12_110 (i := 236) kd_236 (hid 236 (by decide)) (v := .ref (ad 267)) rfl dX12_begins_9 ?_
  refine a_iload_n C dX12_begins_12 (i := 1) rfl rfl ?_
  refine a_iconst C dX12_begins_13 (v := 0) rfl ?_
  refine a_iast C (i := 267) 7 kd_267 (hid 267 (by decide)) (by decide) rfl (by rw [al_267]; decide) dX12_begins_14 ?_
  refine a_iinc C dX12_begins_15 rfl (v := 8) rfl (by decide) rfl (vs1 := [some (.ref (ad 236)), some (.int 8)]) rfl ?_
  refine a_goto C dX12_begins_18 (tgt := 2) rfl ?_
  refine a_iload_n C dX12_begins_2 (i := 1) rfl rfl ?_
  refine a_bipush C dX12_begins_3 (v := 29) rfl ?_
  refine a_ic_ge C dX12_begins_5 (tgt := 21) rfl (fun h => absurd h (by decide)) (fun _ => ?_)
  refine a_aload_n C dX12_begins_8 (i := 0) rfl rfl ?_
  refine a_get C fl_RX12_110 (i := 236) kd_236 (hid 236 (by decide)) (v := .ref (ad 267)) rfl dX12_begins_9 ?_
  refine a_iload_n C dX12_begins_12 (i := 1) rfl rfl ?_
  refine a_iconst C dX12_begins_13 (v := 0) rfl ?_
  refine a_iast C (i := 267) 8 kd_267 (hid 267 (by decide)) (by decide) rfl (by rw [al_267]; decide) dX12_begins_14 ?_
  refine a_iinc C dX12_begins_15 rfl (v := 9) rfl (by decide) rfl (vs1 := [some (.ref (ad 236)), some (.int 9)]) rfl ?_
  refine a_goto C dX12_begins_18 (tgt := 2) rfl ?_
  refine a_iload_n C dX12_begins_2 (i := 1) rfl rfl ?_
  refine a_bipush C dX12_begins_3 (v := 29) rfl ?_
  refine a_ic_ge C dX12_begins_5 (tgt := 21) rfl (fun h => absurd h (by decide)) (fun _ => ?_)
  refine a_aload_n C dX12_begins_8 (i := 0) rfl rfl ?_
  refine a_get C fl_RX12_110 (i := 236) kd_236 (hid 236 (by decide)) (v := .ref (ad 267)) rfl dX12_begins_9 ?_
  refine a_iload_n C dX12_begins_12 (i := 1) rfl rfl ?_
  refine a_iconst C dX12_begins_13 (v := 0) rfl ?_
  refine a_iast C (i := 267) 9 kd_267 (hid 267 (by decide)) (by decide) rfl (by rw [al_267]; decide) dX12_begins_14 ?_
  refine a_iinc C dX12_begins_15 rfl (v := 10) rfl (by decide) rfl (vs1 := [some (.ref (ad 236)), some (.int 10)]) rfl ?_
  refine a_goto C dX12_begins_18 (tgt := 2) rfl ?_
  refine a_iload_n C dX12_begins_2 (i := 1) rfl rfl ?_
  refine a_bipush C dX12_begins_3 (v := 29) rfl ?_
  refine a_ic_ge C dX12_begins_5 (tgt := 21) rfl (fun h => absurd h (by decide)) (fun _ => ?_)
  refine a_aload_n C dX12_begins_8 (i := 0) rfl rfl ?_
  refine a_get C fl_RX12_110 (i := 236) kd_236 (hid 236 (by decide)) (v := .ref (ad 267)) rfl dX12_begins_9 ?_
  refine a_iload_n C dX12_begins_12 (i := 1) rfl rfl ?_
  refine a_iconst C dX12_begins_13 (v := 0) rfl ?_
  refine a_iast C (i := 267) 10 kd_267 (hid 267 (by decide)) (by decide) rfl (by rw [al_267]; decide) dX12_begins_14 ?_
  refine a_iinc C dX12_begins_15 rfl (v := 11) rfl (by decide) rfl (vs1 := [some (.ref (ad 236)), some (.int 11)]) rfl ?_
  refine a_goto C dX12_begins_18 (tgt := 2) rfl ?_
  refine a_iload_n C dX12_begins_2 (i := 1) rfl rfl ?_
  refine a_bipush C dX12_begins_3 (v := 29) rfl ?_
  refine a_ic_ge C dX12_begins_5 (tgt := 21) rfl (fun h => absurd h (by decide)) (fun _ => ?_)
  refine a_aload_n C dX12_begins_8 (i := 0) rfl rfl ?_
  refine a_get C fl_RX12_110 (i := 236) kd_236 (hid 236 (by decide)) (v := .ref (ad 267)) rfl dX12_begins_9 ?_
  refine a_iload_n C dX12_begins_12 (i := 1) rfl rfl ?_
  refine a_iconst C dX12_begins_13 (v := 0) rfl ?_
  refine a_iast C (i := 267) 11 kd_267 (hid 267 (by decide)) (by decide) rfl (by rw [al_267]; decide) dX12_begins_14 ?_
  refine a_iinc C dX12_begins_15 rfl (v := 12) rfl (by decide) rfl (vs1 := [some (.ref (ad 236)), some (.int 12)]) rfl ?_
  refine a_goto C dX12_begins_18 (tgt := 2) rfl ?_
  refine a_iload_n C dX12_begins_2 (i := 1) rfl rfl ?_
  refine a_bipush C dX12_begins_3 (v := 29) rfl ?_
  refine a_ic_ge C dX12_begins_5 (tgt := 21) rfl (fun h => absurd h (by decide)) (fun _ => ?_)
  refine a_aload_n C dX12_begins_8 (i := 0) rfl rfl ?_
  refine a_get C fl_RX12_110 (i := 236) kd_236 (hid 236 (by decide)) (v := .ref (ad 267)) rfl dX12_begins_9 ?_
  refine a_iload_n C dX12_begins_12 (i := 1) rfl rfl ?_
  refine a_iconst C dX12_begins_13 (v := 0) rfl ?_
  refine a_iast C (i := 267) 12 kd_267 (hid 267 (by decide)) (by decide) rfl (by rw [al_267]; decide) dX12_begins_14 ?_
  refine a_iinc C dX12_begins_15 rfl (v := 13) rfl (by decide) rfl (vs1 := [some (.ref (ad 236)), some (.int 13)]) rfl ?_
  refine a_goto C dX12_begins_18 (tgt := 2) rfl ?_
  refine a_iload_n C dX12_begins_2 (i := 1) rfl rfl ?_
  refine a_bipush C dX12_begins_3 (v := 29) rfl ?_
  refine a_ic_ge C dX12_begins_5 (tgt := 21) rfl (fun h => absurd h (by decide)) (fun _ => ?_)
  refine a_aload_n C dX12_begins_8 (i := 0) rfl rfl ?_
  refine a_get C fl_RX12_110 (i := 236) kd_236 (hid 236 (by decide)) (v := .ref (ad 267)) rfl dX12_begins_9 ?_
  refine a_iload_n C dX12_begins_12 (i := 1) rfl rfl ?_
  refine a_iconst C dX12_begins_13 (v := 0) rfl ?_
  refine a_iast C (i := 267) 13 kd_267 (hid 267 (by decide)) (by decide) rfl (by rw [al_267]; decide) dX12_begins_14 ?_
  refine a_iinc C dX12_begins_15 rfl (v := 14) rfl (by decide) rfl (vs1 := [some (.ref (ad 236)), some (.int 14)]) rfl ?_
  refine a_goto C dX12_begins_18 (tgt := 2) rfl ?_
  refine a_iload_n C dX12_begins_2 (i := 1) rfl rfl ?_
  refine a_bipush C dX12_begins_3 (v := 29) rfl ?_
  refine a_ic_ge C dX12_begins_5 (tgt := 21) rfl (fun h => absurd h (by decide)) (fun _ => ?_)
  refine a_aload_n C dX12_begins_8 (i := 0) rfl rfl ?_
  refine a_get C fl_RX12_110 (i := 236) kd_236 (hid 236 (by decide)) (v := .ref (ad 267)) rfl dX12_begins_9 ?_
  refine a_iload_n C dX12_begins_12 (i := 1) rfl rfl ?_
  refine a_iconst C dX12_begins_13 (v := 0) rfl ?_
  refine a_iast C (i := 267) 14 kd_267 (hid 267 (by decide)) (by decide) rfl (by rw [al_267]; decide) dX12_begins_14 ?_
  refine a_iinc C dX12_begins_15 rfl (v := 15) rfl (by decide) rfl (vs1 := [some (.ref (ad 236)), some (.int 15)]) rfl ?_
  refine a_goto C dX12_begins_18 (tgt := 2) rfl ?_
  refine a_iload_n C dX12_begins_2 (i := 1) rfl rfl ?_
  refine a_bipush C dX12_begins_3 (v := 29) rfl ?_
  refine a_ic_ge C dX12_begins_5 (tgt := 21) rfl (fun h => absurd h (by decide)) (fun _ => ?_)
  refine a_aload_n C dX12_begins_8 (i := 0) rfl rfl ?_
  refine a_get C fl_RX12_110 (i := 236) kd_236 (hid 236 (by decide)) (v := .ref (ad 267)) rfl dX12_begins_9 ?_
  refine a_iload_n C dX12_begins_12 (i := 1) rfl rfl ?_
  refine a_iconst C dX12_begins_13 (v := 0) rfl ?_
  refine a_iast C (i := 267) 15 kd_267 (hid 267 (by decide)) (by decide) rfl (by rw [al_267]; decide) dX12_begins_14 ?_
  refine a_iinc C dX12_begins_15 rfl (v := 16) rfl (by decide) rfl (vs1 := [some (.ref (ad 236)), some (.int 16)]) rfl ?_
  refine a_goto C dX12_begins_18 (tgt := 2) rfl ?_
  refine a_iload_n C dX12_begins_2 (i := 1) rfl rfl ?_
  refine a_bipush C dX12_begins_3 (v := 29) rfl ?_
  refine a_ic_ge C dX12_begins_5 (tgt := 21) rfl (fun h => absurd h (by decide)) (fun _ => ?_)
  refine a_aload_n C dX12_begins_8 (i := 0) rfl rfl ?_
  refine a_get C fl_RX12_110 (i := 236) kd_236 (hid 236 (by decide)) (v := .ref (ad 267)) rfl dX12_begins_9 ?_
  refine a_iload_n C dX12_begins_12 (i := 1) rfl rfl ?_
  refine a_iconst C dX12_begins_13 (v := 0) rfl ?_
  refine a_iast C (i := 267) 16 kd_267 (hid 267 (by decide)) (by decide) rfl (by rw [al_267]; decide) dX12_begins_14 ?_
  refine a_iinc C dX12_begins_15 rfl (v := 17) rfl (by decide) rfl (vs1 := [some (.ref (ad 236)), some (.int 17)]) rfl ?_
  refine a_goto C dX12_begins_18 (tgt := 2) rfl ?_
  refine a_iload_n C dX12_begins_2 (i := 1) rfl rfl ?_
  refine a_bipush C dX12_begins_3 (v := 29) rfl ?_
  refine a_ic_ge C dX12_begins_5 (tgt := 21) rfl (fun h => absurd h (by decide)) (fun _ => ?_)
  refine a_aload_n C dX12_begins_8 (i := 0) rfl rfl ?_
  refine a_get C fl_RX12_110 (i := 236) kd_236 (hid 236 (by decide)) (v := .ref (ad 267)) rfl dX12_begins_9 ?_
  refine a_iload_n C dX12_begins_12 (i := 1) rfl rfl ?_
  refine a_iconst C dX12_begins_13 (v := 0) rfl ?_
  refine a_iast C (i := 267) 17 kd_267 (hid 267 (by decide)) (by decide) rfl (by rw [al_267]; decide) dX12_begins_14 ?_
  refine a_iinc C dX12_begins_15 rfl (v := 18) rfl (by decide) rfl (vs1 := [some (.ref (ad 236)), some (.int 18)]) rfl ?_
  refine a_goto C dX12_begins_18 (tgt := 2) rfl ?_
  refine a_iload_n C dX12_begins_2 (i := 1) rfl rfl ?_
  refine a_bipush C dX12_begins_3 (v := 29) rfl ?_
  refine a_ic_ge C dX12_begins_5 (tgt := 21) rfl (fun h => absurd h (by decide)) (fun _ => ?_)
  refine a_aload_n C dX12_begins_8 (i := 0) rfl rfl ?_
  refine a_get C fl_RX12_110 (i := 236) kd_236 (hid 236 (by decide)) (v := .ref (ad 267)) rfl dX12_begins_9 ?_
  refine a_iload_n C dX12_begins_12 (i := 1) rfl rfl ?_
  refine a_iconst C dX12_begins_13 (v := 0) rfl ?_
  refine a_iast C (i := 267) 18 kd_267 (hid 267 (by decide)) (by decide) rfl (by rw [al_267]; decide) dX12_begins_14 ?_
  refine a_iinc C dX12_begins_15 rfl (v := 19) rfl (by decide) rfl (vs1 := [some (.ref (ad 236)), some (.int 19)]) rfl ?_
  refine a_goto C dX12_begins_18 (tgt := 2) rfl ?_
  refine a_iload_n C dX12_begins_2 (i := 1) rfl rfl ?_
  refine a_bipush C dX12_begins_3 (v := 29) rfl ?_
  refine a_ic_ge C dX12_begins_5 (tgt := 21) rfl (fun h => absurd h (by decide)) (fun _ => ?_)
  refine a_aload_n C dX12_begins_8 (i := 0) rfl rfl ?_
  refine a_get C fl_RX12_110 (i := 236) kd_236 (hid 236 (by decide)) (v := .ref (ad 267)) rfl dX12_begins_9 ?_
  refine a_iload_n C dX12_begins_12 (i := 1) rfl rfl ?_
  refine a_iconst C dX12_begins_13 (v := 0) rfl ?_
  refine a_iast C (i := 267) 19 kd_267 (hid 267 (by decide)) (by decide) rfl (by rw [al_267]; decide) dX12_begins_14 ?_
  refine a_iinc C dX12_begins_15 rfl (v := 20) rfl (by decide) rfl (vs1 := [some (.ref (ad 236)), some (.int 20)]) rfl ?_
  refine a_goto C dX12_begins_18 (tgt := 2) rfl ?_
  refine a_iload_n C dX12_begins_2 (i := 1) rfl rfl ?_
  refine a_bipush C dX12_begins_3 (v := 29) rfl ?_
  refine a_ic_ge C dX12_begins_5 (tgt := 21) rfl (fun h => absurd h (by decide)) (fun _ => ?_)
  refine a_aload_n C dX12_begins_8 (i := 0) rfl rfl ?_
  refine a_get C fl_RX12_110 (i := 236) kd_236 (hid 236 (by decide)) (v := .ref (ad 267)) rfl dX12_begins_9 ?_
  refine a_iload_n C dX12_begins_12 (i := 1) rfl rfl ?_
  refine a_iconst C dX12_begins_13 (v := 0) rfl ?_
  refine a_iast C (i := 267) 20 kd_267 (hid 267 (by decide)) (by decide) rfl (by rw [al_267]; decide) dX12_begins_14 ?_
  refine a_iinc C dX12_begins_15 rfl (v := 21) rfl (by decide) rfl (vs1 := [some (.ref (ad 236)), some (.int 21)]) rfl ?_
  refine a_goto C dX12_begins_18 (tgt := 2) rfl ?_
  refine a_iload_n C dX12_begins_2 (i := 1) rfl rfl ?_
  refine a_bipush C dX12_begins_3 (v := 29) rfl ?_
  refine a_ic_ge C dX12_begins_5 (tgt := 21) rfl (fun h => absurd h (by decide)) (fun _ => ?_)
  refine a_aload_n C dX12_begins_8 (i := 0) rfl rfl ?_
  refine a_get C fl_RX12_110 (i := 236) kd_236 (hid 236 (by decide)) (v := .ref (ad 267)) rfl dX12_begins_9 ?_
  refine a_iload_n C dX12_begins_12 (i := 1) rfl rfl ?_
  refine a_iconst C dX12_begins_13 (v := 0) rfl ?_
  refine a_iast C (i := 267) 21 kd_267 (hid 267 (by decide)) (by decide) rfl (by rw [al_267]; decide) dX12_begins_14 ?_
  refine a_iinc C dX12_begins_15 rfl (v := 22) rfl (by decide) rfl (vs1 := [some (.ref (ad 236)), some (.int 22)]) rfl ?_
  refine a_goto C dX12_begins_18 (tgt := 2) rfl ?_
  refine a_iload_n C dX12_begins_2 (i := 1) rfl rfl ?_
  refine a_bipush C dX12_begins_3 (v := 29) rfl ?_
  refine a_ic_ge C dX12_begins_5 (tgt := 21) rfl (fun h => absurd h (by decide)) (fun _ => ?_)
  refine a_aload_n C dX12_begins_8 (i := 0) rfl rfl ?_
  refine a_get C fl_RX12_110 (i := 236) kd_236 (hid 236 (by decide)) (v := .ref (ad 267)) rfl dX12_begins_9 ?_
  refine a_iload_n C dX12_begins_12 (i := 1) rfl rfl ?_
  refine a_iconst C dX12_begins_13 (v := 0) rfl ?_
  refine a_iast C (i := 267) 22 kd_267 (hid 267 (by decide)) (by decide) rfl (by rw [al_267]; decide) dX12_begins_14 ?_
  refine a_iinc C dX12_begins_15 rfl (v := 23) rfl (by decide) rfl (vs1 := [some (.ref (ad 236)), some (.int 23)]) rfl ?_
  refine a_goto C dX12_begins_18 (tgt := 2) rfl ?_
  refine a_iload_n C dX12_begins_2 (i := 1) rfl rfl ?_
  refine a_bipush C dX12_begins_3 (v := 29) rfl ?_
  refine a_ic_ge C dX12_begins_5 (tgt := 21) rfl (fun h => absurd h (by decide)) (fun _ => ?_)
  refine a_aload_n C dX12_begins_8 (i := 0) rfl rfl ?_
  refine a_get C fl_RX12_110 (i := 236) kd_236 (hid 236 (by decide)) (v := .ref (ad 267)) rfl dX12_begins_9 ?_
  refine a_iload_n C dX12_begins_12 (i := 1) rfl rfl ?_
  refine a_iconst C dX12_begins_13 (v := 0) rfl ?_
  refine a_iast C (i := 267) 23 kd_267 (hid 267 (by decide)) (by decide) rfl (by rw [al_267]; decide) dX12_begins_14 ?_
  refine a_iinc C dX12_begins_15 rfl (v := 24) rfl (by decide) rfl (vs1 := [some (.ref (ad 236)), some (.int 24)]) rfl ?_
  refine a_goto C dX12_begins_18 (tgt := 2) rfl ?_
  refine a_iload_n C dX12_begins_2 (i := 1) rfl rfl ?_
  refine a_bipush C dX12_begins_3 (v := 29) rfl ?_
  refine a_ic_ge C dX12_begins_5 (tgt := 21) rfl (fun h => absurd h (by decide)) (fun _ => ?_)
  refine a_aload_n C dX12_begins_8 (i := 0) rfl rfl ?_
  refine a_get C fl_RX12_110 (i := 236) kd_236 (hid 236 (by decide)) (v := .ref (ad 267)) rfl dX12_begins_9 ?_
  refine a_iload_n C dX12_begins_12 (i := 1) rfl rfl ?_
  refine a_iconst C dX12_begins_13 (v := 0) rfl ?_
  refine a_iast C (i := 267) 24 kd_267 (hid 267 (by decide)) (by decide) rfl (by rw [al_267]; decide) dX12_begins_14 ?_
  refine a_iinc C dX12_begins_15 rfl (v := 25) rfl (by decide) rfl (vs1 := [some (.ref (ad 236)), some (.int 25)]) rfl ?_
  refine a_goto C dX12_begins_18 (tgt := 2) rfl ?_
  refine a_iload_n C dX12_begins_2 (i := 1) rfl rfl ?_
  refine a_bipush C dX12_begins_3 (v := 29) rfl ?_
  refine a_ic_ge C dX12_begins_5 (tgt := 21) rfl (fun h => absurd h (by decide)) (fun _ => ?_)
  refine a_aload_n C dX12_begins_8 (i := 0) rfl rfl ?_
  refine a_get C fl_RX12_110 (i := 236) kd_236 (hid 236 (by decide)) (v := .ref (ad 267)) rfl dX12_begins_9 ?_
  refine a_iload_n C dX12_begins_12 (i := 1) rfl rfl ?_
  refine a_iconst C dX12_begins_13 (v := 0) rfl ?_
  refine a_iast C (i := 267) 25 kd_267 (hid 267 (by decide)) (by decide) rfl (by rw [al_267]; decide) dX12_begins_14 ?_
  refine a_iinc C dX12_begins_15 rfl (v := 26) rfl (by decide) rfl (vs1 := [some (.ref (ad 236)), some (.int 26)]) rfl ?_
  refine a_goto C dX12_begins_18 (tgt := 2) rfl ?_
  refine a_iload_n C dX12_begins_2 (i := 1) rfl rfl ?_
  refine a_bipush C dX12_begins_3 (v := 29) rfl ?_
  refine a_ic_ge C dX12_begins_5 (tgt := 21) rfl (fun h => absurd h (by decide)) (fun _ => ?_)
  refine a_aload_n C dX12_begins_8 (i := 0) rfl rfl ?_
  refine a_get C fl_RX12_110 (i := 236) kd_236 (hid 236 (by decide)) (v := .ref (ad 267)) rfl dX12_begins_9 ?_
  refine a_iload_n C dX12_begins_12 (i := 1) rfl rfl ?_
  refine a_iconst C dX12_begins_13 (v := 0) rfl ?_
  refine a_iast C (i := 267) 26 kd_267 (hid 267 (by decide)) (by decide) rfl (by rw [al_267]; decide) dX12_begins_14 ?_
  refine a_iinc C dX12_begins_15 rfl (v := 27) rfl (by decide) rfl (vs1 := [some (.ref (ad 236)), some (.int 27)]) rfl ?_
  refine a_goto C dX12_begins_18 (tgt := 2) rfl ?_
  refine a_iload_n C dX12_begins_2 (i := 1) rfl rfl ?_
  refine a_bipush C dX12_begins_3 (v := 29) rfl ?_
  refine a_ic_ge C dX12_begins_5 (tgt := 21) rfl (fun h => absurd h (by decide)) (fun _ => ?_)
  refine a_aload_n C dX12_begins_8 (i := 0) rfl rfl ?_
  refine a_get C fl_RX12_110 (i := 236) kd_236 (hid 236 (by decide)) (v := .ref (ad 267)) rfl dX12_begins_9 ?_
  refine a_iload_n C dX12_begins_12 (i := 1) rfl rfl ?_
  refine a_iconst C dX12_begins_13 (v := 0) rfl ?_
  refine a_iast C (i := 267) 27 kd_267 (hid 267 (by decide)) (by decide) rfl (by rw [al_267]; decide) dX12_begins_14 ?_
  refine a_iinc C dX12_begins_15 rfl (v := 28) rfl (by decide) rfl (vs1 := [some (.ref (ad 236)), some (.int 28)]) rfl ?_
  refine a_goto C dX12_begins_18 (tgt := 2) rfl ?_
  refine a_iload_n C dX12_begins_2 (i := 1) rfl rfl ?_
  refine a_bipush C dX12_begins_3 (v := 29) rfl ?_
  refine a_ic_ge C dX12_begins_5 (tgt := 21) rfl (fun h => absurd h (by decide)) (fun _ => ?_)
  refine a_aload_n C dX12_begins_8 (i := 0) rfl rfl ?_
  refine a_get C fl_RX12_110 (i := 236) kd_236 (hid 236 (by decide)) (v := .ref (ad 267)) rfl dX12_begins_9 ?_
  refine a_iload_n C dX12_begins_12 (i := 1) rfl rfl ?_
  refine a_iconst C dX12_begins_13 (v := 0) rfl ?_
  refine a_iast C (i := 267) 28 kd_267 (hid 267 (by decide)) (by decide) rfl (by rw [al_267]; decide) dX12_begins_14 ?_
  refine a_iinc C dX12_begins_15 rfl (v := 29) rfl (by decide) rfl (vs1 := [some (.ref (ad 236)), some (.int 29)]) rfl ?_
  refine a_goto C dX12_begins_18 (tgt := 2) rfl ?_
  refine a_iload_n C dX12_begins_2 (i := 1) rfl rfl ?_
  refine a_bipush C dX12_begins_3 (v := 29) rfl ?_
  refine a_ic_ge C dX12_begins_5 (tgt := 21) rfl (fun _ => ?_) (fun h => absurd h (by decide))
  refine a_iconst C dX12_begins_21 (v := 0) rfl ?_
  refine a_istore_n C dX12_begins_22 (i := 1) rfl (by decide) rfl (vs1 := [some (.ref (ad 236)), some (.int 0)]) rfl ?_
  refine a_iload_n C dX12_begins_23 (i := 1) rfl rfl ?_
  refine a_aload_n C dX12_begins_24 (i := 0) rfl rfl ?_
  refine a_get C fl_RX12_43 (i := 236) kd_236 (hid 236 (by decide)) (v := .ref (ad 245)) rfl dX12_begins_25 ?_
  refine a_aload_n C dX12_begins_28 (i := 0) rfl rfl ?_
  refine a_get C fl_RX12_221 (i := 236) kd_236 (hid 236 (by decide)) (v := .int 0) (congrArg (fun z => some (Value.int z)) h_236_18) dX12_begins_29 ?_
  refine a_iald C (i := 245) 0 kd_245 (hid 245 (by decide)) (by decide) rfl (by rw [al_245]; decide) dX12_begins_32 (v := 0) h_245_0 ?_
  refine a_ic_ge C dX12_begins_33 (tgt := 65) rfl (fun _ => ?_) (fun h => absurd h (by decide))
  refine a_aload_n C dX12_begins_65 (i := 0) rfl rfl ?_
  refine a_get C fl_RX12_110 (i := 236) kd_236 (hid 236 (by decide)) (v := .ref (ad 267)) rfl dX12_begins_66 ?_
  refine a_bipush C dX12_begins_69 (v := 26) rfl ?_
  refine a_aload_n C dX12_begins_71 (i := 0) rfl rfl ?_
  refine a_get C fl_RX12_55 (i := 236) kd_236 (hid 236 (by decide)) (v := .ref (ad 249)) rfl dX12_begins_72 ?_
  refine a_aload_n C dX12_begins_75 (i := 0) rfl rfl ?_
  refine a_get C fl_RX12_221 (i := 236) kd_236 (hid 236 (by decide)) (v := .int 0) (congrArg (fun z => some (Value.int z)) h_236_18) dX12_begins_76 ?_
  refine a_iald C (i := 249) 0 kd_249 (hid 249 (by decide)) (by decide) rfl (by rw [al_249]; decide) dX12_begins_79 (v := 0) h_249_0 ?_
  refine a_if_le C dX12_begins_80 (tgt := 87) rfl (fun _ => ?_) (fun h => absurd h (by decide))
  refine a_bipush C dX12_begins_87 (v := (-2)) rfl ?_
  refine a_iast C (i := 267) 26 kd_267 (hid 267 (by decide)) (by decide) rfl (by rw [al_267]; decide) dX12_begins_89 ?_
  refine a_aload_n C dX12_begins_90 (i := 0) rfl rfl ?_
  refine a_get C fl_RX12_110 (i := 236) kd_236 (hid 236 (by decide)) (v := .ref (ad 267)) rfl dX12_begins_91 ?_
  refine a_bipush C dX12_begins_94 (v := 28) rfl ?_
  refine a_iconst C dX12_begins_96 (v := (-1)) rfl ?_
  refine a_iast C (i := 267) 28 kd_267 (hid 267 (by decide)) (by decide) rfl (by rw [al_267]; decide) dX12_begins_97 ?_
  refine a_aload_n C dX12_begins_98 (i := 0) rfl rfl ?_
  refine a_aload_n C dX12_begins_99 (i := 0) rfl rfl ?_
  refine a_get C fl_RX12_67 (i := 236) kd_236 (hid 236 (by decide)) (v := .ref (ad 253)) rfl dX12_begins_100 ?_
  refine a_aload_n C dX12_begins_103 (i := 0) rfl rfl ?_
  refine a_get C fl_RX12_221 (i := 236) kd_236 (hid 236 (by decide)) (v := .int 0) (congrArg (fun z => some (Value.int z)) h_236_18) dX12_begins_104 ?_
  refine a_iald C (i := 253) 0 kd_253 (hid 253 (by decide)) (by decide) rfl (by rw [al_253]; decide) dX12_begins_107 (v := 0) h_253_0 ?_
  refine a_put C fp_RX12_305 (i := 236) kd_236 (hid 236 (by decide)) rfl rfl dX12_begins_108 ?_
  refine a_aload_n C dX12_begins_111 (i := 0) rfl rfl ?_
  refine a_iconst C dX12_begins_112 (v := 0) rfl ?_
  refine a_put C fp_RX12_308 (i := 236) kd_236 (hid 236 (by decide)) rfl rfl dX12_begins_113 ?_
  exact a_vret Rt dX12_begins_116 (rfl)
set_option maxHeartbeats 4000000 in
set_option maxRecDepth 100000 in
theorem i_keepsRow {l : Launch} {D : va_G} {ids : List Nat} {ad : Nat → Nat} {ca : Nat → ClassId} {σ : HS} (hid : ∀ i, 236 ≤ i ∧ i < 277 → i ∈ ids) (h_267_0 : σ.1 267 0 = 0) (h_267_1 : σ.1 267 1 = 0) (h_267_2 : σ.1 267 2 = 0) (h_267_3 : σ.1 267 3 = 0) (h_267_4 : σ.1 267 4 = 0) (h_267_5 : σ.1 267 5 = 0) (h_267_6 : σ.1 267 6 = 0) (h_267_7 : σ.1 267 7 = 0) (h_267_8 : σ.1 267 8 = 0) (h_267_9 : σ.1 267 9 = 0) (h_267_10 : σ.1 267 10 = 0) (h_267_11 : σ.1 267 11 = 0) (h_267_12 : σ.1 267 12 = 0) (h_267_13 : σ.1 267 13 = 0) (h_267_14 : σ.1 267 14 = 0) (h_267_15 : σ.1 267 15 = 0) (h_267_16 : σ.1 267 16 = 0) (h_267_17 : σ.1 267 17 = 0) (h_267_18 : σ.1 267 18 = 0) (h_267_19 : σ.1 267 19 = 0) (h_267_20 : σ.1 267 20 = 0) (h_267_21 : σ.1 267 21 = 0) (h_267_22 : σ.1 267 22 = 0) (h_267_23 : σ.1 267 23 = 0) (h_267_24 : σ.1 267 24 = 0) (h_267_25 : σ.1 267 25 = 0) (h_267_26 : σ.1 267 26 = (-2)) (h_267_27 : σ.1 267 27 = 0) (h_267_28 : σ.1 267 28 = (-1)) : Kv l D ids ad ca yX12_keepsRow cX12_keepsRow 2 0 0 [.ref (ad 236)] σ (fun σ1 => σ1 = (hI (hI (hI (hI (hI (hI (hI (hI (hI (hI (hI (hI (hI (hI (hI (hI (hI (hI (hI (hI (hI (hI (hI (hI (hI (hI (hI (hI (hI σ 266 0 0) 266 1 0) 266 2 0) 266 3 0) 266 4 0) 266 5 0) 266 6 0) 266 7 0) 266 8 0) 266 9 0) 266 10 0) 266 11 0) 266 12 0) 266 13 0) 266 14 0) 266 15 0) 266 16 0) 266 17 0) 266 18 0) 266 19 0) 266 20 0) 266 21 0) 266 22 0) 266 23 0) 266 24 0) 266 25 0) 266 26 (-2)) 266 27 0) 266 28 (-1))) := by
  refine Kv.of (by decide) (Nat.le_of_ble_eq_true rfl) 1 (fun Γ C Rt => ?_)
  show AW ids ad ca Γ 0 [some (.ref (ad 236)), none] [] σ
  refine a_iconst C dX12_keepsRow_0 (v := 0) rfl ?_
  refine a_istore_n C dX12_keepsRow_1 (i := 1) rfl (by decide) rfl (vs1 := [some (.ref (ad 236)), some (.int 0)]) rfl ?_
  refine a_iload_n C dX12_keepsRow_2 (i := 1) rfl rfl ?_
  refine a_bipush C dX12_keepsRow_3 (v := 29) rfl ?_
  refine a_ic_ge C dX12_keepsRow_5 (tgt := 26) rfl (fun h => absurd h (by decide)) (fun _ => ?_)
  refine a_aload_n C dX12_keepsRow_8 (i := 0) rfl rfl ?_
  refine a_get C fl_RX12_107 (i := 236) kd_236 (hid 236 (by decide)) (v := .ref (ad 266)) rfl dX12_keepsRow_9 ?_
  refine a_iload_n C dX12_keepsRow_12 (i := 1) rfl rfl ?_
  refine a_aload_n C dX12_keepsRow_13 (i := 0) rfl rfl ?_
  refine a_get C fl_RX12_110 (i := 236) kd_236 (hid 236 (by decide)) (v := .ref (ad 267)) rfl dX12_keepsRow_14 ?_
  refine a_iload_n C dX12_keepsRow_17 (i := 1) rfl rfl ?_
  refine a_iald C (i := 267) 0 kd_267 (hid 267 (by decide)) (by decide) rfl (by rw [al_267]; decide) dX12_keepsRow_18 (v := 0) h_267_0 ?_
  refine a_iast C (i := 266) 0 kd_266 (hid 266 (by decide)) (by decide) rfl (by rw [al_266]; decide) dX12_keepsRow_19 ?_
  refine a_iinc C dX12_keepsRow_20 rfl (v := 1) rfl (by decide) rfl (vs1 := [some (.ref (ad 236)), some (.int 1)]) rfl ?_
  refine a_goto C dX12_keepsRow_23 (tgt := 2) rfl ?_
  refine a_iload_n C dX12_keepsRow_2 (i := 1) rfl rfl ?_
  refine a_bipush C dX12_keepsRow_3 (v := 29) rfl ?_
  refine a_ic_ge C dX12_keepsRow_5 (tgt := 26) rfl (fun h => absurd h (by decide)) (fun _ => ?_)
  refine a_aload_n C dX12_keepsRow_8 (i := 0) rfl rfl ?_
  refine a_get C fl_RX12_107 (i := 236) kd_236 (hid 236 (by decide)) (v := .ref (ad 266)) rfl dX12_keepsRow_9 ?_
  refine a_iload_n C dX12_keepsRow_12 (i := 1) rfl rfl ?_
  refine a_aload_n C dX12_keepsRow_13 (i := 0) rfl rfl ?_
  refine a_get C fl_RX12_110 (i := 236) kd_236 (hid 236 (by decide)) (v := .ref (ad 267)) rfl dX12_keepsRow_14 ?_
  refine a_iload_n C dX12_keepsRow_17 (i := 1) rfl rfl ?_
  refine a_iald C (i := 267) 1 kd_267 (hid 267 (by decide)) (by decide) rfl (by rw [al_267]; decide) dX12_keepsRow_18 (v := 0) h_267_1 ?_
  refine a_iast C (i := 266) 1 kd_266 (hid 266 (by decide)) (by decide) rfl (by rw [al_266]; decide) dX12_keepsRow_19 ?_
  refine a_iinc C dX12_keepsRow_20 rfl (v := 2) rfl (by decide) rfl (vs1 := [some (.ref (ad 236)), some (.int 2)]) rfl ?_
  refine a_goto C dX12_keepsRow_23 (tgt := 2) rfl ?_
  refine a_iload_n C dX12_keepsRow_2 (i := 1) rfl rfl ?_
  refine a_bipush C dX12_keepsRow_3 (v := 29) rfl ?_
  refine a_ic_ge C dX12_keepsRow_5 (tgt := 26) rfl (fun h => absurd h (by decide)) (fun _ => ?_)
  refine a_aload_n C dX12_keepsRow_8 (i := 0) rfl rfl ?_
  refine a_get C fl_RX12_107 (i := 236) kd_236 (hid 236 (by decide)) (v := .ref (ad 266)) rfl dX12_keepsRow_9 ?_
  refine a_iload_n C dX12_keepsRow_12 (i := 1) rfl rfl ?_
  refine a_aload_n C dX12_keepsRow_13 (i := 0) rfl rfl ?_
  refine a_get C fl_RX12_110 (i := 236) kd_236 (hid 236 (by decide)) (v := .ref (ad 267)) rfl dX12_keepsRow_14 ?_
  refine a_iload_n C dX12_keepsRow_17 (i := 1) rfl rfl ?_
  refine a_iald C (i := 267) 2 kd_267 (hid 267 (by decide)) (by decide) rfl (by rw [al_267]; decide) dX12_keepsRow_18 (v := 0) h_267_2 ?_
  refine a_iast C (i := 266) 2 kd_266 (hid 266 (by decide)) (by decide) rfl (by rw [al_266]; decide) dX12_keepsRow_19 ?_
  refine a_iinc C dX12_keepsRow_20 rfl (v := 3) rfl (by decide) rfl (vs1 := [some (.ref (ad 236)), some (.int 3)]) rfl ?_
  refine a_goto C dX12_keepsRow_23 (tgt := 2) rfl ?_
  refine a_iload_n C dX12_keepsRow_2 (i := 1) rfl rfl ?_
  refine a_bipush C dX12_keepsRow_3 (v := 29) rfl ?_
  refine a_ic_ge C dX12_keepsRow_5 (tgt := 26) rfl (fun h => absurd h (by decide)) (fun _ => ?_)
  refine a_aload_n C dX12_keepsRow_8 (i := 0) rfl rfl ?_
  refine a_get C fl_RX12_107 (i := 236) kd_236 (hid 236 (by decide)) (v := .ref (ad 266)) rfl dX12_keepsRow_9 ?_
  refine a_iload_n C dX12_keepsRow_12 (i := 1) rfl rfl ?_
  refine a_aload_n C dX12_keepsRow_13 (i := 0) rfl rfl ?_
  refine a_get C fl_RX12_110 (i := 236) kd_236 (hid 236 (by decide)) (v := .ref (ad 267)) rfl dX12_keepsRow_14 ?_
  refine a_iload_n C dX12_keepsRow_17 (i := 1) rfl rfl ?_
  refine a_iald C (i := 267) 3 kd_267 (hid 267 (by decide)) (by decide) rfl (by rw [al_267]; decide) dX12_keepsRow_18 (v := 0) h_267_3 ?_
  refine a_iast C (i := 266) 3 kd_266 (hid 266 (by decide)) (by decide) rfl (by rw [al_266]; decide) dX12_keepsRow_19 ?_
  refine a_iinc C dX12_keepsRow_20 rfl (v := 4) rfl (by decide) rfl (vs1 := [some (.ref (ad 236)), some (.int 4)]) rfl ?_
  refine a_goto C dX12_keepsRow_23 (tgt := 2) rfl ?_
  refine a_iload_n C dX12_keepsRow_2 (i := 1) rfl rfl ?_
  refine a_bipush C dX12_keepsRow_3 (v := 29) rfl ?_
  refine a_ic_ge C dX12_keepsRow_5 (tgt := 26) rfl (fun h => absurd h (by decide)) (fun _ => ?_)
  refine a_aload_n C dX12_keepsRow_8 (i := 0) rfl rfl ?_
  refine a_get C fl_RX12_107 (i := 236) kd_236 (hid 236 (by decide)) (v := .ref (ad 266)) rfl dX12_keepsRow_9 ?_
  refine a_iload_n C dX12_keepsRow_12 (i := 1) rfl rfl ?_
  refine a_aload_n C dX12_keepsRow_13 (i := 0) rfl rfl ?_
  refine a_get C fl_RX12_110 (i := 236) kd_236 (hid 236 (by decide)) (v := .ref (ad 267)) rfl dX12_keepsRow_14 ?_
  refine a_iload_n C dX12_keepsRow_17 (i := 1) rfl rfl ?_
  refine a_iald C (i := 267) 4 kd_267 (hid 267 (by decide)) (by decide) rfl (by rw [al_267]; decide) dX12_keepsRow_18 (v := 0) h_267_4 ?_
  refine a_iast C (i := 266) 4 kd_266 (hid 266 (by decide)) (by decide) rfl (by rw [al_266]; decide) dX12_keepsRow_19 ?_
  refine a_iinc C dX12_keepsRow_20 rfl (v := 5) rfl (by decide) rfl (vs1 := [some (.ref (ad 236)), some (.int 5)]) rfl ?_
  refine a_goto C dX12_keepsRow_23 (tgt := 2) rfl ?_
  refine a_iload_n C dX12_keepsRow_2 (i := 1) rfl rfl ?_
  refine a_bipush C dX12_keepsRow_3 (v := 29) rfl ?_
  refine a_ic_ge C dX12_keepsRow_5 (tgt := 26) rfl (fun h => absurd h (by decide)) (fun _ => ?_)
  refine a_aload_n C dX12_keepsRow_8 (i := 0) rfl rfl ?_
  refine a_get C fl_RX12_107 (i := 236) kd_236 (hid 236 (by decide)) (v := .ref (ad 266)) rfl dX12_keepsRow_9 ?_
  refine a_iload_n C dX12_keepsRow_12 (i := 1) rfl rfl ?_
  refine a_aload_n C dX12_keepsRow_13 (i := 0) rfl rfl ?_
  refine a_get C fl_RX12_110 (i := 236) kd_236 (hid 236 (by decide)) (v := .ref (ad 267)) rfl dX12_keepsRow_14 ?_
  refine a_iload_n C dX12_keepsRow_17 (i := 1) rfl rfl ?_
  refine a_iald C (i := 267) 5 kd_267 (hid 267 (by decide)) (by decide) rfl (by rw [al_267]; decide) dX12_keepsRow_18 (v := 0) h_267_5 ?_
  refine a_iast C (i := 266) 5 kd_266 (hid 266 (by decide)) (by decide) rfl (by rw [al_266]; decide) dX12_keepsRow_19 ?_
  refine a_iinc C dX12_keepsRow_20 rfl (v := 6) rfl (by decide) rfl (vs1 := [some (.ref (ad 236)), some (.int 6)]) rfl ?_
  refine a_goto C dX12_keepsRow_23 (tgt := 2) rfl ?_
  refine a_iload_n C dX12_keepsRow_2 (i := 1) rfl rfl ?_
  refine a_bipush C dX12_keepsRow_3 (v := 29) rfl ?_
  refine a_ic_ge C dX12_keepsRow_5 (tgt := 26) rfl (fun h => absurd h (by decide)) (fun _ => ?_)
  refine a_aload_n C dX12_keepsRow_8 (i := 0) rfl rfl ?_
  refine a_get C fl_RX12_107 (i := 236) kd_236 (hid 236 (by decide)) (v := .ref (ad 266)) rfl dX12_keepsRow_9 ?_
  refine a_iload_n C dX12_keepsRow_12 (i := 1) rfl rfl ?_
  refine a_aload_n C dX12_keepsRow_13 (i := 0) rfl rfl ?_
  refine a_get C fl_RX12_110 (i := 236) kd_236 (hid 236 (by decide)) (v := .ref (ad 267)) rfl dX12_keepsRow_14 ?_
  refine a_iload_n C dX12_keepsRow_17 (i := 1) rfl rfl ?_
  refine a_iald C (i := 267) 6 kd_267 (hid 267 (by decide)) (by decide) rfl (by rw [al_267]; decide) dX12_keepsRow_18 (v := 0) h_267_6 ?_
  refine a_iast C (i := 266) 6 kd_266 (hid 266 (by decide)) (by decide) rfl (by rw [al_266]; decide) dX12_keepsRow_19 ?_
  refine a_iinc C dX12_keepsRow_20 rfl (v := 7) rfl (by decide) rfl (vs1 := [some (.ref (ad 236)), some (.int 7)]) rfl ?_
  refine a_goto C dX12_keepsRow_23 (tgt := 2) rfl ?_
  refine a_iload_n C dX12_keepsRow_2 (i := 1) rfl rfl ?_
  refine a_bipush C dX12_keepsRow_3 (v := 29) rfl ?_
  refine a_ic_ge C dX12_keepsRow_5 (tgt := 26) rfl (fun h => absurd h (by decide)) (fun _ => ?_)
  refine a_aload_n C dX12_keepsRow_8 (i := 0) rfl rfl ?_
  refine a_get C fl_RX12_107 (i := 236) kd_236 (hid 236 (by decide)) (v := .ref (ad 266)) rfl dX12_keepsRow_9 ?_
  refine a_iload_n C dX12_keepsRow_12 (i := 1) rfl rfl ?_
  refine a_aload_n C dX12_keepsRow_13 (i := 0) rfl rfl ?_
  refine a_get C fl_RX12_110 (i := 236) kd_236 (hid 236 (by decide)) (v := .ref (ad 267)) rfl dX12_keepsRow_14 ?_
  refine a_iload_n C dX12_keepsRow_17 (i := 1) rfl rfl ?_
  refine a_iald C (i := 267) 7 kd_267 (hid 267 (by decide)) (by decide) rfl (by rw [al_267]; decide) dX12_keepsRow_18 (v := 0) h_267_7 ?_
  refine a_iast C (i := 266) 7 kd_266 (hid 266 (by decide)) (by decide) rfl (by rw [al_266]; decide) dX12_keepsRow_19 ?_
  refine a_iinc C dX12_keepsRow_20 rfl (v := 8) rfl (by decide) rfl (vs1 := [some (.ref (ad 236)), some (.int 8)]) rfl ?_
  refine a_goto C dX12_keepsRow_23 (tgt := 2) rfl ?_
  refine a_iload_n C dX12_keepsRow_2 (i := 1) rfl rfl ?_
  refine a_bipush C dX12_keepsRow_3 (v := 29) rfl ?_
  refine a_ic_ge C dX12_keepsRow_5 (tgt := 26) rfl (fun h => absurd h (by decide)) (fun _ => ?_)
  refine a_aload_n C dX12_keepsRow_8 (i := 0) rfl rfl ?_
  refine a_get C fl_RX12_107 (i := 236) kd_236 (hid 236 (by decide)) (v := .ref (ad 266)) rfl dX12_keepsRow_9 ?_
  refine a_iload_n C dX12_keepsRow_12 (i := 1) rfl rfl ?_
  refine a_aload_n C dX12_keepsRow_13 (i := 0) rfl rfl ?_
  refine a_get C fl_RX12_110 (i := 236) kd_236 (hid 236 (by decide)) (v := .ref (ad 267)) rfl dX12_keepsRow_14 ?_
  refine a_iload_n C dX12_keepsRow_17 (i := 1) rfl rfl ?_
  refine a_iald C (i := 267) 8 kd_267 (hid 267 (by decide)) (by decide) rfl (by rw [al_267]; decide) dX12_keepsRow_18 (v := 0) h_267_8 ?_
  refine a_iast C (i := 266) 8 kd_266 (hid 266 (by decide)) (by decide) rfl (by rw [al_266]; decide) dX12_keepsRow_19 ?_
  refine a_iinc C dX12_keepsRow_20 rfl (v := 9) rfl (by decide) rfl (vs1 := [some (.ref (ad 236)), some (.int 9)]) rfl ?_
  refine a_goto C dX12_keepsRow_23 (tgt := 2) rfl ?_
  refine a_iload_n C dX12_keepsRow_2 (i := 1) rfl rfl ?_
  refine a_bipush C dX12_keepsRow_3 (v := 29) rfl ?_
  refine a_ic_ge C dX12_keepsRow_5 (tgt := 26) rfl (fun h => absurd h (by decide)) (fun _ => ?_)
  refine a_aload_n C dX12_keepsRow_8 (i := 0) rfl rfl ?_
  refine a_get C fl_RX12_107 (i := 236) kd_236 (hid 236 (by decide)) (v := .ref (ad 266)) rfl dX12_keepsRow_9 ?_
  refine a_iload_n C dX12_keepsRow_12 (i := 1) rfl rfl ?_
  refine a_aload_n C dX12_keepsRow_13 (i := 0) rfl rfl ?_
  refine a_get C fl_RX12_110 (i := 236) kd_236 (hid 236 (by decide)) (v := .ref (ad 267)) rfl dX12_keepsRow_14 ?_
  refine a_iload_n C dX12_keepsRow_17 (i := 1) rfl rfl ?_
  refine a_iald C (i := 267) 9 kd_267 (hid 267 (by decide)) (by decide) rfl (by rw [al_267]; decide) dX12_keepsRow_18 (v := 0) h_267_9 ?_
  refine a_iast C (i := 266) 9 kd_266 (hid 266 (by decide)) (by decide) rfl (by rw [al_266]; decide) dX12_keepsRow_19 ?_
  refine a_iinc C dX12_keepsRow_20 rfl (v := 10) rfl (by decide) rfl (vs1 := [some (.ref (ad 236)), some (.int 10)]) rfl ?_
  refine a_goto C dX12_keepsRow_23 (tgt := 2) rfl ?_
  refine a_iload_n C dX12_keepsRow_2 (i := 1) rfl rfl ?_
  refine a_bipush C dX12_keepsRow_3 (v := 29) rfl ?_
  refine a_ic_ge C dX12_keepsRow_5 (tgt := 26) rfl (fun h => absurd h (by decide)) (fun _ => ?_)
  refine a_aload_n C dX12_keepsRow_8 (i := 0) rfl rfl ?_
  refine a_get C fl_RX12_107 (i := 236) kd_236 (hid 236 (by decide)) (v := .ref (ad 266)) rfl dX12_keepsRow_9 ?_
  refine a_iload_n C dX12_keepsRow_12 (i := 1) rfl rfl ?_
  refine a_aload_n C dX12_keepsRow_13 (i := 0) rfl rfl ?_
  refine a_get C fl_RX12_110 (i := 236) kd_236 (hid 236 (by decide)) (v := .ref (ad 267)) rfl dX12_keepsRow_14 ?_
  refine a_iload_n C dX12_keepsRow_17 (i := 1) rfl rfl ?_
  refine a_iald C (i := 267) 10 kd_267 (hid 267 (by decide)) (by decide) rfl (by rw [al_267]; decide) dX12_keepsRow_18 (v := 0) h_267_10 ?_
  refine a_iast C (i := 266) 10 kd_266 (hid 266 (by decide)) (by decide) rfl (by rw [al_266]; decide) dX12_keepsRow_19 ?_
  refine a_iinc C dX12_keepsRow_20 rfl (v := 11) rfl (by decide) rfl (vs1 := [some (.ref (ad 236)), some (.int 11)]) rfl ?_
  refine a_goto C dX12_keepsRow_23 (tgt := 2) rfl ?_
  refine a_iload_n C dX12_keepsRow_2 (i := 1) rfl rfl ?_
  refine a_bipush C dX12_keepsRow_3 (v := 29) rfl ?_
  refine a_ic_ge C dX12_keepsRow_5 (tgt := 26) rfl (fun h => absurd h (by decide)) (fun _ => ?_)
  refine a_aload_n C dX12_keepsRow_8 (i := 0) rfl rfl ?_
  refine a_get C fl_RX12_107 (i := 236) kd_236 (hid 236 (by decide)) (v := .ref (ad 266)) rfl dX12_keepsRow_9 ?_
  refine a_iload_n C dX12_keepsRow_12 (i := 1) rfl rfl ?_
  refine a_aload_n C dX12_keepsRow_13 (i := 0) rfl rfl ?_
  refine a_get C fl_RX12_110 (i := 236) kd_236 (hid 236 (by decide)) (v := .ref (ad 267)) rfl dX12_keepsRow_14 ?_
  refine a_iload_n C dX12_keepsRow_17 (i := 1) rfl rfl ?_
  refine a_iald C (i := 267) 11 kd_267 (hid 267 (by decide)) (by decide) rfl (by rw [al_267]; decide) dX12_keepsRow_18 (v := 0) h_267_11 ?_
  refine a_iast C (i := 266) 11 kd_266 (hid 266 (by decide)) (by decide) rfl (by rw [al_266]; decide) dX12_keepsRow_19 ?_
  refine a_iinc C dX12_keepsRow_20 rfl (v := 12) rfl (by decide) rfl (vs1 := [some (.ref (ad 236)), some (.int 12)]) rfl ?_
  refine a_goto C dX12_keepsRow_23 (tgt := 2) rfl ?_
  refine a_iload_n C dX12_keepsRow_2 (i := 1) rfl rfl ?_
  refine a_bipush C dX12_keepsRow_3 (v := 29) rfl ?_
  refine a_ic_ge C dX12_keepsRow_5 (tgt := 26) rfl (fun h => absurd h (by decide)) (fun _ => ?_)
  refine a_aload_n C dX12_keepsRow_8 (i := 0) rfl rfl ?_
  refine a_get C fl_RX12_107 (i := 236) kd_236 (hid 236 (by decide)) (v := .ref (ad 266)) rfl dX12_keepsRow_9 ?_
  refine a_iload_n C dX12_keepsRow_12 (i := 1) rfl rfl ?_
  refine a_aload_n C dX12_keepsRow_13 (i := 0) rfl rfl ?_
  refine a_get C fl_RX12_110 (i := 236) kd_236 (hid 236 (by decide)) (v := .ref (ad 267)) rfl dX12_keepsRow_14 ?_
  refine a_iload_n C dX12_keepsRow_17 (i := 1) rfl rfl ?_
  refine a_iald C (i := 267) 12 kd_267 (hid 267 (by decide)) (by decide) rfl (by rw [al_267]; decide) dX12_keepsRow_18 (v := 0) h_267_12 ?_
  refine a_iast C (i := 266) 12 kd_266 (hid 266 (by decide)) (by decide) rfl (by rw [al_266]; decide) dX12_keepsRow_19 ?_
  refine a_iinc C dX12_keepsRow_20 rfl (v := 13) rfl (by decide) rfl (vs1 := [some (.ref (ad 236)), some (.int 13)]) rfl ?_
  refine a_goto C dX12_keepsRow_23 (tgt := 2) rfl ?_
  refine a_iload_n C dX12_keepsRow_2 (i := 1) rfl rfl ?_
  refine a_bipush C dX12_keepsRow_3 (v := 29) rfl ?_
  refine a_ic_ge C dX12_keepsRow_5 (tgt := 26) rfl (fun h => absurd h (by decide)) (fun _ => ?_)
  refine a_aload_n C dX12_keepsRow_8 (i := 0) rfl rfl ?_
  refine a_get C fl_RX12_107 (i := 236) kd_236 (hid 236 (by decide)) (v := .ref (ad 266)) rfl dX12_keepsRow_9 ?_
  refine a_iload_n C dX12_keepsRow_12 (i := 1) rfl rfl ?_
  refine a_aload_n C dX12_keepsRow_13 (i := 0) rfl rfl ?_
  refine a_get C fl_RX12_110 (i := 236) kd_236 (hid 236 (by decide)) (v := .ref (ad 267)) rfl dX12_keepsRow_14 ?_
  refine a_iload_n C dX12_keepsRow_17 (i := 1) rfl rfl ?_
  refine a_iald C (i := 267) 13 kd_267 (hid 267 (by decide)) (by decide) rfl (by rw [al_267]; decide) dX12_keepsRow_18 (v := 0) h_267_13 ?_
  refine a_iast C (i := 266) 13 kd_266 (hid 266 (by decide)) (by decide) rfl (by rw [al_266]; decide) dX12_keepsRow_19 ?_
  refine a_iinc C dX12_keepsRow_20 rfl (v := 14) rfl (by decide) rfl (vs1 := [some (.ref (ad 236)), some (.int 14)]) rfl ?_
  refine a_goto C dX12_keepsRow_23 (tgt := 2) rfl ?_
  refine a_iload_n C dX12_keepsRow_2 (i := 1) rfl rfl ?_
  refine a_bipush C dX12_keepsRow_3 (v := 29) rfl ?_
  refine a_ic_ge C dX12_keepsRow_5 (tgt := 26) rfl (fun h => absurd h (by decide)) (fun _ => ?_)
  refine a_aload_n C dX12_keepsRow_8 (i := 0) rfl rfl ?_
  refine a_get C fl_RX12_107 (i := 236) kd_236 (hid 236 (by decide)) (v := .ref (ad 266)) rfl dX12_keepsRow_9 ?_
  refine a_iload_n C dX12_keepsRow_12 (i := 1) rfl rfl ?_
  refine a_aload_n C dX12_keepsRow_13 (i := 0) rfl rfl ?_
  refine a_get C fl_RX12_110 (i := 236) kd_236 (hid 236 (by decide)) (v := .ref (ad 267)) rfl dX12_keepsRow_14 ?_
  refine a_iload_n C dX12_keepsRow_17 (i := 1) rfl rfl ?_
  refine a_iald C (i := 267) 14 kd_267 (hid 267 (by decide)) (by decide) rfl (by rw [al_267]; decide) dX12_keepsRow_18 (v := 0) h_267_14 ?_
  refine a_iast C (i := 266) 14 kd_266 (hid 266 (by decide)) (by decide) rfl (by rw [al_266]; decide) dX12_keepsRow_19 ?_
  refine a_iinc C dX12_keepsRow_20 rfl (v := 15) rfl (by decide) rfl (vs1 := [some (.ref (ad 236)), some (.int 15)]) rfl ?_
  refine a_goto C dX12_keepsRow_23 (tgt := 2) rfl ?_
  refine a_iload_n C dX12_keepsRow_2 (i := 1) rfl rfl ?_
  refine a_bipush C dX12_keepsRow_3 (v := 29) rfl ?_
  refine a_ic_ge C dX12_keepsRow_5 (tgt := 26) rfl (fun h => absurd h (by decide)) (fun _ => ?_)
  refine a_aload_n C dX12_keepsRow_8 (i := 0) rfl rfl ?_
  refine a_get C fl_RX12_107 (i := 236) kd_236 (hid 236 (by decide)) (v := .ref (ad 266)) rfl dX12_keepsRow_9 ?_
  refine a_iload_n C dX12_keepsRow_12 (i := 1) rfl rfl ?_
  refine a_aload_n C dX12_keepsRow_13 (i := 0) rfl rfl ?_
  refine a_get C fl_RX12_110 (i := 236) kd_236 (hid 236 (by decide)) (v := .ref (ad 267)) rfl dX12_keepsRow_14 ?_
  refine a_iload_n C dX12_keepsRow_17 (i := 1) rfl rfl ?_
  refine a_iald C (i := 267) 15 kd_267 (hid 267 (by decide)) (by decide) rfl (by rw [al_267]; decide) dX12_keepsRow_18 (v := 0) h_267_15 ?_
  refine a_iast C (i := 266) 15 kd_266 (hid 266 (by decide)) (by decide) rfl (by rw [al_266]; decide) dX12_keepsRow_19 ?_
  refine a_iinc C dX12_keepsRow_20 rfl (v := 16) rfl (by decide) rfl (vs1 := [some (.ref (ad 236)), some (.int 16)]) rfl ?_
  refine a_goto C dX12_keepsRow_23 (tgt := 2) rfl ?_
  refine a_iload_n C dX12_keepsRow_2 (i := 1) rfl rfl ?_
  refine a_bipush C dX12_keepsRow_3 (v := 29) rfl ?_
  refine a_ic_ge C dX12_keepsRow_5 (tgt := 26) rfl (fun h => absurd h (by decide)) (fun _ => ?_)
  refine a_aload_n C dX12_keepsRow_8 (i := 0) rfl rfl ?_
  refine a_get C fl_RX12_107 (i := 236) kd_236 (hid 236 (by decide)) (v := .ref (ad 266)) rfl dX12_keepsRow_9 ?_
  refine a_iload_n C dX12_keepsRow_12 (i := 1) rfl rfl ?_
  refine a_aload_n C dX12_keepsRow_13 (i := 0) rfl rfl ?_
  refine a_get C fl_RX12_110 (i := 236) kd_236 (hid 236 (by decide)) (v := .ref (ad 267)) rfl dX12_keepsRow_14 ?_
  refine a_iload_n C dX12_keepsRow_17 (i := 1) rfl rfl ?_
  refine a_iald C (i := 267) 16 kd_267 (hid 267 (by decide)) (by decide) rfl (by rw [al_267]; decide) dX12_keepsRow_18 (v := 0) h_267_16 ?_
  refine a_iast C (i := 266) 16 kd_266 (hid 266 (by decide)) (by decide) rfl (by rw [al_266]; decide) dX12_keepsRow_19 ?_
  refine a_iinc C dX12_keepsRow_20 rfl (v := 17) rfl (by decide) rfl (vs1 := [some (.ref (ad 236)), some (.int 17)]) rfl ?_
  refine a_goto C dX12_keepsRow_23 (tgt := 2) rfl ?_
  refine a_iload_n C dX12_keepsRow_2 (i := 1) rfl rfl ?_
  refine a_bipush C dX12_keepsRow_3 (v := 29) rfl ?_
  refine a_ic_ge C dX12_keepsRow_5 (tgt := 26) rfl (fun h => absurd h (by decide)) (fun _ => ?_)
  refine a_aload_n C dX12_keepsRow_8 (i := 0) rfl rfl ?_
  refine a_get C fl_RX12_107 (i := 236) kd_236 (hid 236 (by decide)) (v := .ref (ad 266)) rfl dX12_keepsRow_9 ?_
  refine a_iload_n C dX12_keepsRow_12 (i := 1) rfl rfl ?_
  refine a_aload_n C dX12_keepsRow_13 (i := 0) rfl rfl ?_
  refine a_get C fl_RX12_110 (i := 236) kd_236 (hid 236 (by decide)) (v := .ref (ad 267)) rfl dX12_keepsRow_14 ?_
  refine a_iload_n C dX12_keepsRow_17 (i := 1) rfl rfl ?_
  refine a_iald C (i := 267) 17 kd_267 (hid 267 (by decide)) (by decide) rfl (by rw [al_267]; decide) dX12_keepsRow_18 (v := 0) h_267_17 ?_
  refine a_iast C (i := 266) 17 kd_266 (hid 266 (by decide)) (by decide) rfl (by rw [al_266]; decide) dX12_keepsRow_19 ?_
  refine a_iinc C dX12_keepsRow_20 rfl (v := 18) rfl (by decide) rfl (vs1 := [some (.ref (ad 236)), some (.int 18)]) rfl ?_
  refine a_goto C dX12_keepsRow_23 (tgt := 2) rfl ?_
  refine a_iload_n C dX12_keepsRow_2 (i := 1) rfl rfl ?_
  refine a_bipush C dX12_keepsRow_3 (v := 29) rfl ?_
  refine a_ic_ge C dX12_keepsRow_5 (tgt := 26) rfl (fun h => absurd h (by decide)) (fun _ => ?_)
  refine a_aload_n C dX12_keepsRow_8 (i := 0) rfl rfl ?_
  refine a_get C fl_RX12_107 (i := 236) kd_236 (hid 236 (by decide)) (v := .ref (ad 266)) rfl dX12_keepsRow_9 ?_
  refine a_iload_n C dX12_keepsRow_12 (i := 1) rfl rfl ?_
  refine a_aload_n C dX12_keepsRow_13 (i := 0) rfl rfl ?_
  refine a_get C fl_RX12_110 (i := 236) kd_236 (hid 236 (by decide)) (v := .ref (ad 267)) rfl dX12_keepsRow_14 ?_
  refine a_iload_n C dX12_keepsRow_17 (i := 1) rfl rfl ?_
  refine a_iald C (i := 267) 18 kd_267 (hid 267 (by decide)) (by decide) rfl (by rw [al_267]; decide) dX12_keepsRow_18 (v := 0) h_267_18 ?_
  refine a_iast C (i := 266) 18 kd_266 (hid 266 (by decide)) (by decide) rfl (by rw [al_266]; decide) dX12_keepsRow_19 ?_
  refine a_iinc C dX12_keepsRow_20 rfl (v := 19) rfl (by decide) rfl (vs1 := [some (.ref (ad 236)), some (.int 19)]) rfl ?_
  refine a_goto C dX12_keepsRow_23 (tgt := 2) rfl ?_
  refine a_iload_n C dX12_keepsRow_2 (i := 1) rfl rfl ?_
  refine a_bipush C dX12_keepsRow_3 (v := 29) rfl ?_
  refine a_ic_ge C dX12_keepsRow_5 (tgt := 26) rfl (fun h => absurd h (by decide)) (fun _ => ?_)
  refine a_aload_n C dX12_keepsRow_8 (i := 0) rfl rfl ?_
  refine a_get C fl_RX12_107 (i := 236) kd_236 (hid 236 (by decide)) (v := .ref (ad 266)) rfl dX12_keepsRow_9 ?_
  refine a_iload_n C dX12_keepsRow_12 (i := 1) rfl rfl ?_
  refine a_aload_n C dX12_keepsRow_13 (i := 0) rfl rfl ?_
  refine a_get C fl_RX12_110 (i := 236) kd_236 (hid 236 (by decide)) (v := .ref (ad 267)) rfl dX12_keepsRow_14 ?_
  refine a_iload_n C dX12_keepsRow_17 (i := 1) rfl rfl ?_
  refine a_iald C (i := 267) 19 kd_267 (hid 267 (by decide)) (by decide) rfl (by rw [al_267]; decide) dX12_keepsRow_18 (v := 0) h_267_19 ?_
  refine a_iast C (i := 266) 19 kd_266 (hid 266 (by decide)) (by decide) rfl (by rw [al_266]; decide) dX12_keepsRow_19 ?_
  refine a_iinc C dX12_keepsRow_20 rfl (v := 20) rfl (by decide) rfl (vs1 := [some (.ref (ad 236)), some (.int 20)]) rfl ?_
  refine a_goto C dX12_keepsRow_23 (tgt := 2) rfl ?_
  refine a_iload_n C dX12_keepsRow_2 (i := 1) rfl rfl ?_
  refine a_bipush C dX12_keepsRow_3 (v := 29) rfl ?_
  refine a_ic_ge C dX12_keepsRow_5 (tgt := 26) rfl (fun h => absurd h (by decide)) (fun _ => ?_)
  refine a_aload_n C dX12_keepsRow_8 (i := 0) rfl rfl ?_
  refine a_get C fl_RX12_107 (i := 236) kd_236 (hid 236 (by decide)) (v := .ref (ad 266)) rfl dX12_keepsRow_9 ?_
  refine a_iload_n C dX12_keepsRow_12 (i := 1) rfl rfl ?_
  refine a_aload_n C dX12_keepsRow_13 (i := 0) rfl rfl ?_
  refine a_get C fl_RX12_110 (i := 236) kd_236 (hid 236 (by decide)) (v := .ref (ad 267)) rfl dX12_keepsRow_14 ?_
  refine a_iload_n C dX12_keepsRow_17 (i := 1) rfl rfl ?_
  refine a_iald C (i := 267) 20 kd_267 (hid 267 (by decide)) (by decide) rfl (by rw [al_267]; decide) dX12_keepsRow_18 (v := 0) h_267_20 ?_
  refine a_iast C (i := 266) 20 kd_266 (hid 266 (by decide)) (by decide) rfl (by rw [al_266]; decide) dX12_keepsRow_19 ?_
  refine a_iinc C dX12_keepsRow_20 rfl (v := 21) rfl (by decide) rfl (vs1 := [some (.ref (ad 236)), some (.int 21)]) rfl ?_
  refine a_goto C dX12_keepsRow_23 (tgt := 2) rfl ?_
  refine a_iload_n C dX12_keepsRow_2 (i := 1) rfl rfl ?_
  refine a_bipush C dX12_keepsRow_3 (v := 29) rfl ?_
  refine a_ic_ge C dX12_keepsRow_5 (tgt := 26) rfl (fun h => absurd h (by decide)) (fun _ => ?_)
  refine a_aload_n C dX12_keepsRow_8 (i := 0) rfl rfl ?_
  refine a_get C fl_RX12_107 (i := 236) kd_236 (hid 236 (by decide)) (v := .ref (ad 266)) rfl dX12_keepsRow_9 ?_
  refine a_iload_n C dX12_keepsRow_12 (i := 1) rfl rfl ?_
  refine a_aload_n C dX12_keepsRow_13 (i := 0) rfl rfl ?_
  refine a_get C fl_RX12_110 (i := 236) kd_236 (hid 236 (by decide)) (v := .ref (ad 267)) rfl dX12_keepsRow_14 ?_
  refine a_iload_n C dX12_keepsRow_17 (i := 1) rfl rfl ?_
  refine a_iald C (i := 267) 21 kd_267 (hid 267 (by decide)) (by decide) rfl (by rw [al_267]; decide) dX12_keepsRow_18 (v := 0) h_267_21 ?_
  refine a_iast C (i := 266) 21 kd_266 (hid 266 (by decide)) (by decide) rfl (by rw [al_266]; decide) dX12_keepsRow_19 ?_
  refine a_iinc C dX12_keepsRow_20 rfl (v := 22) rfl (by decide) rfl (vs1 := [some (.ref (ad 236)), some (.int 22)]) rfl ?_
  refine a_goto C dX12_keepsRow_23 (tgt := 2) rfl ?_
  refine a_iload_n C dX12_keepsRow_2 (i := 1) rfl rfl ?_
  refine a_bipush C dX12_keepsRow_3 (v := 29) rfl ?_
  refine a_ic_ge C dX12_keepsRow_5 (tgt := 26) rfl (fun h => absurd h (by decide)) (fun _ => ?_)
  refine a_aload_n C dX12_keepsRow_8 (i := 0) rfl rfl ?_
  refine a_get C fl_RX12_107 (i := 236) kd_236 (hid 236 (by decide)) (v := .ref (ad 266)) rfl dX12_keepsRow_9 ?_
  refine a_iload_n C dX12_keepsRow_12 (i := 1) rfl rfl ?_
  refine a_aload_n C dX12_keepsRow_13 (i := 0) rfl rfl ?_
  refine a_get C fl_RX12_110 (i := 236) kd_236 (hid 236 (by decide)) (v := .ref (ad 267)) rfl dX12_keepsRow_14 ?_
  refine a_iload_n C dX12_keepsRow_17 (i := 1) rfl rfl ?_
  refine a_iald C (i := 267) 22 kd_267 (hid 267 (by decide)) (by decide) rfl (by rw [al_267]; decide) dX12_keepsRow_18 (v := 0) h_267_22 ?_
  refine a_iast C (i := 266) 22 kd_266 (hid 266 (by decide)) (by decide) rfl (by rw [al_266]; decide) dX12_keepsRow_19 ?_
  refine a_iinc C dX12_keepsRow_20 rfl (v := 23) rfl (by decide) rfl (vs1 := [some (.ref (ad 236)), some (.int 23)]) rfl ?_
  refine a_goto C dX12_keepsRow_23 (tgt := 2) rfl ?_
  refine a_iload_n C dX12_keepsRow_2 (i := 1) rfl rfl ?_
  refine a_bipush C dX12_keepsRow_3 (v := 29) rfl ?_
  refine a_ic_ge C dX12_keepsRow_5 (tgt := 26) rfl (fun h => absurd h (by decide)) (fun _ => ?_)
  refine a_aload_n C dX12_keepsRow_8 (i := 0) rfl rfl ?_
  refine a_get C fl_RX12_107 (i := 236) kd_236 (hid 236 (by decide)) (v := .ref (ad 266)) rfl dX12_keepsRow_9 ?_
  refine a_iload_n C dX12_keepsRow_12 (i := 1) rfl rfl ?_
  refine a_aload_n C dX12_keepsRow_13 (i := 0) rfl rfl ?_
  refine a_get C fl_RX12_110 (i := 236) kd_236 (hid 236 (by decide)) (v := .ref (ad 267)) rfl dX12_keepsRow_14 ?_
  refine a_iload_n C dX12_keepsRow_17 (i := 1) rfl rfl ?_
  refine a_iald C (i := 267) 23 kd_267 (hid 267 (by decide)) (by decide) rfl (by rw [al_267]; decide) dX12_keepsRow_18 (v := 0) h_267_23 ?_
  refine a_iast C (i := 266) 23 kd_266 (hid 266 (by decide)) (by decide) rfl (by rw [al_266]; decide) dX12_keepsRow_19 ?_
  refine a_iinc C dX12_keepsRow_20 rfl (v := 24) rfl (by decide) rfl (vs1 := [some (.ref (ad 236)), some (.int 24)]) rfl ?_
  refine a_goto C dX12_keepsRow_23 (tgt := 2) rfl ?_
  refine a_iload_n C dX12_keepsRow_2 (i := 1) rfl rfl ?_
  refine a_bipush C dX12_keepsRow_3 (v := 29) rfl ?_
  refine a_ic_ge C dX12_keepsRow_5 (tgt := 26) rfl (fun h => absurd h (by decide)) (fun _ => ?_)
  refine a_aload_n C dX12_keepsRow_8 (i := 0) rfl rfl ?_
  refine a_get C fl_RX12_107 (i := 236) kd_236 (hid 236 (by decide)) (v := .ref (ad 266)) rfl dX12_keepsRow_9 ?_
  refine a_iload_n C dX12_keepsRow_12 (i := 1) rfl rfl ?_
  refine a_aload_n C dX12_keepsRow_13 (i := 0) rfl rfl ?_
  refine a_get C fl_RX12_110 (i := 236) kd_236 (hid 236 (by decide)) (v := .ref (ad 267)) rfl dX12_keepsRow_14 ?_
  refine a_iload_n C dX12_keepsRow_17 (i := 1) rfl rfl ?_
  refine a_iald C (i := 267) 24 kd_267 (hid 267 (by decide)) (by decide) rfl (by rw [al_267]; decide) dX12_keepsRow_18 (v := 0) h_267_24 ?_
  refine a_iast C (i := 266) 24 kd_266 (hid 266 (by decide)) (by decide) rfl (by rw [al_266]; decide) dX12_keepsRow_19 ?_
  refine a_iinc C dX12_keepsRow_20 rfl (v := 25) rfl (by decide) rfl (vs1 := [some (.ref (ad 236)), some (.int 25)]) rfl ?_
  refine a_goto C dX12_keepsRow_23 (tgt := 2) rfl ?_
  refine a_iload_n C dX12_keepsRow_2 (i := 1) rfl rfl ?_
  refine a_bipush C dX12_keepsRow_3 (v := 29) rfl ?_
  refine a_ic_ge C dX12_keepsRow_5 (tgt := 26) rfl (fun h => absurd h (by decide)) (fun _ => ?_)
  refine a_aload_n C dX12_keepsRow_8 (i := 0) rfl rfl ?_
  refine a_get C fl_RX12_107 (i := 236) kd_236 (hid 236 (by decide)) (v := .ref (ad 266)) rfl dX12_keepsRow_9 ?_
  refine a_iload_n C dX12_keepsRow_12 (i := 1) rfl rfl ?_
  refine a_aload_n C dX12_keepsRow_13 (i := 0) rfl rfl ?_
  refine a_get C fl_RX12_110 (i := 236) kd_236 (hid 236 (by decide)) (v := .ref (ad 267)) rfl dX12_keepsRow_14 ?_
  refine a_iload_n C dX12_keepsRow_17 (i := 1) rfl rfl ?_
  refine a_iald C (i := 267) 25 kd_267 (hid 267 (by decide)) (by decide) rfl (by rw [al_267]; decide) dX12_keepsRow_18 (v := 0) h_267_25 ?_
  refine a_iast C (i := 266) 25 kd_266 (hid 266 (by decide)) (by decide) rfl (by rw [al_266]; decide) dX12_keepsRow_19 ?_
  refine a_iinc C dX12_keepsRow_20 rfl (v := 26) rfl (by decide) rfl (vs1 := [some (.ref (ad 236)), some (.int 26)]) rfl ?_
  refine a_goto C dX12_keepsRow_23 (tgt := 2) rfl ?_
  refine a_iload_n C dX12_keepsRow_2 (i := 1) rfl rfl ?_
  refine a_bipush C dX12_keepsRow_3 (v := 29) rfl ?_
  refine a_ic_ge C dX12_keepsRow_5 (tgt := 26) rfl (fun h => absurd h (by decide)) (fun _ => ?_)
  refine a_aload_n C dX12_keepsRow_8 (i := 0) rfl rfl ?_
  refine a_get C fl_RX12_107 (i := 236) kd_236 (hid 236 (by decide)) (v := .ref (ad 266)) rfl dX12_keepsRow_9 ?_
  refine a_iload_n C dX12_keepsRow_12 (i := 1) rfl rfl ?_
  refine a_aload_n C dX12_keepsRow_13 (i := 0) rfl rfl ?_
  refine a_get C fl_RX12_110 (i := 236) kd_236 (hid 236 (by decide)) (v := .ref (ad 267)) rfl dX12_keepsRow_14 ?_
  refine a_iload_n C dX12_keepsRow_17 (i := 1) rfl rfl ?_
  refine a_iald C (i := 267) 26 kd_267 (hid 267 (by decide)) (by decide) rfl (by rw [al_267]; decide) dX12_keepsRow_18 (v := (-2)) h_267_26 ?_
  refine a_iast C (i := 266) 26 kd_266 (hid 266 (by decide)) (by decide) rfl (by rw [al_266]; decide) dX12_keepsRow_19 ?_
  refine a_iinc C dX12_keepsRow_20 rfl (v := 27) rfl (by decide) rfl (vs1 := [some (.ref (ad 236)), some (.int 27)]) rfl ?_
  refine a_goto C dX12_keepsRow_23 (tgt := 2) rfl ?_
  refine a_iload_n C dX12_keepsRow_2 (i := 1) rfl rfl ?_
  refine a_bipush C dX12_keepsRow_3 (v := 29) rfl ?_
  refine a_ic_ge C dX12_keepsRow_5 (tgt := 26) rfl (fun h => absurd h (by decide)) (fun _ => ?_)
  refine a_aload_n C dX12_keepsRow_8 (i := 0) rfl rfl ?_
  refine a_get C fl_RX12_107 (i := 236) kd_236 (hid 236 (by decide)) (v := .ref (ad 266)) rfl dX12_keepsRow_9 ?_
  refine a_iload_n C dX12_keepsRow_12 (i := 1) rfl rfl ?_
  refine a_aload_n C dX12_keepsRow_13 (i := 0) rfl rfl ?_
  refine a_get C fl_RX12_110 (i := 236) kd_236 (hid 236 (by decide)) (v := .ref (ad 267)) rfl dX12_keepsRow_14 ?_
  refine a_iload_n C dX12_keepsRow_17 (i := 1) rfl rfl ?_
  refine a_iald C (i := 267) 27 kd_267 (hid 267 (by decide)) (by decide) rfl (by rw [al_267]; decide) dX12_keepsRow_18 (v := 0) h_267_27 ?_
  refine a_iast C (i := 266) 27 kd_266 (hid 266 (by decide)) (by decide) rfl (by rw [al_266]; decide) dX12_keepsRow_19 ?_
  refine a_iinc C dX12_keepsRow_20 rfl (v := 28) rfl (by decide) rfl (vs1 := [some (.ref (ad 236)), some (.int 28)]) rfl ?_
  refine a_goto C dX12_keepsRow_23 (tgt := 2) rfl ?_
  refine a_iload_n C dX12_keepsRow_2 (i := 1) rfl rfl ?_
  refine a_bipush C dX12_keepsRow_3 (v := 29) rfl ?_
  refine a_ic_ge C dX12_keepsRow_5 (tgt := 26) rfl (fun h => absurd h (by decide)) (fun _ => ?_)
  refine a_aload_n C dX12_keepsRow_8 (i := 0) rfl rfl ?_
  refine a_get C fl_RX12_107 (i := 236) kd_236 (hid 236 (by decide)) (v := .ref (ad 266)) rfl dX12_keepsRow_9 ?_
  refine a_iload_n C dX12_keepsRow_12 (i := 1) rfl rfl ?_
  refine a_aload_n C dX12_keepsRow_13 (i := 0) rfl rfl ?_
  refine a_get C fl_RX12_110 (i := 236) kd_236 (hid 236 (by decide)) (v := .ref (ad 267)) rfl dX12_keepsRow_14 ?_
  refine a_iload_n C dX12_keepsRow_17 (i := 1) rfl rfl ?_
  refine a_iald C (i := 267) 28 kd_267 (hid 267 (by decide)) (by decide) rfl (by rw [al_267]; decide) dX12_keepsRow_18 (v := (-1)) h_267_28 ?_
  refine a_iast C (i := 266) 28 kd_266 (hid 266 (by decide)) (by decide) rfl (by rw [al_266]; decide) dX12_keepsRow_19 ?_
  refine a_iinc C dX12_keepsRow_20 rfl (v := 29) rfl (by decide) rfl (vs1 := [some (.ref (ad 236)), some (.int 29)]) rfl ?_
  refine a_goto C dX12_keepsRow_23 (tgt := 2) rfl ?_
  refine a_iload_n C dX12_keepsRow_2 (i := 1) rfl rfl ?_
  refine a_bipush C dX12_keepsRow_3 (v := 29) rfl ?_
  refine a_ic_ge C dX12_keepsRow_5 (tgt := 26) rfl (fun _ => ?_) (fun h => absurd h (by decide))
  exact a_vret Rt dX12_keepsRow_26 (rfl)

def kb_cX12_init_0 : List Nat := [42, 183, 0, 7, 42, 17, 7, 208, 188, 8, 181, 0, 13, 42, 17, 7, 208, 188, 8, 181]
theorem ac_cX12_init_0 : AL cX12_init 0 kb_cX12_init_0 := AL.of (m := 20) (by decide +kernel)
theorem dX12_init_0 : decode cX12_init 0 = .ok (.aload_n 0, 1) := o42 ac_cX12_init_0 0 rfl
theorem dX12_init_1 : decode cX12_init 1 = .ok (.invokespecial 7, 3) := o183 ac_cX12_init_0 1 0 7 rfl
theorem dX12_init_4 : decode cX12_init 4 = .ok (.aload_n 0, 1) := o42 ac_cX12_init_0 4 rfl
theorem dX12_init_5 : decode cX12_init 5 = .ok (.sipush 2000, 3) := o17p ac_cX12_init_0 5 7 208 rfl rfl
theorem dX12_init_8 : decode cX12_init 8 = .ok (.newarray .byte, 2) := by decide +kernel
theorem dX12_init_10 : decode cX12_init 10 = .ok (.putfield 13, 3) := o181 ac_cX12_init_0 10 0 13 rfl
theorem dX12_init_13 : decode cX12_init 13 = .ok (.aload_n 0, 1) := o42 ac_cX12_init_0 13 rfl
theorem dX12_init_14 : decode cX12_init 14 = .ok (.sipush 2000, 3) := o17p ac_cX12_init_0 14 7 208 rfl rfl
theorem dX12_init_17 : decode cX12_init 17 = .ok (.newarray .byte, 2) := by decide +kernel
def kb_cX12_init_16 : List Nat := [208, 188, 8, 181, 0, 17, 42, 17, 1, 147, 188, 10, 181, 0, 20, 42, 17, 1, 147, 188]
theorem ac_cX12_init_16 : AL cX12_init 16 kb_cX12_init_16 := AL.of (m := 20) (by decide +kernel)
theorem dX12_init_19 : decode cX12_init 19 = .ok (.putfield 17, 3) := o181 ac_cX12_init_16 3 0 17 rfl
theorem dX12_init_22 : decode cX12_init 22 = .ok (.aload_n 0, 1) := o42 ac_cX12_init_16 6 rfl
theorem dX12_init_23 : decode cX12_init 23 = .ok (.sipush 403, 3) := o17p ac_cX12_init_16 7 1 147 rfl rfl
theorem dX12_init_26 : decode cX12_init 26 = .ok (.newarray .int, 2) := by decide +kernel
theorem dX12_init_28 : decode cX12_init 28 = .ok (.putfield 20, 3) := o181 ac_cX12_init_16 12 0 20 rfl
theorem dX12_init_31 : decode cX12_init 31 = .ok (.aload_n 0, 1) := o42 ac_cX12_init_16 15 rfl
def kb_cX12_init_32 : List Nat := [17, 1, 147, 188, 10, 181, 0, 24, 42, 17, 1, 147, 188, 10, 181, 0, 27, 42, 17, 1]
theorem ac_cX12_init_32 : AL cX12_init 32 kb_cX12_init_32 := AL.of (m := 20) (by decide +kernel)
theorem dX12_init_32 : decode cX12_init 32 = .ok (.sipush 403, 3) := o17p ac_cX12_init_32 0 1 147 rfl rfl
theorem dX12_init_35 : decode cX12_init 35 = .ok (.newarray .int, 2) := by decide +kernel
theorem dX12_init_37 : decode cX12_init 37 = .ok (.putfield 24, 3) := o181 ac_cX12_init_32 5 0 24 rfl
theorem dX12_init_40 : decode cX12_init 40 = .ok (.aload_n 0, 1) := o42 ac_cX12_init_32 8 rfl
theorem dX12_init_41 : decode cX12_init 41 = .ok (.sipush 403, 3) := o17p ac_cX12_init_32 9 1 147 rfl rfl
theorem dX12_init_44 : decode cX12_init 44 = .ok (.newarray .int, 2) := by decide +kernel
theorem dX12_init_46 : decode cX12_init 46 = .ok (.putfield 27, 3) := o181 ac_cX12_init_32 14 0 27 rfl
def kb_cX12_init_48 : List Nat := [27, 42, 17, 1, 147, 188, 11, 181, 0, 30, 42, 16, 20, 188, 11, 181, 0, 34, 42, 2]
theorem ac_cX12_init_48 : AL cX12_init 48 kb_cX12_init_48 := AL.of (m := 20) (by decide +kernel)
theorem dX12_init_49 : decode cX12_init 49 = .ok (.aload_n 0, 1) := o42 ac_cX12_init_48 1 rfl
theorem dX12_init_50 : decode cX12_init 50 = .ok (.sipush 403, 3) := o17p ac_cX12_init_48 2 1 147 rfl rfl
theorem dX12_init_53 : decode cX12_init 53 = .ok (.newarray .long, 2) := by decide +kernel
theorem dX12_init_55 : decode cX12_init 55 = .ok (.putfield 30, 3) := o181 ac_cX12_init_48 7 0 30 rfl
theorem dX12_init_58 : decode cX12_init 58 = .ok (.aload_n 0, 1) := o42 ac_cX12_init_48 10 rfl
theorem dX12_init_59 : decode cX12_init 59 = .ok (.bipush 20, 2) := o16p ac_cX12_init_48 11 20 rfl rfl
theorem dX12_init_61 : decode cX12_init 61 = .ok (.newarray .long, 2) := by decide +kernel
theorem dX12_init_63 : decode cX12_init 63 = .ok (.putfield 34, 3) := o181 ac_cX12_init_48 15 0 34 rfl
def kb_cX12_init_64 : List Nat := [0, 34, 42, 2, 181, 0, 37, 42, 16, 12, 188, 11, 181, 0, 40, 42, 5, 188, 10, 181]
theorem ac_cX12_init_64 : AL cX12_init 64 kb_cX12_init_64 := AL.of (m := 20) (by decide +kernel)
theorem dX12_init_66 : decode cX12_init 66 = .ok (.aload_n 0, 1) := o42 ac_cX12_init_64 2 rfl
theorem dX12_init_67 : decode cX12_init 67 = .ok (.iconst (-1), 1) := o2 ac_cX12_init_64 3 rfl
theorem dX12_init_68 : decode cX12_init 68 = .ok (.putfield 37, 3) := o181 ac_cX12_init_64 4 0 37 rfl
theorem dX12_init_71 : decode cX12_init 71 = .ok (.aload_n 0, 1) := o42 ac_cX12_init_64 7 rfl
theorem dX12_init_72 : decode cX12_init 72 = .ok (.bipush 12, 2) := o16p ac_cX12_init_64 8 12 rfl rfl
theorem dX12_init_74 : decode cX12_init 74 = .ok (.newarray .long, 2) := by decide +kernel
theorem dX12_init_76 : decode cX12_init 76 = .ok (.putfield 40, 3) := o181 ac_cX12_init_64 12 0 40 rfl
theorem dX12_init_79 : decode cX12_init 79 = .ok (.aload_n 0, 1) := o42 ac_cX12_init_64 15 rfl
def kb_cX12_init_80 : List Nat := [5, 188, 10, 181, 0, 43, 42, 16, 14, 188, 10, 181, 0, 46, 42, 16, 14, 188, 10, 181]
theorem ac_cX12_init_80 : AL cX12_init 80 kb_cX12_init_80 := AL.of (m := 20) (by decide +kernel)
theorem dX12_init_80 : decode cX12_init 80 = .ok (.iconst 2, 1) := o5 ac_cX12_init_80 0 rfl
theorem dX12_init_81 : decode cX12_init 81 = .ok (.newarray .int, 2) := by decide +kernel
theorem dX12_init_83 : decode cX12_init 83 = .ok (.putfield 43, 3) := o181 ac_cX12_init_80 3 0 43 rfl
theorem dX12_init_86 : decode cX12_init 86 = .ok (.aload_n 0, 1) := o42 ac_cX12_init_80 6 rfl
theorem dX12_init_87 : decode cX12_init 87 = .ok (.bipush 14, 2) := o16p ac_cX12_init_80 7 14 rfl rfl
theorem dX12_init_89 : decode cX12_init 89 = .ok (.newarray .int, 2) := by decide +kernel
theorem dX12_init_91 : decode cX12_init 91 = .ok (.putfield 46, 3) := o181 ac_cX12_init_80 11 0 46 rfl
theorem dX12_init_94 : decode cX12_init 94 = .ok (.aload_n 0, 1) := o42 ac_cX12_init_80 14 rfl
theorem dX12_init_95 : decode cX12_init 95 = .ok (.bipush 14, 2) := o16p ac_cX12_init_80 15 14 rfl rfl
theorem dX12_init_97 : decode cX12_init 97 = .ok (.newarray .int, 2) := by decide +kernel
def kb_cX12_init_96 : List Nat := [14, 188, 10, 181, 0, 49, 42, 16, 14, 188, 10, 181, 0, 52, 42, 5, 188, 10, 181, 0]
theorem ac_cX12_init_96 : AL cX12_init 96 kb_cX12_init_96 := AL.of (m := 20) (by decide +kernel)
theorem dX12_init_99 : decode cX12_init 99 = .ok (.putfield 49, 3) := o181 ac_cX12_init_96 3 0 49 rfl
theorem dX12_init_102 : decode cX12_init 102 = .ok (.aload_n 0, 1) := o42 ac_cX12_init_96 6 rfl
theorem dX12_init_103 : decode cX12_init 103 = .ok (.bipush 14, 2) := o16p ac_cX12_init_96 7 14 rfl rfl
theorem dX12_init_105 : decode cX12_init 105 = .ok (.newarray .int, 2) := by decide +kernel
theorem dX12_init_107 : decode cX12_init 107 = .ok (.putfield 52, 3) := o181 ac_cX12_init_96 11 0 52 rfl
theorem dX12_init_110 : decode cX12_init 110 = .ok (.aload_n 0, 1) := o42 ac_cX12_init_96 14 rfl
theorem dX12_init_111 : decode cX12_init 111 = .ok (.iconst 2, 1) := o5 ac_cX12_init_96 15 rfl
theorem dX12_init_112 : decode cX12_init 112 = .ok (.newarray .int, 2) := by decide +kernel
def kb_cX12_init_112 : List Nat := [188, 10, 181, 0, 55, 42, 16, 10, 188, 10, 181, 0, 58, 42, 16, 80, 188, 10, 181, 0]
theorem ac_cX12_init_112 : AL cX12_init 112 kb_cX12_init_112 := AL.of (m := 20) (by decide +kernel)
theorem dX12_init_114 : decode cX12_init 114 = .ok (.putfield 55, 3) := o181 ac_cX12_init_112 2 0 55 rfl
theorem dX12_init_117 : decode cX12_init 117 = .ok (.aload_n 0, 1) := o42 ac_cX12_init_112 5 rfl
theorem dX12_init_118 : decode cX12_init 118 = .ok (.bipush 10, 2) := o16p ac_cX12_init_112 6 10 rfl rfl
theorem dX12_init_120 : decode cX12_init 120 = .ok (.newarray .int, 2) := by decide +kernel
theorem dX12_init_122 : decode cX12_init 122 = .ok (.putfield 58, 3) := o181 ac_cX12_init_112 10 0 58 rfl
theorem dX12_init_125 : decode cX12_init 125 = .ok (.aload_n 0, 1) := o42 ac_cX12_init_112 13 rfl
theorem dX12_init_126 : decode cX12_init 126 = .ok (.bipush 80, 2) := o16p ac_cX12_init_112 14 80 rfl rfl
theorem dX12_init_128 : decode cX12_init 128 = .ok (.newarray .int, 2) := by decide +kernel
def kb_cX12_init_128 : List Nat := [188, 10, 181, 0, 61, 42, 5, 188, 10, 181, 0, 64, 42, 5, 188, 10, 181, 0, 67, 42]
theorem ac_cX12_init_128 : AL cX12_init 128 kb_cX12_init_128 := AL.of (m := 20) (by decide +kernel)
theorem dX12_init_130 : decode cX12_init 130 = .ok (.putfield 61, 3) := o181 ac_cX12_init_128 2 0 61 rfl
theorem dX12_init_133 : decode cX12_init 133 = .ok (.aload_n 0, 1) := o42 ac_cX12_init_128 5 rfl
theorem dX12_init_134 : decode cX12_init 134 = .ok (.iconst 2, 1) := o5 ac_cX12_init_128 6 rfl
theorem dX12_init_135 : decode cX12_init 135 = .ok (.newarray .int, 2) := by decide +kernel
theorem dX12_init_137 : decode cX12_init 137 = .ok (.putfield 64, 3) := o181 ac_cX12_init_128 9 0 64 rfl
theorem dX12_init_140 : decode cX12_init 140 = .ok (.aload_n 0, 1) := o42 ac_cX12_init_128 12 rfl
theorem dX12_init_141 : decode cX12_init 141 = .ok (.iconst 2, 1) := o5 ac_cX12_init_128 13 rfl
theorem dX12_init_142 : decode cX12_init 142 = .ok (.newarray .int, 2) := by decide +kernel
def kb_cX12_init_144 : List Nat := [181, 0, 67, 42, 16, 8, 188, 10, 181, 0, 70, 42, 16, 8, 188, 10, 181, 0, 73, 42]
theorem ac_cX12_init_144 : AL cX12_init 144 kb_cX12_init_144 := AL.of (m := 20) (by decide +kernel)
theorem dX12_init_144 : decode cX12_init 144 = .ok (.putfield 67, 3) := o181 ac_cX12_init_144 0 0 67 rfl
theorem dX12_init_147 : decode cX12_init 147 = .ok (.aload_n 0, 1) := o42 ac_cX12_init_144 3 rfl
theorem dX12_init_148 : decode cX12_init 148 = .ok (.bipush 8, 2) := o16p ac_cX12_init_144 4 8 rfl rfl
theorem dX12_init_150 : decode cX12_init 150 = .ok (.newarray .int, 2) := by decide +kernel
theorem dX12_init_152 : decode cX12_init 152 = .ok (.putfield 70, 3) := o181 ac_cX12_init_144 8 0 70 rfl
theorem dX12_init_155 : decode cX12_init 155 = .ok (.aload_n 0, 1) := o42 ac_cX12_init_144 11 rfl
theorem dX12_init_156 : decode cX12_init 156 = .ok (.bipush 8, 2) := o16p ac_cX12_init_144 12 8 rfl rfl
theorem dX12_init_158 : decode cX12_init 158 = .ok (.newarray .int, 2) := by decide +kernel
def kb_cX12_init_160 : List Nat := [181, 0, 73, 42, 17, 1, 4, 188, 4, 181, 0, 76, 42, 17, 1, 4, 188, 10, 181, 0]
theorem ac_cX12_init_160 : AL cX12_init 160 kb_cX12_init_160 := AL.of (m := 20) (by decide +kernel)
theorem dX12_init_160 : decode cX12_init 160 = .ok (.putfield 73, 3) := o181 ac_cX12_init_160 0 0 73 rfl
theorem dX12_init_163 : decode cX12_init 163 = .ok (.aload_n 0, 1) := o42 ac_cX12_init_160 3 rfl
theorem dX12_init_164 : decode cX12_init 164 = .ok (.sipush 260, 3) := o17p ac_cX12_init_160 4 1 4 rfl rfl
theorem dX12_init_167 : decode cX12_init 167 = .ok (.newarray .boolean, 2) := by decide +kernel
theorem dX12_init_169 : decode cX12_init 169 = .ok (.putfield 76, 3) := o181 ac_cX12_init_160 9 0 76 rfl
theorem dX12_init_172 : decode cX12_init 172 = .ok (.aload_n 0, 1) := o42 ac_cX12_init_160 12 rfl
theorem dX12_init_173 : decode cX12_init 173 = .ok (.sipush 260, 3) := o17p ac_cX12_init_160 13 1 4 rfl rfl
theorem dX12_init_176 : decode cX12_init 176 = .ok (.newarray .int, 2) := by decide +kernel
def kb_cX12_init_176 : List Nat := [188, 10, 181, 0, 80, 42, 17, 1, 4, 188, 10, 181, 0, 83, 42, 17, 1, 4, 188, 10]
theorem ac_cX12_init_176 : AL cX12_init 176 kb_cX12_init_176 := AL.of (m := 20) (by decide +kernel)
theorem dX12_init_178 : decode cX12_init 178 = .ok (.putfield 80, 3) := o181 ac_cX12_init_176 2 0 80 rfl
theorem dX12_init_181 : decode cX12_init 181 = .ok (.aload_n 0, 1) := o42 ac_cX12_init_176 5 rfl
theorem dX12_init_182 : decode cX12_init 182 = .ok (.sipush 260, 3) := o17p ac_cX12_init_176 6 1 4 rfl rfl
theorem dX12_init_185 : decode cX12_init 185 = .ok (.newarray .int, 2) := by decide +kernel
theorem dX12_init_187 : decode cX12_init 187 = .ok (.putfield 83, 3) := o181 ac_cX12_init_176 11 0 83 rfl
theorem dX12_init_190 : decode cX12_init 190 = .ok (.aload_n 0, 1) := o42 ac_cX12_init_176 14 rfl
theorem dX12_init_191 : decode cX12_init 191 = .ok (.sipush 260, 3) := o17p ac_cX12_init_176 15 1 4 rfl rfl
theorem dX12_init_194 : decode cX12_init 194 = .ok (.newarray .int, 2) := by decide +kernel
def kb_cX12_init_192 : List Nat := [1, 4, 188, 10, 181, 0, 86, 42, 17, 1, 4, 188, 10, 181, 0, 89, 42, 17, 3, 72]
theorem ac_cX12_init_192 : AL cX12_init 192 kb_cX12_init_192 := AL.of (m := 20) (by decide +kernel)
theorem dX12_init_196 : decode cX12_init 196 = .ok (.putfield 86, 3) := o181 ac_cX12_init_192 4 0 86 rfl
theorem dX12_init_199 : decode cX12_init 199 = .ok (.aload_n 0, 1) := o42 ac_cX12_init_192 7 rfl
theorem dX12_init_200 : decode cX12_init 200 = .ok (.sipush 260, 3) := o17p ac_cX12_init_192 8 1 4 rfl rfl
theorem dX12_init_203 : decode cX12_init 203 = .ok (.newarray .int, 2) := by decide +kernel

theorem dX12_init_205 : decode cX12_init 205 = .ok (.putfield 89, 3) := o181 ac_cX12_init_192 13 0 89 rfl
def kb_cX12_init_208 : List Nat := [42, 17, 3, 72, 188, 10, 181, 0, 92, 42, 17, 3, 72, 188, 10, 181, 0, 95, 42, 16]
theorem ac_cX12_init_208 : AL cX12_init 208 kb_cX12_init_208 := AL.of (m := 20) (by decide +kernel)
theorem dX12_init_208 : decode cX12_init 208 = .ok (.aload_n 0, 1) := o42 ac_cX12_init_208 0 rfl
theorem dX12_init_209 : decode cX12_init 209 = .ok (.sipush 840, 3) := o17p ac_cX12_init_208 1 3 72 rfl rfl
theorem dX12_init_212 : decode cX12_init 212 = .ok (.newarray .int, 2) := by decide +kernel
theorem dX12_init_214 : decode cX12_init 214 = .ok (.putfield 92, 3) := o181 ac_cX12_init_208 6 0 92 rfl
theorem dX12_init_217 : decode cX12_init 217 = .ok (.aload_n 0, 1) := o42 ac_cX12_init_208 9 rfl
theorem dX12_init_218 : decode cX12_init 218 = .ok (.sipush 840, 3) := o17p ac_cX12_init_208 10 3 72 rfl rfl
theorem dX12_init_221 : decode cX12_init 221 = .ok (.newarray .int, 2) := by decide +kernel
theorem dX12_init_223 : decode cX12_init 223 = .ok (.putfield 95, 3) := o181 ac_cX12_init_208 15 0 95 rfl
def kb_cX12_init_224 : List Nat := [0, 95, 42, 16, 64, 188, 10, 181, 0, 98, 42, 16, 9, 188, 10, 181, 0, 101, 42, 17]
theorem ac_cX12_init_224 : AL cX12_init 224 kb_cX12_init_224 := AL.of (m := 20) (by decide +kernel)
theorem dX12_init_226 : decode cX12_init 226 = .ok (.aload_n 0, 1) := o42 ac_cX12_init_224 2 rfl
theorem dX12_init_227 : decode cX12_init 227 = .ok (.bipush 64, 2) := o16p ac_cX12_init_224 3 64 rfl rfl
theorem dX12_init_229 : decode cX12_init 229 = .ok (.newarray .int, 2) := by decide +kernel
theorem dX12_init_231 : decode cX12_init 231 = .ok (.putfield 98, 3) := o181 ac_cX12_init_224 7 0 98 rfl
theorem dX12_init_234 : decode cX12_init 234 = .ok (.aload_n 0, 1) := o42 ac_cX12_init_224 10 rfl
theorem dX12_init_235 : decode cX12_init 235 = .ok (.bipush 9, 2) := o16p ac_cX12_init_224 11 9 rfl rfl
theorem dX12_init_237 : decode cX12_init 237 = .ok (.newarray .int, 2) := by decide +kernel
theorem dX12_init_239 : decode cX12_init 239 = .ok (.putfield 101, 3) := o181 ac_cX12_init_224 15 0 101 rfl
def kb_cX12_init_240 : List Nat := [0, 101, 42, 17, 1, 144, 188, 10, 181, 0, 104, 42, 16, 29, 188, 10, 181, 0, 107, 42]
theorem ac_cX12_init_240 : AL cX12_init 240 kb_cX12_init_240 := AL.of (m := 20) (by decide +kernel)
theorem dX12_init_242 : decode cX12_init 242 = .ok (.aload_n 0, 1) := o42 ac_cX12_init_240 2 rfl
theorem dX12_init_243 : decode cX12_init 243 = .ok (.sipush 400, 3) := o17p ac_cX12_init_240 3 1 144 rfl rfl
theorem dX12_init_246 : decode cX12_init 246 = .ok (.newarray .int, 2) := by decide +kernel
theorem dX12_init_248 : decode cX12_init 248 = .ok (.putfield 104, 3) := o181 ac_cX12_init_240 8 0 104 rfl
theorem dX12_init_251 : decode cX12_init 251 = .ok (.aload_n 0, 1) := o42 ac_cX12_init_240 11 rfl
theorem dX12_init_252 : decode cX12_init 252 = .ok (.bipush 29, 2) := o16p ac_cX12_init_240 12 29 rfl rfl
theorem dX12_init_254 : decode cX12_init 254 = .ok (.newarray .int, 2) := by decide +kernel
def kb_cX12_init_256 : List Nat := [181, 0, 107, 42, 16, 29, 188, 10, 181, 0, 110, 42, 17, 4, 136, 188, 10, 181, 0, 113]
theorem ac_cX12_init_256 : AL cX12_init 256 kb_cX12_init_256 := AL.of (m := 20) (by decide +kernel)
theorem dX12_init_256 : decode cX12_init 256 = .ok (.putfield 107, 3) := o181 ac_cX12_init_256 0 0 107 rfl
theorem dX12_init_259 : decode cX12_init 259 = .ok (.aload_n 0, 1) := o42 ac_cX12_init_256 3 rfl
theorem dX12_init_260 : decode cX12_init 260 = .ok (.bipush 29, 2) := o16p ac_cX12_init_256 4 29 rfl rfl
theorem dX12_init_262 : decode cX12_init 262 = .ok (.newarray .int, 2) := by decide +kernel
theorem dX12_init_264 : decode cX12_init 264 = .ok (.putfield 110, 3) := o181 ac_cX12_init_256 8 0 110 rfl
theorem dX12_init_267 : decode cX12_init 267 = .ok (.aload_n 0, 1) := o42 ac_cX12_init_256 11 rfl
theorem dX12_init_268 : decode cX12_init 268 = .ok (.sipush 1160, 3) := o17p ac_cX12_init_256 12 4 136 rfl rfl
theorem dX12_init_271 : decode cX12_init 271 = .ok (.newarray .int, 2) := by decide +kernel
def kb_cX12_init_272 : List Nat := [10, 181, 0, 113, 42, 16, 16, 188, 10, 181, 0, 116, 42, 17, 4, 0, 188, 10, 181, 0]
theorem ac_cX12_init_272 : AL cX12_init 272 kb_cX12_init_272 := AL.of (m := 20) (by decide +kernel)
theorem dX12_init_273 : decode cX12_init 273 = .ok (.putfield 113, 3) := o181 ac_cX12_init_272 1 0 113 rfl
theorem dX12_init_276 : decode cX12_init 276 = .ok (.aload_n 0, 1) := o42 ac_cX12_init_272 4 rfl
theorem dX12_init_277 : decode cX12_init 277 = .ok (.bipush 16, 2) := o16p ac_cX12_init_272 5 16 rfl rfl
theorem dX12_init_279 : decode cX12_init 279 = .ok (.newarray .int, 2) := by decide +kernel
theorem dX12_init_281 : decode cX12_init 281 = .ok (.putfield 116, 3) := o181 ac_cX12_init_272 9 0 116 rfl
theorem dX12_init_284 : decode cX12_init 284 = .ok (.aload_n 0, 1) := o42 ac_cX12_init_272 12 rfl
theorem dX12_init_285 : decode cX12_init 285 = .ok (.sipush 1024, 3) := o17p ac_cX12_init_272 13 4 0 rfl rfl
theorem dX12_init_288 : decode cX12_init 288 = .ok (.newarray .int, 2) := by decide +kernel
def kb_cX12_init_288 : List Nat := [188, 10, 181, 0, 119, 42, 16, 7, 188, 10, 181, 0, 122, 42, 16, 20, 188, 10, 181, 0]
theorem ac_cX12_init_288 : AL cX12_init 288 kb_cX12_init_288 := AL.of (m := 20) (by decide +kernel)
theorem dX12_init_290 : decode cX12_init 290 = .ok (.putfield 119, 3) := o181 ac_cX12_init_288 2 0 119 rfl
theorem dX12_init_293 : decode cX12_init 293 = .ok (.aload_n 0, 1) := o42 ac_cX12_init_288 5 rfl
theorem dX12_init_294 : decode cX12_init 294 = .ok (.bipush 7, 2) := o16p ac_cX12_init_288 6 7 rfl rfl
theorem dX12_init_296 : decode cX12_init 296 = .ok (.newarray .int, 2) := by decide +kernel
theorem dX12_init_298 : decode cX12_init 298 = .ok (.putfield 122, 3) := o181 ac_cX12_init_288 10 0 122 rfl
theorem dX12_init_301 : decode cX12_init 301 = .ok (.aload_n 0, 1) := o42 ac_cX12_init_288 13 rfl
theorem dX12_init_302 : decode cX12_init 302 = .ok (.bipush 20, 2) := o16p ac_cX12_init_288 14 20 rfl rfl
theorem dX12_init_304 : decode cX12_init 304 = .ok (.newarray .int, 2) := by decide +kernel
def kb_cX12_init_304 : List Nat := [188, 10, 181, 0, 125, 42, 16, 20, 188, 4, 181, 0, 128, 42, 16, 41, 188, 10, 181, 0]
theorem ac_cX12_init_304 : AL cX12_init 304 kb_cX12_init_304 := AL.of (m := 20) (by decide +kernel)
theorem dX12_init_306 : decode cX12_init 306 = .ok (.putfield 125, 3) := o181 ac_cX12_init_304 2 0 125 rfl
theorem dX12_init_309 : decode cX12_init 309 = .ok (.aload_n 0, 1) := o42 ac_cX12_init_304 5 rfl
theorem dX12_init_310 : decode cX12_init 310 = .ok (.bipush 20, 2) := o16p ac_cX12_init_304 6 20 rfl rfl
theorem dX12_init_312 : decode cX12_init 312 = .ok (.newarray .boolean, 2) := by decide +kernel
theorem dX12_init_314 : decode cX12_init 314 = .ok (.putfield 128, 3) := o181 ac_cX12_init_304 10 0 128 rfl
theorem dX12_init_317 : decode cX12_init 317 = .ok (.aload_n 0, 1) := o42 ac_cX12_init_304 13 rfl
theorem dX12_init_318 : decode cX12_init 318 = .ok (.bipush 41, 2) := o16p ac_cX12_init_304 14 41 rfl rfl
theorem dX12_init_320 : decode cX12_init 320 = .ok (.newarray .int, 2) := by decide +kernel
def kb_cX12_init_320 : List Nat := [188, 10, 181, 0, 131, 42, 6, 188, 4, 181, 0, 134, 42, 16, 87, 188, 10, 181, 0, 137]
theorem ac_cX12_init_320 : AL cX12_init 320 kb_cX12_init_320 := AL.of (m := 20) (by decide +kernel)
theorem dX12_init_322 : decode cX12_init 322 = .ok (.putfield 131, 3) := o181 ac_cX12_init_320 2 0 131 rfl
theorem dX12_init_325 : decode cX12_init 325 = .ok (.aload_n 0, 1) := o42 ac_cX12_init_320 5 rfl
theorem dX12_init_326 : decode cX12_init 326 = .ok (.iconst 3, 1) := o6 ac_cX12_init_320 6 rfl
theorem dX12_init_327 : decode cX12_init 327 = .ok (.newarray .boolean, 2) := by decide +kernel
theorem dX12_init_329 : decode cX12_init 329 = .ok (.putfield 134, 3) := o181 ac_cX12_init_320 9 0 134 rfl
theorem dX12_init_332 : decode cX12_init 332 = .ok (.aload_n 0, 1) := o42 ac_cX12_init_320 12 rfl
theorem dX12_init_333 : decode cX12_init 333 = .ok (.bipush 87, 2) := o16p ac_cX12_init_320 13 87 rfl rfl
theorem dX12_init_335 : decode cX12_init 335 = .ok (.newarray .int, 2) := by decide +kernel
def kb_cX12_init_336 : List Nat := [10, 181, 0, 137, 42, 3, 182, 0, 140, 42, 180, 0, 34, 3, 16, 116, 16, 104, 16, 105]
theorem ac_cX12_init_336 : AL cX12_init 336 kb_cX12_init_336 := AL.of (m := 20) (by decide +kernel)
theorem dX12_init_337 : decode cX12_init 337 = .ok (.putfield 137, 3) := o181 ac_cX12_init_336 1 0 137 rfl
theorem dX12_init_340 : decode cX12_init 340 = .ok (.aload_n 0, 1) := o42 ac_cX12_init_336 4 rfl
theorem dX12_init_341 : decode cX12_init 341 = .ok (.iconst 0, 1) := o3 ac_cX12_init_336 5 rfl
theorem dX12_init_342 : decode cX12_init 342 = .ok (.invokevirtual 140, 3) := o182 ac_cX12_init_336 6 0 140 rfl
theorem dX12_init_345 : decode cX12_init 345 = .ok (.aload_n 0, 1) := o42 ac_cX12_init_336 9 rfl
theorem dX12_init_346 : decode cX12_init 346 = .ok (.getfield 34, 3) := o180 ac_cX12_init_336 10 0 34 rfl
theorem dX12_init_349 : decode cX12_init 349 = .ok (.iconst 0, 1) := o3 ac_cX12_init_336 13 rfl
theorem dX12_init_350 : decode cX12_init 350 = .ok (.bipush 116, 2) := o16p ac_cX12_init_336 14 116 rfl rfl
def kb_cX12_init_352 : List Nat := [16, 104, 16, 105, 16, 110, 16, 103, 3, 3, 184, 0, 144, 80, 42, 180, 0, 34, 4, 16]
theorem ac_cX12_init_352 : AL cX12_init 352 kb_cX12_init_352 := AL.of (m := 20) (by decide +kernel)
theorem dX12_init_352 : decode cX12_init 352 = .ok (.bipush 104, 2) := o16p ac_cX12_init_352 0 104 rfl rfl
theorem dX12_init_354 : decode cX12_init 354 = .ok (.bipush 105, 2) := o16p ac_cX12_init_352 2 105 rfl rfl
theorem dX12_init_356 : decode cX12_init 356 = .ok (.bipush 110, 2) := o16p ac_cX12_init_352 4 110 rfl rfl
theorem dX12_init_358 : decode cX12_init 358 = .ok (.bipush 103, 2) := o16p ac_cX12_init_352 6 103 rfl rfl
theorem dX12_init_360 : decode cX12_init 360 = .ok (.iconst 0, 1) := o3 ac_cX12_init_352 8 rfl
theorem dX12_init_361 : decode cX12_init 361 = .ok (.iconst 0, 1) := o3 ac_cX12_init_352 9 rfl
theorem dX12_init_362 : decode cX12_init 362 = .ok (.invokestatic 144, 3) := o184 ac_cX12_init_352 10 0 144 rfl
theorem dX12_init_365 : decode cX12_init 365 = .ok (.lastore, 1) := o80 ac_cX12_init_352 13 rfl
theorem dX12_init_366 : decode cX12_init 366 = .ok (.aload_n 0, 1) := o42 ac_cX12_init_352 14 rfl
theorem dX12_init_367 : decode cX12_init 367 = .ok (.getfield 34, 3) := o180 ac_cX12_init_352 15 0 34 rfl
def kb_cX12_init_368 : List Nat := [0, 34, 4, 16, 112, 16, 97, 16, 116, 16, 116, 16, 101, 16, 114, 16, 110, 184, 0, 144]
theorem ac_cX12_init_368 : AL cX12_init 368 kb_cX12_init_368 := AL.of (m := 20) (by decide +kernel)
theorem dX12_init_370 : decode cX12_init 370 = .ok (.iconst 1, 1) := o4 ac_cX12_init_368 2 rfl
theorem dX12_init_371 : decode cX12_init 371 = .ok (.bipush 112, 2) := o16p ac_cX12_init_368 3 112 rfl rfl
theorem dX12_init_373 : decode cX12_init 373 = .ok (.bipush 97, 2) := o16p ac_cX12_init_368 5 97 rfl rfl
theorem dX12_init_375 : decode cX12_init 375 = .ok (.bipush 116, 2) := o16p ac_cX12_init_368 7 116 rfl rfl
theorem dX12_init_377 : decode cX12_init 377 = .ok (.bipush 116, 2) := o16p ac_cX12_init_368 9 116 rfl rfl
theorem dX12_init_379 : decode cX12_init 379 = .ok (.bipush 101, 2) := o16p ac_cX12_init_368 11 101 rfl rfl
theorem dX12_init_381 : decode cX12_init 381 = .ok (.bipush 114, 2) := o16p ac_cX12_init_368 13 114 rfl rfl
theorem dX12_init_383 : decode cX12_init 383 = .ok (.bipush 110, 2) := o16p ac_cX12_init_368 15 110 rfl rfl
def kb_cX12_init_384 : List Nat := [110, 184, 0, 144, 80, 42, 180, 0, 34, 5, 16, 116, 16, 105, 16, 114, 16, 101, 16, 115]
theorem ac_cX12_init_384 : AL cX12_init 384 kb_cX12_init_384 := AL.of (m := 20) (by decide +kernel)
theorem dX12_init_385 : decode cX12_init 385 = .ok (.invokestatic 144, 3) := o184 ac_cX12_init_384 1 0 144 rfl
theorem dX12_init_388 : decode cX12_init 388 = .ok (.lastore, 1) := o80 ac_cX12_init_384 4 rfl
theorem dX12_init_389 : decode cX12_init 389 = .ok (.aload_n 0, 1) := o42 ac_cX12_init_384 5 rfl
theorem dX12_init_390 : decode cX12_init 390 = .ok (.getfield 34, 3) := o180 ac_cX12_init_384 6 0 34 rfl
theorem dX12_init_393 : decode cX12_init 393 = .ok (.iconst 2, 1) := o5 ac_cX12_init_384 9 rfl
theorem dX12_init_394 : decode cX12_init 394 = .ok (.bipush 116, 2) := o16p ac_cX12_init_384 10 116 rfl rfl
theorem dX12_init_396 : decode cX12_init 396 = .ok (.bipush 105, 2) := o16p ac_cX12_init_384 12 105 rfl rfl
theorem dX12_init_398 : decode cX12_init 398 = .ok (.bipush 114, 2) := o16p ac_cX12_init_384 14 114 rfl rfl
def kb_cX12_init_400 : List Nat := [16, 101, 16, 115, 3, 3, 184, 0, 144, 80, 42, 180, 0, 34, 6, 16, 100, 16, 114, 16]
theorem ac_cX12_init_400 : AL cX12_init 400 kb_cX12_init_400 := AL.of (m := 20) (by decide +kernel)
theorem dX12_init_400 : decode cX12_init 400 = .ok (.bipush 101, 2) := o16p ac_cX12_init_400 0 101 rfl rfl
theorem dX12_init_402 : decode cX12_init 402 = .ok (.bipush 115, 2) := o16p ac_cX12_init_400 2 115 rfl rfl

theorem dX12_init_404 : decode cX12_init 404 = .ok (.iconst 0, 1) := o3 ac_cX12_init_400 4 rfl
theorem dX12_init_405 : decode cX12_init 405 = .ok (.iconst 0, 1) := o3 ac_cX12_init_400 5 rfl
theorem dX12_init_406 : decode cX12_init 406 = .ok (.invokestatic 144, 3) := o184 ac_cX12_init_400 6 0 144 rfl
theorem dX12_init_409 : decode cX12_init 409 = .ok (.lastore, 1) := o80 ac_cX12_init_400 9 rfl
theorem dX12_init_410 : decode cX12_init 410 = .ok (.aload_n 0, 1) := o42 ac_cX12_init_400 10 rfl
theorem dX12_init_411 : decode cX12_init 411 = .ok (.getfield 34, 3) := o180 ac_cX12_init_400 11 0 34 rfl
theorem dX12_init_414 : decode cX12_init 414 = .ok (.iconst 3, 1) := o6 ac_cX12_init_400 14 rfl
theorem dX12_init_415 : decode cX12_init 415 = .ok (.bipush 100, 2) := o16p ac_cX12_init_400 15 100 rfl rfl
def kb_cX12_init_416 : List Nat := [100, 16, 114, 16, 111, 16, 112, 16, 115, 3, 3, 184, 0, 144, 80, 42, 180, 0, 34, 7]
theorem ac_cX12_init_416 : AL cX12_init 416 kb_cX12_init_416 := AL.of (m := 20) (by decide +kernel)
theorem dX12_init_417 : decode cX12_init 417 = .ok (.bipush 114, 2) := o16p ac_cX12_init_416 1 114 rfl rfl
theorem dX12_init_419 : decode cX12_init 419 = .ok (.bipush 111, 2) := o16p ac_cX12_init_416 3 111 rfl rfl
theorem dX12_init_421 : decode cX12_init 421 = .ok (.bipush 112, 2) := o16p ac_cX12_init_416 5 112 rfl rfl
theorem dX12_init_423 : decode cX12_init 423 = .ok (.bipush 115, 2) := o16p ac_cX12_init_416 7 115 rfl rfl
theorem dX12_init_425 : decode cX12_init 425 = .ok (.iconst 0, 1) := o3 ac_cX12_init_416 9 rfl
theorem dX12_init_426 : decode cX12_init 426 = .ok (.iconst 0, 1) := o3 ac_cX12_init_416 10 rfl
theorem dX12_init_427 : decode cX12_init 427 = .ok (.invokestatic 144, 3) := o184 ac_cX12_init_416 11 0 144 rfl
theorem dX12_init_430 : decode cX12_init 430 = .ok (.lastore, 1) := o80 ac_cX12_init_416 14 rfl
theorem dX12_init_431 : decode cX12_init 431 = .ok (.aload_n 0, 1) := o42 ac_cX12_init_416 15 rfl
def kb_cX12_init_432 : List Nat := [180, 0, 34, 7, 16, 102, 16, 111, 16, 114, 16, 99, 16, 101, 3, 3, 184, 0, 144, 80]
theorem ac_cX12_init_432 : AL cX12_init 432 kb_cX12_init_432 := AL.of (m := 20) (by decide +kernel)
theorem dX12_init_432 : decode cX12_init 432 = .ok (.getfield 34, 3) := o180 ac_cX12_init_432 0 0 34 rfl
theorem dX12_init_435 : decode cX12_init 435 = .ok (.iconst 4, 1) := o7 ac_cX12_init_432 3 rfl
theorem dX12_init_436 : decode cX12_init 436 = .ok (.bipush 102, 2) := o16p ac_cX12_init_432 4 102 rfl rfl
theorem dX12_init_438 : decode cX12_init 438 = .ok (.bipush 111, 2) := o16p ac_cX12_init_432 6 111 rfl rfl
theorem dX12_init_440 : decode cX12_init 440 = .ok (.bipush 114, 2) := o16p ac_cX12_init_432 8 114 rfl rfl
theorem dX12_init_442 : decode cX12_init 442 = .ok (.bipush 99, 2) := o16p ac_cX12_init_432 10 99 rfl rfl
theorem dX12_init_444 : decode cX12_init 444 = .ok (.bipush 101, 2) := o16p ac_cX12_init_432 12 101 rfl rfl
theorem dX12_init_446 : decode cX12_init 446 = .ok (.iconst 0, 1) := o3 ac_cX12_init_432 14 rfl
theorem dX12_init_447 : decode cX12_init 447 = .ok (.iconst 0, 1) := o3 ac_cX12_init_432 15 rfl
def kb_cX12_init_448 : List Nat := [184, 0, 144, 80, 42, 180, 0, 34, 8, 16, 112, 16, 97, 16, 121, 16, 115, 3, 3, 3]
theorem ac_cX12_init_448 : AL cX12_init 448 kb_cX12_init_448 := AL.of (m := 20) (by decide +kernel)
theorem dX12_init_448 : decode cX12_init 448 = .ok (.invokestatic 144, 3) := o184 ac_cX12_init_448 0 0 144 rfl
theorem dX12_init_451 : decode cX12_init 451 = .ok (.lastore, 1) := o80 ac_cX12_init_448 3 rfl
theorem dX12_init_452 : decode cX12_init 452 = .ok (.aload_n 0, 1) := o42 ac_cX12_init_448 4 rfl
theorem dX12_init_453 : decode cX12_init 453 = .ok (.getfield 34, 3) := o180 ac_cX12_init_448 5 0 34 rfl
theorem dX12_init_456 : decode cX12_init 456 = .ok (.iconst 5, 1) := o8 ac_cX12_init_448 8 rfl
theorem dX12_init_457 : decode cX12_init 457 = .ok (.bipush 112, 2) := o16p ac_cX12_init_448 9 112 rfl rfl
theorem dX12_init_459 : decode cX12_init 459 = .ok (.bipush 97, 2) := o16p ac_cX12_init_448 11 97 rfl rfl
theorem dX12_init_461 : decode cX12_init 461 = .ok (.bipush 121, 2) := o16p ac_cX12_init_448 13 121 rfl rfl
theorem dX12_init_463 : decode cX12_init 463 = .ok (.bipush 115, 2) := o16p ac_cX12_init_448 15 115 rfl rfl
def kb_cX12_init_464 : List Nat := [115, 3, 3, 3, 184, 0, 144, 80, 42, 180, 0, 34, 16, 6, 16, 114, 16, 101, 16, 115]
theorem ac_cX12_init_464 : AL cX12_init 464 kb_cX12_init_464 := AL.of (m := 20) (by decide +kernel)
theorem dX12_init_465 : decode cX12_init 465 = .ok (.iconst 0, 1) := o3 ac_cX12_init_464 1 rfl
theorem dX12_init_466 : decode cX12_init 466 = .ok (.iconst 0, 1) := o3 ac_cX12_init_464 2 rfl
theorem dX12_init_467 : decode cX12_init 467 = .ok (.iconst 0, 1) := o3 ac_cX12_init_464 3 rfl
theorem dX12_init_468 : decode cX12_init 468 = .ok (.invokestatic 144, 3) := o184 ac_cX12_init_464 4 0 144 rfl
theorem dX12_init_471 : decode cX12_init 471 = .ok (.lastore, 1) := o80 ac_cX12_init_464 7 rfl
theorem dX12_init_472 : decode cX12_init 472 = .ok (.aload_n 0, 1) := o42 ac_cX12_init_464 8 rfl
theorem dX12_init_473 : decode cX12_init 473 = .ok (.getfield 34, 3) := o180 ac_cX12_init_464 9 0 34 rfl
theorem dX12_init_476 : decode cX12_init 476 = .ok (.bipush 6, 2) := o16p ac_cX12_init_464 12 6 rfl rfl
theorem dX12_init_478 : decode cX12_init 478 = .ok (.bipush 114, 2) := o16p ac_cX12_init_464 14 114 rfl rfl
def kb_cX12_init_480 : List Nat := [16, 101, 16, 115, 16, 116, 16, 115, 3, 3, 184, 0, 144, 80, 42, 180, 0, 34, 16, 7]
theorem ac_cX12_init_480 : AL cX12_init 480 kb_cX12_init_480 := AL.of (m := 20) (by decide +kernel)
theorem dX12_init_480 : decode cX12_init 480 = .ok (.bipush 101, 2) := o16p ac_cX12_init_480 0 101 rfl rfl
theorem dX12_init_482 : decode cX12_init 482 = .ok (.bipush 115, 2) := o16p ac_cX12_init_480 2 115 rfl rfl
theorem dX12_init_484 : decode cX12_init 484 = .ok (.bipush 116, 2) := o16p ac_cX12_init_480 4 116 rfl rfl
theorem dX12_init_486 : decode cX12_init 486 = .ok (.bipush 115, 2) := o16p ac_cX12_init_480 6 115 rfl rfl
theorem dX12_init_488 : decode cX12_init 488 = .ok (.iconst 0, 1) := o3 ac_cX12_init_480 8 rfl
theorem dX12_init_489 : decode cX12_init 489 = .ok (.iconst 0, 1) := o3 ac_cX12_init_480 9 rfl
theorem dX12_init_490 : decode cX12_init 490 = .ok (.invokestatic 144, 3) := o184 ac_cX12_init_480 10 0 144 rfl
theorem dX12_init_493 : decode cX12_init 493 = .ok (.lastore, 1) := o80 ac_cX12_init_480 13 rfl
theorem dX12_init_494 : decode cX12_init 494 = .ok (.aload_n 0, 1) := o42 ac_cX12_init_480 14 rfl
theorem dX12_init_495 : decode cX12_init 495 = .ok (.getfield 34, 3) := o180 ac_cX12_init_480 15 0 34 rfl
def kb_cX12_init_496 : List Nat := [0, 34, 16, 7, 16, 115, 16, 101, 16, 101, 16, 100, 3, 3, 3, 184, 0, 144, 80, 42]
theorem ac_cX12_init_496 : AL cX12_init 496 kb_cX12_init_496 := AL.of (m := 20) (by decide +kernel)
theorem dX12_init_498 : decode cX12_init 498 = .ok (.bipush 7, 2) := o16p ac_cX12_init_496 2 7 rfl rfl
theorem dX12_init_500 : decode cX12_init 500 = .ok (.bipush 115, 2) := o16p ac_cX12_init_496 4 115 rfl rfl
theorem dX12_init_502 : decode cX12_init 502 = .ok (.bipush 101, 2) := o16p ac_cX12_init_496 6 101 rfl rfl
theorem dX12_init_504 : decode cX12_init 504 = .ok (.bipush 101, 2) := o16p ac_cX12_init_496 8 101 rfl rfl
theorem dX12_init_506 : decode cX12_init 506 = .ok (.bipush 100, 2) := o16p ac_cX12_init_496 10 100 rfl rfl
theorem dX12_init_508 : decode cX12_init 508 = .ok (.iconst 0, 1) := o3 ac_cX12_init_496 12 rfl
theorem dX12_init_509 : decode cX12_init 509 = .ok (.iconst 0, 1) := o3 ac_cX12_init_496 13 rfl
theorem dX12_init_510 : decode cX12_init 510 = .ok (.iconst 0, 1) := o3 ac_cX12_init_496 14 rfl
theorem dX12_init_511 : decode cX12_init 511 = .ok (.invokestatic 144, 3) := o184 ac_cX12_init_496 15 0 144 rfl
def kb_cX12_init_512 : List Nat := [0, 144, 80, 42, 180, 0, 34, 16, 8, 16, 105, 16, 102, 3, 3, 3, 3, 3, 184, 0]
theorem ac_cX12_init_512 : AL cX12_init 512 kb_cX12_init_512 := AL.of (m := 20) (by decide +kernel)
theorem dX12_init_514 : decode cX12_init 514 = .ok (.lastore, 1) := o80 ac_cX12_init_512 2 rfl
theorem dX12_init_515 : decode cX12_init 515 = .ok (.aload_n 0, 1) := o42 ac_cX12_init_512 3 rfl
theorem dX12_init_516 : decode cX12_init 516 = .ok (.getfield 34, 3) := o180 ac_cX12_init_512 4 0 34 rfl
theorem dX12_init_519 : decode cX12_init 519 = .ok (.bipush 8, 2) := o16p ac_cX12_init_512 7 8 rfl rfl
theorem dX12_init_521 : decode cX12_init 521 = .ok (.bipush 105, 2) := o16p ac_cX12_init_512 9 105 rfl rfl
theorem dX12_init_523 : decode cX12_init 523 = .ok (.bipush 102, 2) := o16p ac_cX12_init_512 11 102 rfl rfl
theorem dX12_init_525 : decode cX12_init 525 = .ok (.iconst 0, 1) := o3 ac_cX12_init_512 13 rfl
theorem dX12_init_526 : decode cX12_init 526 = .ok (.iconst 0, 1) := o3 ac_cX12_init_512 14 rfl
theorem dX12_init_527 : decode cX12_init 527 = .ok (.iconst 0, 1) := o3 ac_cX12_init_512 15 rfl
def kb_cX12_init_528 : List Nat := [3, 3, 184, 0, 144, 80, 42, 180, 0, 34, 16, 9, 16, 116, 16, 104, 16, 101, 16, 110]
theorem ac_cX12_init_528 : AL cX12_init 528 kb_cX12_init_528 := AL.of (m := 20) (by decide +kernel)
theorem dX12_init_528 : decode cX12_init 528 = .ok (.iconst 0, 1) := o3 ac_cX12_init_528 0 rfl
theorem dX12_init_529 : decode cX12_init 529 = .ok (.iconst 0, 1) := o3 ac_cX12_init_528 1 rfl
theorem dX12_init_530 : decode cX12_init 530 = .ok (.invokestatic 144, 3) := o184 ac_cX12_init_528 2 0 144 rfl
theorem dX12_init_533 : decode cX12_init 533 = .ok (.lastore, 1) := o80 ac_cX12_init_528 5 rfl
theorem dX12_init_534 : decode cX12_init 534 = .ok (.aload_n 0, 1) := o42 ac_cX12_init_528 6 rfl
theorem dX12_init_535 : decode cX12_init 535 = .ok (.getfield 34, 3) := o180 ac_cX12_init_528 7 0 34 rfl
theorem dX12_init_538 : decode cX12_init 538 = .ok (.bipush 9, 2) := o16p ac_cX12_init_528 10 9 rfl rfl
theorem dX12_init_540 : decode cX12_init 540 = .ok (.bipush 116, 2) := o16p ac_cX12_init_528 12 116 rfl rfl
theorem dX12_init_542 : decode cX12_init 542 = .ok (.bipush 104, 2) := o16p ac_cX12_init_528 14 104 rfl rfl
def kb_cX12_init_544 : List Nat := [16, 101, 16, 110, 3, 3, 3, 184, 0, 144, 80, 42, 180, 0, 34, 16, 10, 16, 101, 16]
theorem ac_cX12_init_544 : AL cX12_init 544 kb_cX12_init_544 := AL.of (m := 20) (by decide +kernel)
theorem dX12_init_544 : decode cX12_init 544 = .ok (.bipush 101, 2) := o16p ac_cX12_init_544 0 101 rfl rfl
theorem dX12_init_546 : decode cX12_init 546 = .ok (.bipush 110, 2) := o16p ac_cX12_init_544 2 110 rfl rfl
theorem dX12_init_548 : decode cX12_init 548 = .ok (.iconst 0, 1) := o3 ac_cX12_init_544 4 rfl
theorem dX12_init_549 : decode cX12_init 549 = .ok (.iconst 0, 1) := o3 ac_cX12_init_544 5 rfl
theorem dX12_init_550 : decode cX12_init 550 = .ok (.iconst 0, 1) := o3 ac_cX12_init_544 6 rfl
theorem dX12_init_551 : decode cX12_init 551 = .ok (.invokestatic 144, 3) := o184 ac_cX12_init_544 7 0 144 rfl
theorem dX12_init_554 : decode cX12_init 554 = .ok (.lastore, 1) := o80 ac_cX12_init_544 10 rfl
theorem dX12_init_555 : decode cX12_init 555 = .ok (.aload_n 0, 1) := o42 ac_cX12_init_544 11 rfl
theorem dX12_init_556 : decode cX12_init 556 = .ok (.getfield 34, 3) := o180 ac_cX12_init_544 12 0 34 rfl
theorem dX12_init_559 : decode cX12_init 559 = .ok (.bipush 10, 2) := o16p ac_cX12_init_544 15 10 rfl rfl
def kb_cX12_init_560 : List Nat := [10, 16, 101, 16, 108, 16, 115, 16, 101, 3, 3, 3, 184, 0, 144, 80, 42, 180, 0, 34]
theorem ac_cX12_init_560 : AL cX12_init 560 kb_cX12_init_560 := AL.of (m := 20) (by decide +kernel)
theorem dX12_init_561 : decode cX12_init 561 = .ok (.bipush 101, 2) := o16p ac_cX12_init_560 1 101 rfl rfl
theorem dX12_init_563 : decode cX12_init 563 = .ok (.bipush 108, 2) := o16p ac_cX12_init_560 3 108 rfl rfl
theorem dX12_init_565 : decode cX12_init 565 = .ok (.bipush 115, 2) := o16p ac_cX12_init_560 5 115 rfl rfl
theorem dX12_init_567 : decode cX12_init 567 = .ok (.bipush 101, 2) := o16p ac_cX12_init_560 7 101 rfl rfl
theorem dX12_init_569 : decode cX12_init 569 = .ok (.iconst 0, 1) := o3 ac_cX12_init_560 9 rfl
theorem dX12_init_570 : decode cX12_init 570 = .ok (.iconst 0, 1) := o3 ac_cX12_init_560 10 rfl
theorem dX12_init_571 : decode cX12_init 571 = .ok (.iconst 0, 1) := o3 ac_cX12_init_560 11 rfl
theorem dX12_init_572 : decode cX12_init 572 = .ok (.invokestatic 144, 3) := o184 ac_cX12_init_560 12 0 144 rfl
theorem dX12_init_575 : decode cX12_init 575 = .ok (.lastore, 1) := o80 ac_cX12_init_560 15 rfl

def kb_cX12_init_576 : List Nat := [42, 180, 0, 34, 16, 11, 16, 119, 16, 101, 16, 105, 16, 103, 16, 104, 16, 116, 3, 184]
theorem ac_cX12_init_576 : AL cX12_init 576 kb_cX12_init_576 := AL.of (m := 20) (by decide +kernel)
theorem dX12_init_576 : decode cX12_init 576 = .ok (.aload_n 0, 1) := o42 ac_cX12_init_576 0 rfl
theorem dX12_init_577 : decode cX12_init 577 = .ok (.getfield 34, 3) := o180 ac_cX12_init_576 1 0 34 rfl
theorem dX12_init_580 : decode cX12_init 580 = .ok (.bipush 11, 2) := o16p ac_cX12_init_576 4 11 rfl rfl
theorem dX12_init_582 : decode cX12_init 582 = .ok (.bipush 119, 2) := o16p ac_cX12_init_576 6 119 rfl rfl
theorem dX12_init_584 : decode cX12_init 584 = .ok (.bipush 101, 2) := o16p ac_cX12_init_576 8 101 rfl rfl
theorem dX12_init_586 : decode cX12_init 586 = .ok (.bipush 105, 2) := o16p ac_cX12_init_576 10 105 rfl rfl
theorem dX12_init_588 : decode cX12_init 588 = .ok (.bipush 103, 2) := o16p ac_cX12_init_576 12 103 rfl rfl
theorem dX12_init_590 : decode cX12_init 590 = .ok (.bipush 104, 2) := o16p ac_cX12_init_576 14 104 rfl rfl
def kb_cX12_init_592 : List Nat := [16, 116, 3, 184, 0, 144, 80, 42, 180, 0, 34, 16, 12, 16, 101, 16, 100, 16, 103, 16]
theorem ac_cX12_init_592 : AL cX12_init 592 kb_cX12_init_592 := AL.of (m := 20) (by decide +kernel)
theorem dX12_init_592 : decode cX12_init 592 = .ok (.bipush 116, 2) := o16p ac_cX12_init_592 0 116 rfl rfl
theorem dX12_init_594 : decode cX12_init 594 = .ok (.iconst 0, 1) := o3 ac_cX12_init_592 2 rfl
theorem dX12_init_595 : decode cX12_init 595 = .ok (.invokestatic 144, 3) := o184 ac_cX12_init_592 3 0 144 rfl
theorem dX12_init_598 : decode cX12_init 598 = .ok (.lastore, 1) := o80 ac_cX12_init_592 6 rfl
theorem dX12_init_599 : decode cX12_init 599 = .ok (.aload_n 0, 1) := o42 ac_cX12_init_592 7 rfl
theorem dX12_init_600 : decode cX12_init 600 = .ok (.getfield 34, 3) := o180 ac_cX12_init_592 8 0 34 rfl
theorem dX12_init_603 : decode cX12_init 603 = .ok (.bipush 12, 2) := o16p ac_cX12_init_592 11 12 rfl rfl
theorem dX12_init_605 : decode cX12_init 605 = .ok (.bipush 101, 2) := o16p ac_cX12_init_592 13 101 rfl rfl
theorem dX12_init_607 : decode cX12_init 607 = .ok (.bipush 100, 2) := o16p ac_cX12_init_592 15 100 rfl rfl
def kb_cX12_init_608 : List Nat := [100, 16, 103, 16, 101, 3, 3, 3, 184, 0, 144, 80, 42, 180, 0, 34, 16, 13, 16, 104]
theorem ac_cX12_init_608 : AL cX12_init 608 kb_cX12_init_608 := AL.of (m := 20) (by decide +kernel)
theorem dX12_init_609 : decode cX12_init 609 = .ok (.bipush 103, 2) := o16p ac_cX12_init_608 1 103 rfl rfl
theorem dX12_init_611 : decode cX12_init 611 = .ok (.bipush 101, 2) := o16p ac_cX12_init_608 3 101 rfl rfl
theorem dX12_init_613 : decode cX12_init 613 = .ok (.iconst 0, 1) := o3 ac_cX12_init_608 5 rfl
theorem dX12_init_614 : decode cX12_init 614 = .ok (.iconst 0, 1) := o3 ac_cX12_init_608 6 rfl
theorem dX12_init_615 : decode cX12_init 615 = .ok (.iconst 0, 1) := o3 ac_cX12_init_608 7 rfl
theorem dX12_init_616 : decode cX12_init 616 = .ok (.invokestatic 144, 3) := o184 ac_cX12_init_608 8 0 144 rfl
theorem dX12_init_619 : decode cX12_init 619 = .ok (.lastore, 1) := o80 ac_cX12_init_608 11 rfl
theorem dX12_init_620 : decode cX12_init 620 = .ok (.aload_n 0, 1) := o42 ac_cX12_init_608 12 rfl
theorem dX12_init_621 : decode cX12_init 621 = .ok (.getfield 34, 3) := o180 ac_cX12_init_608 13 0 34 rfl
def kb_cX12_init_624 : List Nat := [16, 13, 16, 104, 16, 101, 16, 105, 16, 103, 16, 104, 16, 116, 3, 184, 0, 144, 80, 42]
theorem ac_cX12_init_624 : AL cX12_init 624 kb_cX12_init_624 := AL.of (m := 20) (by decide +kernel)
theorem dX12_init_624 : decode cX12_init 624 = .ok (.bipush 13, 2) := o16p ac_cX12_init_624 0 13 rfl rfl
theorem dX12_init_626 : decode cX12_init 626 = .ok (.bipush 104, 2) := o16p ac_cX12_init_624 2 104 rfl rfl
theorem dX12_init_628 : decode cX12_init 628 = .ok (.bipush 101, 2) := o16p ac_cX12_init_624 4 101 rfl rfl
theorem dX12_init_630 : decode cX12_init 630 = .ok (.bipush 105, 2) := o16p ac_cX12_init_624 6 105 rfl rfl
theorem dX12_init_632 : decode cX12_init 632 = .ok (.bipush 103, 2) := o16p ac_cX12_init_624 8 103 rfl rfl
theorem dX12_init_634 : decode cX12_init 634 = .ok (.bipush 104, 2) := o16p ac_cX12_init_624 10 104 rfl rfl
theorem dX12_init_636 : decode cX12_init 636 = .ok (.bipush 116, 2) := o16p ac_cX12_init_624 12 116 rfl rfl
theorem dX12_init_638 : decode cX12_init 638 = .ok (.iconst 0, 1) := o3 ac_cX12_init_624 14 rfl
theorem dX12_init_639 : decode cX12_init 639 = .ok (.invokestatic 144, 3) := o184 ac_cX12_init_624 15 0 144 rfl
def kb_cX12_init_640 : List Nat := [0, 144, 80, 42, 180, 0, 34, 16, 14, 16, 98, 16, 101, 16, 97, 16, 116, 3, 3, 3]
theorem ac_cX12_init_640 : AL cX12_init 640 kb_cX12_init_640 := AL.of (m := 20) (by decide +kernel)
theorem dX12_init_642 : decode cX12_init 642 = .ok (.lastore, 1) := o80 ac_cX12_init_640 2 rfl
theorem dX12_init_643 : decode cX12_init 643 = .ok (.aload_n 0, 1) := o42 ac_cX12_init_640 3 rfl
theorem dX12_init_644 : decode cX12_init 644 = .ok (.getfield 34, 3) := o180 ac_cX12_init_640 4 0 34 rfl
theorem dX12_init_647 : decode cX12_init 647 = .ok (.bipush 14, 2) := o16p ac_cX12_init_640 7 14 rfl rfl
theorem dX12_init_649 : decode cX12_init 649 = .ok (.bipush 98, 2) := o16p ac_cX12_init_640 9 98 rfl rfl
theorem dX12_init_651 : decode cX12_init 651 = .ok (.bipush 101, 2) := o16p ac_cX12_init_640 11 101 rfl rfl
theorem dX12_init_653 : decode cX12_init 653 = .ok (.bipush 97, 2) := o16p ac_cX12_init_640 13 97 rfl rfl
theorem dX12_init_655 : decode cX12_init 655 = .ok (.bipush 116, 2) := o16p ac_cX12_init_640 15 116 rfl rfl
def kb_cX12_init_656 : List Nat := [116, 3, 3, 3, 184, 0, 144, 80, 42, 180, 0, 34, 16, 15, 16, 116, 16, 105, 16, 114]
theorem ac_cX12_init_656 : AL cX12_init 656 kb_cX12_init_656 := AL.of (m := 20) (by decide +kernel)
theorem dX12_init_657 : decode cX12_init 657 = .ok (.iconst 0, 1) := o3 ac_cX12_init_656 1 rfl
theorem dX12_init_658 : decode cX12_init 658 = .ok (.iconst 0, 1) := o3 ac_cX12_init_656 2 rfl
theorem dX12_init_659 : decode cX12_init 659 = .ok (.iconst 0, 1) := o3 ac_cX12_init_656 3 rfl
theorem dX12_init_660 : decode cX12_init 660 = .ok (.invokestatic 144, 3) := o184 ac_cX12_init_656 4 0 144 rfl
theorem dX12_init_663 : decode cX12_init 663 = .ok (.lastore, 1) := o80 ac_cX12_init_656 7 rfl
theorem dX12_init_664 : decode cX12_init 664 = .ok (.aload_n 0, 1) := o42 ac_cX12_init_656 8 rfl
theorem dX12_init_665 : decode cX12_init 665 = .ok (.getfield 34, 3) := o180 ac_cX12_init_656 9 0 34 rfl
theorem dX12_init_668 : decode cX12_init 668 = .ok (.bipush 15, 2) := o16p ac_cX12_init_656 12 15 rfl rfl
theorem dX12_init_670 : decode cX12_init 670 = .ok (.bipush 116, 2) := o16p ac_cX12_init_656 14 116 rfl rfl
def kb_cX12_init_672 : List Nat := [16, 105, 16, 114, 16, 101, 16, 100, 3, 3, 184, 0, 144, 80, 42, 180, 0, 34, 16, 16]
theorem ac_cX12_init_672 : AL cX12_init 672 kb_cX12_init_672 := AL.of (m := 20) (by decide +kernel)
theorem dX12_init_672 : decode cX12_init 672 = .ok (.bipush 105, 2) := o16p ac_cX12_init_672 0 105 rfl rfl
theorem dX12_init_674 : decode cX12_init 674 = .ok (.bipush 114, 2) := o16p ac_cX12_init_672 2 114 rfl rfl
theorem dX12_init_676 : decode cX12_init 676 = .ok (.bipush 101, 2) := o16p ac_cX12_init_672 4 101 rfl rfl
theorem dX12_init_678 : decode cX12_init 678 = .ok (.bipush 100, 2) := o16p ac_cX12_init_672 6 100 rfl rfl
theorem dX12_init_680 : decode cX12_init 680 = .ok (.iconst 0, 1) := o3 ac_cX12_init_672 8 rfl
theorem dX12_init_681 : decode cX12_init 681 = .ok (.iconst 0, 1) := o3 ac_cX12_init_672 9 rfl
theorem dX12_init_682 : decode cX12_init 682 = .ok (.invokestatic 144, 3) := o184 ac_cX12_init_672 10 0 144 rfl
theorem dX12_init_685 : decode cX12_init 685 = .ok (.lastore, 1) := o80 ac_cX12_init_672 13 rfl
theorem dX12_init_686 : decode cX12_init 686 = .ok (.aload_n 0, 1) := o42 ac_cX12_init_672 14 rfl
theorem dX12_init_687 : decode cX12_init 687 = .ok (.getfield 34, 3) := o180 ac_cX12_init_672 15 0 34 rfl
def kb_cX12_init_688 : List Nat := [0, 34, 16, 16, 16, 117, 16, 112, 3, 3, 3, 3, 3, 184, 0, 144, 80, 42, 180, 0]
theorem ac_cX12_init_688 : AL cX12_init 688 kb_cX12_init_688 := AL.of (m := 20) (by decide +kernel)
theorem dX12_init_690 : decode cX12_init 690 = .ok (.bipush 16, 2) := o16p ac_cX12_init_688 2 16 rfl rfl
theorem dX12_init_692 : decode cX12_init 692 = .ok (.bipush 117, 2) := o16p ac_cX12_init_688 4 117 rfl rfl
theorem dX12_init_694 : decode cX12_init 694 = .ok (.bipush 112, 2) := o16p ac_cX12_init_688 6 112 rfl rfl
theorem dX12_init_696 : decode cX12_init 696 = .ok (.iconst 0, 1) := o3 ac_cX12_init_688 8 rfl
theorem dX12_init_697 : decode cX12_init 697 = .ok (.iconst 0, 1) := o3 ac_cX12_init_688 9 rfl
theorem dX12_init_698 : decode cX12_init 698 = .ok (.iconst 0, 1) := o3 ac_cX12_init_688 10 rfl
theorem dX12_init_699 : decode cX12_init 699 = .ok (.iconst 0, 1) := o3 ac_cX12_init_688 11 rfl
theorem dX12_init_700 : decode cX12_init 700 = .ok (.iconst 0, 1) := o3 ac_cX12_init_688 12 rfl
theorem dX12_init_701 : decode cX12_init 701 = .ok (.invokestatic 144, 3) := o184 ac_cX12_init_688 13 0 144 rfl
def kb_cX12_init_704 : List Nat := [80, 42, 180, 0, 34, 16, 17, 16, 119, 16, 104, 16, 105, 16, 99, 16, 104, 3, 3, 184]
theorem ac_cX12_init_704 : AL cX12_init 704 kb_cX12_init_704 := AL.of (m := 20) (by decide +kernel)
theorem dX12_init_704 : decode cX12_init 704 = .ok (.lastore, 1) := o80 ac_cX12_init_704 0 rfl
theorem dX12_init_705 : decode cX12_init 705 = .ok (.aload_n 0, 1) := o42 ac_cX12_init_704 1 rfl
theorem dX12_init_706 : decode cX12_init 706 = .ok (.getfield 34, 3) := o180 ac_cX12_init_704 2 0 34 rfl
theorem dX12_init_709 : decode cX12_init 709 = .ok (.bipush 17, 2) := o16p ac_cX12_init_704 5 17 rfl rfl
theorem dX12_init_711 : decode cX12_init 711 = .ok (.bipush 119, 2) := o16p ac_cX12_init_704 7 119 rfl rfl
theorem dX12_init_713 : decode cX12_init 713 = .ok (.bipush 104, 2) := o16p ac_cX12_init_704 9 104 rfl rfl
theorem dX12_init_715 : decode cX12_init 715 = .ok (.bipush 105, 2) := o16p ac_cX12_init_704 11 105 rfl rfl
theorem dX12_init_717 : decode cX12_init 717 = .ok (.bipush 99, 2) := o16p ac_cX12_init_704 13 99 rfl rfl
theorem dX12_init_719 : decode cX12_init 719 = .ok (.bipush 104, 2) := o16p ac_cX12_init_704 15 104 rfl rfl
def kb_cX12_init_720 : List Nat := [104, 3, 3, 184, 0, 144, 80, 42, 180, 0, 34, 16, 18, 16, 99, 16, 97, 16, 117, 16]
theorem ac_cX12_init_720 : AL cX12_init 720 kb_cX12_init_720 := AL.of (m := 20) (by decide +kernel)
theorem dX12_init_721 : decode cX12_init 721 = .ok (.iconst 0, 1) := o3 ac_cX12_init_720 1 rfl
theorem dX12_init_722 : decode cX12_init 722 = .ok (.iconst 0, 1) := o3 ac_cX12_init_720 2 rfl
theorem dX12_init_723 : decode cX12_init 723 = .ok (.invokestatic 144, 3) := o184 ac_cX12_init_720 3 0 144 rfl
theorem dX12_init_726 : decode cX12_init 726 = .ok (.lastore, 1) := o80 ac_cX12_init_720 6 rfl
theorem dX12_init_727 : decode cX12_init 727 = .ok (.aload_n 0, 1) := o42 ac_cX12_init_720 7 rfl
theorem dX12_init_728 : decode cX12_init 728 = .ok (.getfield 34, 3) := o180 ac_cX12_init_720 8 0 34 rfl
theorem dX12_init_731 : decode cX12_init 731 = .ok (.bipush 18, 2) := o16p ac_cX12_init_720 11 18 rfl rfl
theorem dX12_init_733 : decode cX12_init 733 = .ok (.bipush 99, 2) := o16p ac_cX12_init_720 13 99 rfl rfl
theorem dX12_init_735 : decode cX12_init 735 = .ok (.bipush 97, 2) := o16p ac_cX12_init_720 15 97 rfl rfl
def kb_cX12_init_736 : List Nat := [97, 16, 117, 16, 103, 16, 104, 16, 116, 3, 184, 0, 144, 80, 42, 180, 0, 34, 16, 19]
theorem ac_cX12_init_736 : AL cX12_init 736 kb_cX12_init_736 := AL.of (m := 20) (by decide +kernel)
theorem dX12_init_737 : decode cX12_init 737 = .ok (.bipush 117, 2) := o16p ac_cX12_init_736 1 117 rfl rfl
theorem dX12_init_739 : decode cX12_init 739 = .ok (.bipush 103, 2) := o16p ac_cX12_init_736 3 103 rfl rfl
theorem dX12_init_741 : decode cX12_init 741 = .ok (.bipush 104, 2) := o16p ac_cX12_init_736 5 104 rfl rfl
theorem dX12_init_743 : decode cX12_init 743 = .ok (.bipush 116, 2) := o16p ac_cX12_init_736 7 116 rfl rfl
theorem dX12_init_745 : decode cX12_init 745 = .ok (.iconst 0, 1) := o3 ac_cX12_init_736 9 rfl
theorem dX12_init_746 : decode cX12_init 746 = .ok (.invokestatic 144, 3) := o184 ac_cX12_init_736 10 0 144 rfl
theorem dX12_init_749 : decode cX12_init 749 = .ok (.lastore, 1) := o80 ac_cX12_init_736 13 rfl
theorem dX12_init_750 : decode cX12_init 750 = .ok (.aload_n 0, 1) := o42 ac_cX12_init_736 14 rfl
theorem dX12_init_751 : decode cX12_init 751 = .ok (.getfield 34, 3) := o180 ac_cX12_init_736 15 0 34 rfl
def kb_cX12_init_752 : List Nat := [0, 34, 16, 19, 16, 104, 16, 97, 16, 110, 16, 100, 3, 3, 3, 184, 0, 144, 80, 42]
theorem ac_cX12_init_752 : AL cX12_init 752 kb_cX12_init_752 := AL.of (m := 20) (by decide +kernel)
theorem dX12_init_754 : decode cX12_init 754 = .ok (.bipush 19, 2) := o16p ac_cX12_init_752 2 19 rfl rfl
theorem dX12_init_756 : decode cX12_init 756 = .ok (.bipush 104, 2) := o16p ac_cX12_init_752 4 104 rfl rfl

theorem dX12_init_758 : decode cX12_init 758 = .ok (.bipush 97, 2) := o16p ac_cX12_init_752 6 97 rfl rfl
theorem dX12_init_760 : decode cX12_init 760 = .ok (.bipush 110, 2) := o16p ac_cX12_init_752 8 110 rfl rfl
theorem dX12_init_762 : decode cX12_init 762 = .ok (.bipush 100, 2) := o16p ac_cX12_init_752 10 100 rfl rfl
theorem dX12_init_764 : decode cX12_init 764 = .ok (.iconst 0, 1) := o3 ac_cX12_init_752 12 rfl
theorem dX12_init_765 : decode cX12_init 765 = .ok (.iconst 0, 1) := o3 ac_cX12_init_752 13 rfl
theorem dX12_init_766 : decode cX12_init 766 = .ok (.iconst 0, 1) := o3 ac_cX12_init_752 14 rfl
theorem dX12_init_767 : decode cX12_init 767 = .ok (.invokestatic 144, 3) := o184 ac_cX12_init_752 15 0 144 rfl
def kb_cX12_init_768 : List Nat := [0, 144, 80, 42, 182, 0, 148, 42, 182, 0, 151, 177]
theorem ac_cX12_init_768 : AL cX12_init 768 kb_cX12_init_768 := AL.of (m := 12) (by decide +kernel)
theorem dX12_init_770 : decode cX12_init 770 = .ok (.lastore, 1) := o80 ac_cX12_init_768 2 rfl
theorem dX12_init_771 : decode cX12_init 771 = .ok (.aload_n 0, 1) := o42 ac_cX12_init_768 3 rfl
theorem dX12_init_772 : decode cX12_init 772 = .ok (.invokevirtual 148, 3) := o182 ac_cX12_init_768 4 0 148 rfl
theorem dX12_init_775 : decode cX12_init 775 = .ok (.aload_n 0, 1) := o42 ac_cX12_init_768 7 rfl
theorem dX12_init_776 : decode cX12_init 776 = .ok (.invokevirtual 151, 3) := o182 ac_cX12_init_768 8 0 151 rfl
theorem dX12_init_779 : decode cX12_init 779 = .ok (.return_, 1) := o177 ac_cX12_init_768 11 rfl

def idM : List Nat := [236, 237, 238, 239, 240, 241, 242, 243, 244, 245, 246, 247, 248, 249, 250, 251, 252, 253, 254, 255, 256, 257, 258, 259, 260, 261, 262, 263, 264, 265, 266, 267, 268, 269, 270, 271, 272, 273, 274, 275, 276]
theorem idM_in : ∀ i, 236 ≤ i ∧ i < 277 → i ∈ idM := by
  have h : ∀ k, k < 41 → 236 + k ∈ idM := by decide +kernel
  intro i hi
  have := h (i - 236) (by omega)
  rwa [show 236 + (i - 236) = i by omega] at this
set_option maxHeartbeats 40000000 in
set_option maxRecDepth 100000 in
theorem m_tail {Γ : GT} {ad : Nat → Nat} {ca : Nat → ClassId} {l0 : Launch} {D0 : va_G} (C : CT idM ad ca Γ cX12_init yX12_init.cls l0 D0 2 48 1) (Rt : RV idM ad ca Γ cX12_init (fun σ => agree idM σ s0)) : AW idM ad ca Γ 340 [some (.ref (ad 236))] [] (hI (fun _ _ => 0, fun _ _ => 0, fun _ => 0) 236 17 (-1)) := by
  have hid := idM_in
  show AW idM ad ca _ 340 [some (.ref (ad 236))] [] _
  refine a_aload_n C dX12_init_340 (i := 0) rfl rfl ?_
  refine a_iconst C dX12_init_341 (v := 0) rfl ?_
  refine a_callVv C (i := 236) kd_236 (hid 236 (by decide)) ⟨_, _, rfl⟩ (by decide) (i_plain hid) mi_X12_plain ml_RX12_140 rfl rfl (Nat.le_of_ble_eq_true rfl) (Nat.le_of_ble_eq_true rfl) (Nat.le_of_ble_eq_true rfl) dX12_init_342 (fun σ2 q3 => ?_)
  subst q3
  refine a_aload_n C dX12_init_345 (i := 0) rfl rfl ?_
  refine a_get C fl_RX12_34 (i := 236) kd_236 (hid 236 (by decide)) (v := .ref (ad 243)) rfl dX12_init_346 ?_
  refine a_iconst C dX12_init_349 (v := 0) rfl ?_
  refine a_bipush C dX12_init_350 (v := 116) rfl ?_
  refine a_bipush C dX12_init_352 (v := 104) rfl ?_
  refine a_bipush C dX12_init_354 (v := 105) rfl ?_
  refine a_bipush C dX12_init_356 (v := 110) rfl ?_
  refine a_bipush C dX12_init_358 (v := 103) rfl ?_
  refine a_iconst C dX12_init_360 (v := 0) rfl ?_
  refine a_iconst C dX12_init_361 (v := 0) rfl ?_
  refine a_callSl C (i_word_0 hid) ms_X12_word ml_RX12_144 rfl rfl (Nat.le_of_ble_eq_true rfl) (Nat.le_of_ble_eq_true rfl) (Nat.le_of_ble_eq_true rfl) dX12_init_362 (fun r4 σ5 q6 => ?_)
  obtain ⟨rfl, q6⟩ := q6
  rw [q6]
  refine a_last C (i := 243) 0 kd_243 (hid 243 (by decide)) (by decide) rfl (by rw [al_243]; decide) dX12_init_365 ?_
  refine a_aload_n C dX12_init_366 (i := 0) rfl rfl ?_
  refine a_get C fl_RX12_34 (i := 236) kd_236 (hid 236 (by decide)) (v := .ref (ad 243)) rfl dX12_init_367 ?_
  refine a_iconst C dX12_init_370 (v := 1) rfl ?_
  refine a_bipush C dX12_init_371 (v := 112) rfl ?_
  refine a_bipush C dX12_init_373 (v := 97) rfl ?_
  refine a_bipush C dX12_init_375 (v := 116) rfl ?_
  refine a_bipush C dX12_init_377 (v := 116) rfl ?_
  refine a_bipush C dX12_init_379 (v := 101) rfl ?_
  refine a_bipush C dX12_init_381 (v := 114) rfl ?_
  refine a_bipush C dX12_init_383 (v := 110) rfl ?_
  refine a_callSl C (i_word_1 hid) ms_X12_word ml_RX12_144 rfl rfl (Nat.le_of_ble_eq_true rfl) (Nat.le_of_ble_eq_true rfl) (Nat.le_of_ble_eq_true rfl) dX12_init_385 (fun r7 σ8 q9 => ?_)
  obtain ⟨rfl, q9⟩ := q9
  rw [q9]
  refine a_last C (i := 243) 1 kd_243 (hid 243 (by decide)) (by decide) rfl (by rw [al_243]; decide) dX12_init_388 ?_
  refine a_aload_n C dX12_init_389 (i := 0) rfl rfl ?_
  refine a_get C fl_RX12_34 (i := 236) kd_236 (hid 236 (by decide)) (v := .ref (ad 243)) rfl dX12_init_390 ?_
  refine a_iconst C dX12_init_393 (v := 2) rfl ?_
  refine a_bipush C dX12_init_394 (v := 116) rfl ?_
  refine a_bipush C dX12_init_396 (v := 105) rfl ?_
  refine a_bipush C dX12_init_398 (v := 114) rfl ?_
  refine a_bipush C dX12_init_400 (v := 101) rfl ?_
  refine a_bipush C dX12_init_402 (v := 115) rfl ?_
  refine a_iconst C dX12_init_404 (v := 0) rfl ?_
  refine a_iconst C dX12_init_405 (v := 0) rfl ?_
  refine a_callSl C (i_word_2 hid) ms_X12_word ml_RX12_144 rfl rfl (Nat.le_of_ble_eq_true rfl) (Nat.le_of_ble_eq_true rfl) (Nat.le_of_ble_eq_true rfl) dX12_init_406 (fun r10 σ11 q12 => ?_)
  obtain ⟨rfl, q12⟩ := q12
  rw [q12]
  refine a_last C (i := 243) 2 kd_243 (hid 243 (by decide)) (by decide) rfl (by rw [al_243]; decide) dX12_init_409 ?_
  refine a_aload_n C dX12_init_410 (i := 0) rfl rfl ?_
  refine a_get C fl_RX12_34 (i := 236) kd_236 (hid 236 (by decide)) (v := .ref (ad 243)) rfl dX12_init_411 ?_
  refine a_iconst C dX12_init_414 (v := 3) rfl ?_
  refine a_bipush C dX12_init_415 (v := 100) rfl ?_
  refine a_bipush C dX12_init_417 (v := 114) rfl ?_
  refine a_bipush C dX12_init_419 (v := 111) rfl ?_
  refine a_bipush C dX12_init_421 (v := 112) rfl ?_
  refine a_bipush C dX12_init_423 (v := 115) rfl ?_
  refine a_iconst C dX12_init_425 (v := 0) rfl ?_
  refine a_iconst C dX12_init_426 (v := 0) rfl ?_
  refine a_callSl C (i_word_3 hid) ms_X12_word ml_RX12_144 rfl rfl (Nat.le_of_ble_eq_true rfl) (Nat.le_of_ble_eq_true rfl) (Nat.le_of_ble_eq_true rfl) dX12_init_427 (fun r13 σ14 q15 => ?_)
  obtain ⟨rfl, q15⟩ := q15
  rw [q15]
  refine a_last C (i := 243) 3 kd_243 (hid 243 (by decide)) (by decide) rfl (by rw [al_243]; decide) dX12_init_430 ?_
  refine a_aload_n C dX12_init_431 (i := 0) rfl rfl ?_
  refine a_get C fl_RX12_34 (i := 236) kd_236 (hid 236 (by decide)) (v := .ref (ad 243)) rfl dX12_init_432 ?_
  refine a_iconst C dX12_init_435 (v := 4) rfl ?_
  refine a_bipush C dX12_init_436 (v := 102) rfl ?_
  refine a_bipush C dX12_init_438 (v := 111) rfl ?_
  refine a_bipush C dX12_init_440 (v := 114) rfl ?_
  refine a_bipush C dX12_init_442 (v := 99) rfl ?_
  refine a_bipush C dX12_init_444 (v := 101) rfl ?_
  refine a_iconst C dX12_init_446 (v := 0) rfl ?_
  refine a_iconst C dX12_init_447 (v := 0) rfl ?_
  refine a_callSl C (i_word_4 hid) ms_X12_word ml_RX12_144 rfl rfl (Nat.le_of_ble_eq_true rfl) (Nat.le_of_ble_eq_true rfl) (Nat.le_of_ble_eq_true rfl) dX12_init_448 (fun r16 σ17 q18 => ?_)
  obtain ⟨rfl, q18⟩ := q18
  rw [q18]
  refine a_last C (i := 243) 4 kd_243 (hid 243 (by decide)) (by decide) rfl (by rw [al_243]; decide) dX12_init_451 ?_
  refine a_aload_n C dX12_init_452 (i := 0) rfl rfl ?_
  refine a_get C fl_RX12_34 (i := 236) kd_236 (hid 236 (by decide)) (v := .ref (ad 243)) rfl dX12_init_453 ?_
  refine a_iconst C dX12_init_456 (v := 5) rfl ?_
  refine a_bipush C dX12_init_457 (v := 112) rfl ?_
  refine a_bipush C dX12_init_459 (v := 97) rfl ?_
  refine a_bipush C dX12_init_461 (v := 121) rfl ?_
  refine a_bipush C dX12_init_463 (v := 115) rfl ?_
  refine a_iconst C dX12_init_465 (v := 0) rfl ?_
  refine a_iconst C dX12_init_466 (v := 0) rfl ?_
  refine a_iconst C dX12_init_467 (v := 0) rfl ?_
  refine a_callSl C (i_word_5 hid) ms_X12_word ml_RX12_144 rfl rfl (Nat.le_of_ble_eq_true rfl) (Nat.le_of_ble_eq_true rfl) (Nat.le_of_ble_eq_true rfl) dX12_init_468 (fun r19 σ20 q21 => ?_)
  obtain ⟨rfl, q21⟩ := q21
  rw [q21]
  refine a_last C (i := 243) 5 kd_243 (hid 243 (by decide)) (by decide) rfl (by rw [al_243]; decide) dX12_init_471 ?_
  refine a_aload_n C dX12_init_472 (i := 0) rfl rfl ?_
  refine a_get C fl_RX12_34 (i := 236) kd_236 (hid 236 (by decide)) (v := .ref (ad 243)) rfl dX12_init_473 ?_
  refine a_bipush C dX12_init_476 (v := 6) rfl ?_
  refine a_bipush C dX12_init_478 (v := 114) rfl ?_
  refine a_bipush C dX12_init_480 (v := 101) rfl ?_
  refine a_bipush C dX12_init_482 (v := 115) rfl ?_
  refine a_bipush C dX12_init_484 (v := 116) rfl ?_
  refine a_bipush C dX12_init_486 (v := 115) rfl ?_
  refine a_iconst C dX12_init_488 (v := 0) rfl ?_
  refine a_iconst C dX12_init_489 (v := 0) rfl ?_
  refine a_callSl C (i_word_6 hid) ms_X12_word ml_RX12_144 rfl rfl (Nat.le_of_ble_eq_true rfl) (Nat.le_of_ble_eq_true rfl) (Nat.le_of_ble_eq_true rfl) dX12_init_490 (fun r22 σ23 q24 => ?_)
  obtain ⟨rfl, q24⟩ := q24
  rw [q24]
  refine a_last C (i := 243) 6 kd_243 (hid 243 (by decide)) (by decide) rfl (by rw [al_243]; decide) dX12_init_493 ?_
  refine a_aload_n C dX12_init_494 (i := 0) rfl rfl ?_
  refine a_get C fl_RX12_34 (i := 236) kd_236 (hid 236 (by decide)) (v := .ref (ad 243)) rfl dX12_init_495 ?_
  refine a_bipush C dX12_init_498 (v := 7) rfl ?_
  refine a_bipush C dX12_init_500 (v := 115) rfl ?_
  refine a_bipush C dX12_init_502 (v := 101) rfl ?_
  refine a_bipush C dX12_init_504 (v := 101) rfl ?_
  refine a_bipush C dX12_init_506 (v := 100) rfl ?_
  refine a_iconst C dX12_init_508 (v := 0) rfl ?_
  refine a_iconst C dX12_init_509 (v := 0) rfl ?_
  refine a_iconst C dX12_init_510 (v := 0) rfl ?_
  refine a_callSl C (i_word_7 hid) ms_X12_word ml_RX12_144 rfl rfl (Nat.le_of_ble_eq_true rfl) (Nat.le_of_ble_eq_true rfl) (Nat.le_of_ble_eq_true rfl) dX12_init_511 (fun r25 σ26 q27 => ?_)
  obtain ⟨rfl, q27⟩ := q27
  rw [q27]
  refine a_last C (i := 243) 7 kd_243 (hid 243 (by decide)) (by decide) rfl (by rw [al_243]; decide) dX12_init_514 ?_
  refine a_aload_n C dX12_init_515 (i := 0) rfl rfl ?_
  refine a_get C fl_RX12_34 (i := 236) kd_236 (hid 236 (by decide)) (v := .ref (ad 243)) rfl dX12_init_516 ?_
  refine a_bipush C dX12_init_519 (v := 8) rfl ?_
  refine a_bipush C dX12_init_521 (v := 105) rfl ?_
  refine a_bipush C dX12_init_523 (v := 102) rfl ?_
  refine a_iconst C dX12_init_525 (v := 0) rfl ?_
  refine a_iconst C dX12_init_526 (v := 0) rfl ?_
  refine a_iconst C dX12_init_527 (v := 0) rfl ?_
  refine a_iconst C dX12_init_528 (v := 0) rfl ?_
  refine a_iconst C dX12_init_529 (v := 0) rfl ?_
  refine a_callSl C (i_word_8 hid) ms_X12_word ml_RX12_144 rfl rfl (Nat.le_of_ble_eq_true rfl) (Nat.le_of_ble_eq_true rfl) (Nat.le_of_ble_eq_true rfl) dX12_init_530 (fun r28 σ29 q30 => ?_)
  obtain ⟨rfl, q30⟩ := q30
  rw [q30]
  refine a_last C (i := 243) 8 kd_243 (hid 243 (by decide)) (by decide) rfl (by rw [al_243]; decide) dX12_init_533 ?_
  refine a_aload_n C dX12_init_534 (i := 0) rfl rfl ?_
  refine a_get C fl_RX12_34 (i := 236) kd_236 (hid 236 (by decide)) (v := .ref (ad 243)) rfl dX12_init_535 ?_
  refine a_bipush C dX12_init_538 (v := 9) rfl ?_
  refine a_bipush C dX12_init_540 (v := 116) rfl ?_
  refine a_bipush C dX12_init_542 (v := 104) rfl ?_
  refine a_bipush C dX12_init_544 (v := 101) rfl ?_
  refine a_bipush C dX12_init_546 (v := 110) rfl ?_
  refine a_iconst C dX12_init_548 (v := 0) rfl ?_
  refine a_iconst C dX12_init_549 (v := 0) rfl ?_
  refine a_iconst C dX12_init_550 (v := 0) rfl ?_
  refine a_callSl C (i_word_9 hid) ms_X12_word ml_RX12_144 rfl rfl (Nat.le_of_ble_eq_true rfl) (Nat.le_of_ble_eq_true rfl) (Nat.le_of_ble_eq_true rfl) dX12_init_551 (fun r31 σ32 q33 => ?_)
  obtain ⟨rfl, q33⟩ := q33
  rw [q33]
  refine a_last C (i := 243) 9 kd_243 (hid 243 (by decide)) (by decide) rfl (by rw [al_243]; decide) dX12_init_554 ?_
  refine a_aload_n C dX12_init_555 (i := 0) rfl rfl ?_
  refine a_get C fl_RX12_34 (i := 236) kd_236 (hid 236 (by decide)) (v := .ref (ad 243)) rfl dX12_init_556 ?_
  refine a_bipush C dX12_init_559 (v := 10) rfl ?_
  refine a_bipush C dX12_init_561 (v := 101) rfl ?_
  refine a_bipush C dX12_init_563 (v := 108) rfl ?_
  refine a_bipush C dX12_init_565 (v := 115) rfl ?_
  refine a_bipush C dX12_init_567 (v := 101) rfl ?_
  refine a_iconst C dX12_init_569 (v := 0) rfl ?_
  refine a_iconst C dX12_init_570 (v := 0) rfl ?_
  refine a_iconst C dX12_init_571 (v := 0) rfl ?_
  refine a_callSl C (i_word_10 hid) ms_X12_word ml_RX12_144 rfl rfl (Nat.le_of_ble_eq_true rfl) (Nat.le_of_ble_eq_true rfl) (Nat.le_of_ble_eq_true rfl) dX12_init_572 (fun r34 σ35 q36 => ?_)
  obtain ⟨rfl, q36⟩ := q36
  rw [q36]
  refine a_last C (i := 243) 10 kd_243 (hid 243 (by decide)) (by decide) rfl (by rw [al_243]; decide) dX12_init_575 ?_
  refine a_aload_n C dX12_init_576 (i := 0) rfl rfl ?_
  refine a_get C fl_RX12_34 (i := 236) kd_236 (hid 236 (by decide)) (v := .ref (ad 243)) rfl dX12_init_577 ?_
  refine a_bipush C dX12_init_580 (v := 11) rfl ?_
  refine a_bipush C dX12_init_582 (v := 119) rfl ?_
  refine a_bipush C dX12_init_584 (v := 101) rfl ?_
  refine a_bipush C dX12_init_586 (v := 105) rfl ?_
  refine a_bipush C dX12_init_588 (v := 103) rfl ?_
  refine a_bipush C dX12_init_590 (v := 104) rfl ?_
  refine a_bipush C dX12_init_592 (v := 116) rfl ?_
  refine a_iconst C dX12_init_594 (v := 0) rfl ?_
  refine a_callSl C (i_word_11 hid) ms_X12_word ml_RX12_144 rfl rfl (Nat.le_of_ble_eq_true rfl) (Nat.le_of_ble_eq_true rfl) (Nat.le_of_ble_eq_true rfl) dX12_init_595 (fun r37 σ38 q39 => ?_)
  obtain ⟨rfl, q39⟩ := q39
  rw [q39]
  refine a_last C (i := 243) 11 kd_243 (hid 243 (by decide)) (by decide) rfl (by rw [al_243]; decide) dX12_init_598 ?_
  refine a_aload_n C dX12_init_599 (i := 0) rfl rfl ?_
  refine a_get C fl_RX12_34 (i := 236) kd_236 (hid 236 (by decide)) (v := .ref (ad 243)) rfl dX12_init_600 ?_
  refine a_bipush C dX12_init_603 (v := 12) rfl ?_
  refine a_bipush C dX12_init_605 (v := 101) rfl ?_
  refine a_bipush C dX12_init_607 (v := 100) rfl ?_
  refine a_bipush C dX12_init_609 (v := 103) rfl ?_
  refine a_bipush C dX12_init_611 (v := 101) rfl ?_
  refine a_iconst C dX12_init_613 (v := 0) rfl ?_
  refine a_iconst C dX12_init_614 (v := 0) rfl ?_
  refine a_iconst C dX12_init_615 (v := 0) rfl ?_
  refine a_callSl C (i_word_12 hid) ms_X12_word ml_RX12_144 rfl rfl (Nat.le_of_ble_eq_true rfl) (Nat.le_of_ble_eq_true rfl) (Nat.le_of_ble_eq_true rfl) dX12_init_616 (fun r40 σ41 q42 => ?_)
  obtain ⟨rfl, q42⟩ := q42
  rw [q42]
  refine a_last C (i := 243) 12 kd_243 (hid 243 (by decide)) (by decide) rfl (by rw [al_243]; decide) dX12_init_619 ?_
  refine a_aload_n C dX12_init_620 (i := 0) rfl rfl ?_
  refine a_get C fl_RX12_34 (i := 236) kd_236 (hid 236 (by decide)) (v := .ref (ad 243)) rfl dX12_init_621 ?_
  refine a_bipush C dX12_init_624 (v := 13) rfl ?_
  refine a_bipush C dX12_init_626 (v := 104) rfl ?_
  refine a_bipush C dX12_init_628 (v := 101) rfl ?_
  refine a_bipush C dX12_init_630 (v := 105) rfl ?_
  refine a_bipush C dX12_init_632 (v := 103) rfl ?_
  refine a_bipush C dX12_init_634 (v := 104) rfl ?_
  refine a_bipush C dX12_init_636 (v := 116) rfl ?_
  refine a_iconst C dX12_init_638 (v := 0) rfl ?_
  refine a_callSl C (i_word_13 hid) ms_X12_word ml_RX12_144 rfl rfl (Nat.le_of_ble_eq_true rfl) (Nat.le_of_ble_eq_true rfl) (Nat.le_of_ble_eq_true rfl) dX12_init_639 (fun r43 σ44 q45 => ?_)
  obtain ⟨rfl, q45⟩ := q45
  rw [q45]
  refine a_last C (i := 243) 13 kd_243 (hid 243 (by decide)) (by decide) rfl (by rw [al_243]; decide) dX12_init_642 ?_
  refine a_aload_n C dX12_init_643 (i := 0) rfl rfl ?_
  refine a_get C fl_RX12_34 (i := 236) kd_236 (hid 236 (by decide)) (v := .ref (ad 243)) rfl dX12_init_644 ?_
  refine a_bipush C dX12_init_647 (v := 14) rfl ?_
  refine a_bipush C dX12_init_649 (v := 98) rfl ?_
  refine a_bipush C dX12_init_651 (v := 101) rfl ?_
  refine a_bipush C dX12_init_653 (v := 97) rfl ?_
  refine a_bipush C dX12_init_655 (v := 116) rfl ?_
  refine a_iconst C dX12_init_657 (v := 0) rfl ?_
  refine a_iconst C dX12_init_658 (v := 0) rfl ?_
  refine a_iconst C dX12_init_659 (v := 0) rfl ?_
  refine a_callSl C (i_word_14 hid) ms_X12_word ml_RX12_144 rfl rfl (Nat.le_of_ble_eq_true rfl) (Nat.le_of_ble_eq_true rfl) (Nat.le_of_ble_eq_true rfl) dX12_init_660 (fun r46 σ47 q48 => ?_)
  obtain ⟨rfl, q48⟩ := q48
  rw [q48]
  refine a_last C (i := 243) 14 kd_243 (hid 243 (by decide)) (by decide) rfl (by rw [al_243]; decide) dX12_init_663 ?_
  refine a_aload_n C dX12_init_664 (i := 0) rfl rfl ?_
  refine a_get C fl_RX12_34 (i := 236) kd_236 (hid 236 (by decide)) (v := .ref (ad 243)) rfl dX12_init_665 ?_
  refine a_bipush C dX12_init_668 (v := 15) rfl ?_
  refine a_bipush C dX12_init_670 (v := 116) rfl ?_
  refine a_bipush C dX12_init_672 (v := 105) rfl ?_
  refine a_bipush C dX12_init_674 (v := 114) rfl ?_
  refine a_bipush C dX12_init_676 (v := 101) rfl ?_
  refine a_bipush C dX12_init_678 (v := 100) rfl ?_
  refine a_iconst C dX12_init_680 (v := 0) rfl ?_
  refine a_iconst C dX12_init_681 (v := 0) rfl ?_
  refine a_callSl C (i_word_15 hid) ms_X12_word ml_RX12_144 rfl rfl (Nat.le_of_ble_eq_true rfl) (Nat.le_of_ble_eq_true rfl) (Nat.le_of_ble_eq_true rfl) dX12_init_682 (fun r49 σ50 q51 => ?_)
  obtain ⟨rfl, q51⟩ := q51
  rw [q51]
  refine a_last C (i := 243) 15 kd_243 (hid 243 (by decide)) (by decide) rfl (by rw [al_243]; decide) dX12_init_685 ?_
  refine a_aload_n C dX12_init_686 (i := 0) rfl rfl ?_
  refine a_get C fl_RX12_34 (i := 236) kd_236 (hid 236 (by decide)) (v := .ref (ad 243)) rfl dX12_init_687 ?_
  refine a_bipush C dX12_init_690 (v := 16) rfl ?_
  refine a_bipush C dX12_init_692 (v := 117) rfl ?_
  refine a_bipush C dX12_init_694 (v := 112) rfl ?_
  refine a_iconst C dX12_init_696 (v := 0) rfl ?_
  refine a_iconst C dX12_init_697 (v := 0) rfl ?_
  refine a_iconst C dX12_init_698 (v := 0) rfl ?_
  refine a_iconst C dX12_init_699 (v := 0) rfl ?_
  refine a_iconst C dX12_init_700 (v := 0) rfl ?_
  refine a_callSl C (i_word_16 hid) ms_X12_word ml_RX12_144 rfl rfl (Nat.le_of_ble_eq_true rfl) (Nat.le_of_ble_eq_true rfl) (Nat.le_of_ble_eq_true rfl) dX12_init_701 (fun r52 σ53 q54 => ?_)
  obtain ⟨rfl, q54⟩ := q54
  rw [q54]
  refine a_last C (i := 243) 16 kd_243 (hid 243 (by decide)) (by decide) rfl (by rw [al_243]; decide) dX12_init_704 ?_
  refine a_aload_n C dX12_init_705 (i := 0) rfl rfl ?_
  refine a_get C fl_RX12_34 (i := 236) kd_236 (hid 236 (by decide)) (v := .ref (ad 243)) rfl dX12_init_706 ?_
  refine a_bipush C dX12_init_709 (v := 17) rfl ?_
  refine a_bipush C dX12_init_711 (v := 119) rfl ?_
  refine a_bipush C dX12_init_713 (v := 104) rfl ?_
  refine a_bipush C dX12_init_715 (v := 105) rfl ?_
  refine a_bipush C dX12_init_717 (v := 99) rfl ?_
  refine a_bipush C dX12_init_719 (v := 104) rfl ?_
  refine a_iconst C dX12_init_721 (v := 0) rfl ?_
  refine a_iconst C dX12_init_722 (v := 0) rfl ?_
  refine a_callSl C (i_word_17 hid) ms_X12_word ml_RX12_144 rfl rfl (Nat.le_of_ble_eq_true rfl) (Nat.le_of_ble_eq_true rfl) (Nat.le_of_ble_eq_true rfl) dX12_init_723 (fun r55 σ56 q57 => ?_)
  obtain ⟨rfl, q57⟩ := q57
  rw [q57]
  refine a_last C (i := 243) 17 kd_243 (hid 243 (by decide)) (by decide) rfl (by rw [al_243]; decide) dX12_init_726 ?_
  refine a_aload_n C dX12_init_727 (i := 0) rfl rfl ?_
  refine a_get C fl_RX12_34 (i := 236) kd_236 (hid 236 (by decide)) (v := .ref (ad 243)) rfl dX12_init_728 ?_
  refine a_bipush C dX12_init_731 (v := 18) rfl ?_
  refine a_bipush C dX12_init_733 (v := 99) rfl ?_
  refine a_bipush C dX12_init_735 (v := 97) rfl ?_
  refine a_bipush C dX12_init_737 (v := 117) rfl ?_
  refine a_bipush C dX12_init_739 (v := 103) rfl ?_
  refine a_bipush C dX12_init_741 (v := 104) rfl ?_
  refine a_bipush C dX12_init_743 (v := 116) rfl ?_
  refine a_iconst C dX12_init_745 (v := 0) rfl ?_
  refine a_callSl C (i_word_18 hid) ms_X12_word ml_RX12_144 rfl rfl (Nat.le_of_ble_eq_true rfl) (Nat.le_of_ble_eq_true rfl) (Nat.le_of_ble_eq_true rfl) dX12_init_746 (fun r58 σ59 q60 => ?_)
  obtain ⟨rfl, q60⟩ := q60
  rw [q60]
  refine a_last C (i := 243) 18 kd_243 (hid 243 (by decide)) (by decide) rfl (by rw [al_243]; decide) dX12_init_749 ?_
  refine a_aload_n C dX12_init_750 (i := 0) rfl rfl ?_
  refine a_get C fl_RX12_34 (i := 236) kd_236 (hid 236 (by decide)) (v := .ref (ad 243)) rfl dX12_init_751 ?_
  refine a_bipush C dX12_init_754 (v := 19) rfl ?_
  refine a_bipush C dX12_init_756 (v := 104) rfl ?_
  refine a_bipush C dX12_init_758 (v := 97) rfl ?_
  refine a_bipush C dX12_init_760 (v := 110) rfl ?_
  refine a_bipush C dX12_init_762 (v := 100) rfl ?_
  refine a_iconst C dX12_init_764 (v := 0) rfl ?_
  refine a_iconst C dX12_init_765 (v := 0) rfl ?_
  refine a_iconst C dX12_init_766 (v := 0) rfl ?_
  refine a_callSl C (i_word_19 hid) ms_X12_word ml_RX12_144 rfl rfl (Nat.le_of_ble_eq_true rfl) (Nat.le_of_ble_eq_true rfl) (Nat.le_of_ble_eq_true rfl) dX12_init_767 (fun r61 σ62 q63 => ?_)
  obtain ⟨rfl, q63⟩ := q63
  rw [q63]
  refine a_last C (i := 243) 19 kd_243 (hid 243 (by decide)) (by decide) rfl (by rw [al_243]; decide) dX12_init_770 ?_
  refine a_aload_n C dX12_init_771 (i := 0) rfl rfl ?_
  refine a_callVv C (i := 236) kd_236 (hid 236 (by decide)) ⟨_, _, rfl⟩ (by decide) (i_begins hid rfl rfl rfl rfl) mi_X12_begins ml_RX12_148 rfl rfl (Nat.le_of_ble_eq_true rfl) (Nat.le_of_ble_eq_true rfl) (Nat.le_of_ble_eq_true rfl) dX12_init_772 (fun σ65 q66 => ?_)
  subst q66
  refine a_aload_n C dX12_init_775 (i := 0) rfl rfl ?_
  refine a_callVv C (i := 236) kd_236 (hid 236 (by decide)) ⟨_, _, rfl⟩ (by decide) (i_keepsRow hid rfl rfl rfl rfl rfl rfl rfl rfl rfl rfl rfl rfl rfl rfl rfl rfl rfl rfl rfl rfl rfl rfl rfl rfl rfl rfl rfl rfl rfl) mi_X12_keepsRow ml_RX12_151 rfl rfl (Nat.le_of_ble_eq_true rfl) (Nat.le_of_ble_eq_true rfl) (Nat.le_of_ble_eq_true rfl) dX12_init_776 (fun σ68 q69 => ?_)
  subst q69
  refine a_vret Rt dX12_init_779 ⟨fun i hi => ?_, fun h => absurd h (by decide)⟩
  simp only [idM, List.mem_cons, List.not_mem_nil, or_false] at hi
  rcases hi with rfl | rfl | rfl | rfl | rfl | rfl | rfl | rfl | rfl | rfl | rfl | rfl | rfl | rfl | rfl | rfl | rfl | rfl | rfl | rfl | rfl | rfl | rfl | rfl | rfl | rfl | rfl | rfl | rfl | rfl | rfl | rfl | rfl | rfl | rfl | rfl | rfl | rfl | rfl | rfl | rfl
  · decide +kernel
  · intro j _; exact ⟨rfl, rfl⟩
  · intro j _; exact ⟨rfl, rfl⟩
  · intro j _; exact ⟨rfl, rfl⟩
  · intro j _; exact ⟨rfl, rfl⟩
  · intro j _; exact ⟨rfl, rfl⟩
  · intro j _; exact ⟨rfl, rfl⟩
  · decide +kernel
  · intro j _; exact ⟨rfl, rfl⟩
  · decide +kernel
  · intro j _; exact ⟨rfl, rfl⟩
  · intro j _; exact ⟨rfl, rfl⟩
  · intro j _; exact ⟨rfl, rfl⟩
  · decide +kernel
  · intro j _; exact ⟨rfl, rfl⟩
  · intro j _; exact ⟨rfl, rfl⟩
  · decide +kernel
  · decide +kernel
  · decide +kernel
  · decide +kernel
  · intro j _; exact ⟨rfl, rfl⟩
  · intro j _; exact ⟨rfl, rfl⟩
  · intro j _; exact ⟨rfl, rfl⟩
  · intro j _; exact ⟨rfl, rfl⟩
  · intro j _; exact ⟨rfl, rfl⟩
  · intro j _; exact ⟨rfl, rfl⟩
  · intro j _; exact ⟨rfl, rfl⟩
  · intro j _; exact ⟨rfl, rfl⟩
  · intro j _; exact ⟨rfl, rfl⟩
  · intro j _; exact ⟨rfl, rfl⟩
  · decide +kernel
  · decide +kernel
  · intro j _; exact ⟨rfl, rfl⟩
  · intro j _; exact ⟨rfl, rfl⟩
  · intro j _; exact ⟨rfl, rfl⟩
  · intro j _; exact ⟨rfl, rfl⟩
  · intro j _; exact ⟨rfl, rfl⟩
  · intro j _; exact ⟨rfl, rfl⟩
  · intro j _; exact ⟨rfl, rfl⟩
  · intro j _; exact ⟨rfl, rfl⟩
  · intro j _; exact ⟨rfl, rfl⟩

/-! arrays just made, one behind another: number, length, kind; address, array class -/
abbrev ZT : Type := (Nat × Nat × Nat) × Nat × ClassId
def zW (z : ZT) : Nat × va_E := (z.2.1, .inl (z.2.2, z.1.2.1, if z.1.2.2 = 23 then .inr (.inl (fun _ => 0)) else .inl (fun _ => 0)))
def zT (z : ZT) : ClassId × FieldType := (z.2.2, aty z.1.2.2)
def zAd (b : Nat) (Z : List ZT) (i : Nat) : Nat := match Z[i - b]? with
  | some z => z.2.1
  | none => 0
def zCa (b : Nat) (Z : List ZT) (i : Nat) : ClassId := match Z[i - b]? with
  | some z => z.2.2
  | none => (Z.head?.map (fun z => z.2.2)).getD default
theorem zAd_at {b k : Nat} {Z : List ZT} {z : ZT} (h : Z[k]? = some z) : zAd b Z (b + k) = z.2.1 := by
  unfold zAd
  rw [Nat.add_sub_cancel_left, h]
theorem zCa_at {b k : Nat} {Z : List ZT} {z : ZT} (h : Z[k]? = some z) : zCa b Z (b + k) = z.2.2 := by
  unfold zCa
  rw [Nat.add_sub_cancel_left, h]
def zOk (b : Nat) (N : List (Nat × Nat × Nat)) : Bool := match N with
  | [] => true
  | x :: N => x.1 == b && al x.1 == x.2.1 && kd x.1 == x.2.2 && Nat.ble 20 x.2.2 && Nat.ble x.2.2 23 && zOk (b + 1) N
theorem zOk_at : ∀ {N : List (Nat × Nat × Nat)} {b k : Nat} {x : Nat × Nat × Nat}, zOk b N = true → N[k]? = some x → x.1 = b + k ∧ al x.1 = x.2.1 ∧ kd x.1 = x.2.2 ∧ 20 ≤ x.2.2 ∧ x.2.2 ≤ 23
  | [], b, k, x, h, hx => by simp at hx
  | y :: N, b, 0, x, h, hx => by
    simp only [zOk, Bool.and_eq_true, beq_iff_eq] at h
    obtain ⟨⟨⟨⟨⟨h1, h2⟩, h3⟩, h4⟩, h5⟩, -⟩ := h
    simp at hx
    subst hx
    exact ⟨h1, h2, h3, Nat.le_of_ble_eq_true h4, Nat.le_of_ble_eq_true h5⟩
  | y :: N, b, k + 1, x, h, hx => by
    simp only [zOk, Bool.and_eq_true] at h
    have hx' : N[k]? = some x := by simpa using hx
    have := zOk_at h.2 hx'
    exact ⟨by omega, this.2⟩
theorem ceK_arr {ad : Nat → Nat} {ca : Nat → ClassId} {n i : Nat} {g : Nat → Int32} {gl : Nat → Int64} {tx : Nat → Nat} (h1 : 20 ≤ n) (h2 : n ≤ 23) : ceK ad ca n i g gl tx = .inl (ca i, al i, if n = 23 then .inr (.inl gl) else .inl g) := by
  unfold ceK
  rw [if_neg (by omega)]
  by_cases h : n = 23
  · rw [if_pos h, if_pos h]
  · rw [if_neg h, if_neg h, if_pos (by omega)]
theorem z_cell {Z : List ZT} {b k : Nat} {z : ZT} {ad : Nat → Nat} {ca : Nat → ClassId} {g : Nat → Int32} {gl : Nat → Int64} {tx : Nat → Nat} (hN : zOk b (Z.map (fun z => z.1)) = true) (hz : Z[k]? = some z) (ha : ad (b + k) = z.2.1) (hc : ca (b + k) = z.2.2) (hg : g = fun _ => 0) (hgl : gl = fun _ => 0) : (ad z.1.1, ceK ad ca (kd z.1.1) z.1.1 g gl tx) = zW z := by
  have hx : (Z.map (fun z => z.1))[k]? = some z.1 := by rw [List.getElem?_map, hz]; rfl
  obtain ⟨h1, h2, h3, h4, h5⟩ := zOk_at hN hx
  rw [h3, ceK_arr h4 h5, h2, h1, ha, hc, hg, hgl]
  rfl
theorem z_world {Z : List ZT} {b : Nat} {ad : Nat → Nat} {ca : Nat → ClassId} {σ : HS} (hN : zOk b (Z.map (fun z => z.1)) = true) (ha : ∀ k z, Z[k]? = some z → ad (b + k) = z.2.1) (hc : ∀ k z, Z[k]? = some z → ca (b + k) = z.2.2) (h0 : ∀ i, b ≤ i → σ.1 i = fun _ => 0) (h1 : ∀ i, σ.2.1 i = fun _ => 0) : Z.map zW = mw (Z.map (fun z => z.1.1)) ad ca σ := by
  unfold mw
  rw [List.map_map]
  apply List.map_congr_left
  intro z hz
  obtain ⟨k, hk⟩ := List.getElem?_of_mem hz
  have hx : (Z.map (fun z => z.1))[k]? = some z.1 := by rw [List.getElem?_map, hk]; rfl
  have hb := (zOk_at hN hx).1
  have hb2 : b ≤ z.1.1 := by omega
  exact (z_cell hN hk (ha k z hk) (hc k z hk) (h0 _ hb2) (h1 _)).symm
theorem z_types {Z : List ZT} {b : Nat} {ca : Nat → ClassId} (hN : zOk b (Z.map (fun z => z.1)) = true) (hc : ∀ k z, Z[k]? = some z → ca (b + k) = z.2.2) : ∀ i ∈ Z.map (fun z => z.1.1), (ca i, aty (kd i)) ∈ Z.map zT := by
  intro i hi
  obtain ⟨z, hz, rfl⟩ := List.mem_map.mp hi
  obtain ⟨k, hk⟩ := List.getElem?_of_mem hz
  have hx : (Z.map (fun z => z.1))[k]? = some z.1 := by rw [List.getElem?_map, hk]; rfl
  obtain ⟨h1, h2, h3, h4, h5⟩ := zOk_at hN hx
  refine List.mem_map.mpr ⟨z, hz, ?_⟩
  show (z.2.2, aty z.1.2.2) = _
  rw [h3, h1, hc k z hk]
theorem m_world {Z : List ZT} {a : Nat} {ad : Nat → Nat} {ca : Nat → ClassId} {F : List Value} (hI1 : idM = 236 :: Z.map (fun z => z.1.1)) (hN : zOk 237 (Z.map (fun z => z.1)) = true) (ea : ad 236 = a) (ha : ∀ k z, Z[k]? = some z → ad (237 + k) = z.2.1) (hc : ∀ k z, Z[k]? = some z → ca (237 + k) = z.2.2)
    (hF : F = fsK ad 11 236 ((hI (fun _ _ => 0, fun _ _ => 0, fun _ => 0) 236 17 (-1)).1 236) ((hI (fun _ _ => 0, fun _ _ => 0, fun _ => 0) 236 17 (-1)).2.2)) : (a, .inr (11, F)) :: Z.map zW = mw idM ad ca (hI (fun _ _ => 0, fun _ _ => 0, fun _ => 0) 236 17 (-1)) := by
  rw [hI1, z_world (σ := hI (fun _ _ => 0, fun _ _ => 0, fun _ => 0) 236 17 (-1)) hN ha hc (fun i hi => hI_o (by omega)) (fun i => rfl)]
  unfold mw
  rw [List.map_cons, hF, ea, kd_236, ceK_ob (by decide)]
theorem m_types {Z : List ZT} {ca : Nat → ClassId} (hI1 : idM = 236 :: Z.map (fun z => z.1.1)) (hN : zOk 237 (Z.map (fun z => z.1)) = true) (hc : ∀ k z, Z[k]? = some z → ca (237 + k) = z.2.2) : ∀ q ∈ tys idM ca, q ∈ Z.map zT := by
  intro q hq
  obtain ⟨i, hi, rfl⟩ := List.mem_map.mp hq
  obtain ⟨h1, h2⟩ := List.mem_filter.mp hi
  rw [hI1] at h1
  rcases List.mem_cons.mp h1 with rfl | h1
  · rw [kd_236] at h2
    exact absurd h2 (by decide)
  · exact z_types hN hc i h1

/-! pieces of the world, each closed under its references, put together -/
def refsK (n i : Nat) : List Nat := match n with
  | 0 => [i + 1, i + 2, i + 3]
  | 1 => [10, 11]
  | 2 => [15, 16]
  | 3 => [9]
  | 4 => [13]
  | 5 => [2, 7]
  | 6 => [18, 19, 20, 21]
  | 7 => [23, 24]
  | 8 => [3, 4, 5, 6]
  | 9 => [i + 1, i + 2, i + 3, i + 4, i + 10, i + 11, i + 12]
  | 11 => [237, 238, 239, 240, 241, 242, 243, 244, 245, 246, 247, 248, 249, 250, 251, 252, 253, 254, 255, 256, 257, 258, 259, 260, 261, 262, 263, 264, 265, 266, 267, 268, 269, 270, 271, 272, 273, 274, 275, 276]
  | 24 => (List.range 40).map (fun j => 76 + 4 * j)
  | 25 => [64, 68, 72]
  | 26 => [i + 1, i + 2, i + 3, i + 4, i + 5]
  | _ => []
theorem fsK_cong {u v : Nat → Nat} {n i : Nat} (hr : ∀ r ∈ refsK n i, v r = u r) (h10 : n ≠ 10) (g : Nat → Int32) (tx : Nat → Nat) : fsK v n i g tx = fsK u n i g tx := by
  match n with
  | 0 => simp only [refsK, List.forall_mem_cons] at hr; simp only [fsK, hr]
  | 1 => simp only [refsK, List.forall_mem_cons] at hr; simp only [fsK, hr]
  | 2 => simp only [refsK, List.forall_mem_cons] at hr; simp only [fsK, hr]
  | 3 => simp only [refsK, List.forall_mem_cons] at hr; simp only [fsK, hr]
  | 4 => simp only [refsK, List.forall_mem_cons] at hr; simp only [fsK, hr]
  | 5 => simp only [refsK, List.forall_mem_cons] at hr; simp only [fsK, hr]
  | 6 => simp only [refsK, List.forall_mem_cons] at hr; simp only [fsK, hr]
  | 7 => simp only [refsK, List.forall_mem_cons] at hr; simp only [fsK, hr]
  | 8 => simp only [refsK, List.forall_mem_cons] at hr; simp only [fsK, hr]
  | 9 => simp only [refsK, List.forall_mem_cons] at hr; simp only [fsK, hr]
  | 10 => exact absurd rfl h10
  | 11 => simp only [refsK, List.forall_mem_cons] at hr; simp only [fsK, hr]
  | n + 12 => rfl
theorem rfK_cong {u v : Nat → Nat} {n i : Nat} (hn : n = 24 ∨ n = 25 ∨ n = 26) (hr : ∀ r ∈ refsK n i, v r = u r) : rfK v n i = rfK u n i := by
  funext j
  rcases hn with rfl | rfl | rfl
  · show (if j < 40 then some (v (76 + 4 * j)) else none) = if j < 40 then some (u (76 + 4 * j)) else none
    by_cases h : j < 40
    · rw [if_pos h, if_pos h, hr _ (List.mem_map.mpr ⟨j, List.mem_range.mpr h, rfl⟩)]
    · rw [if_neg h, if_neg h]
  · show (if j < 3 then some (v (64 + 4 * j)) else none) = if j < 3 then some (u (64 + 4 * j)) else none
    by_cases h : j < 3
    · rw [if_pos h, if_pos h, hr (64 + 4 * j) (by
        rcases (show j = 0 ∨ j = 1 ∨ j = 2 by omega) with rfl | rfl | rfl <;> simp [refsK])]
    · rw [if_neg h, if_neg h]
  · show (if j < 5 then some (v (i + 1 + j)) else none) = if j < 5 then some (u (i + 1 + j)) else none
    by_cases h : j < 5
    · rw [if_pos h, if_pos h, hr (i + 1 + j) (by
        rcases (show j = 0 ∨ j = 1 ∨ j = 2 ∨ j = 3 ∨ j = 4 by omega) with rfl | rfl | rfl | rfl | rfl <;> simp [refsK, Nat.add_assoc])]
    · rw [if_neg h, if_neg h]
theorem kd_le : ∀ i, kd i < 12 ∨ (20 ≤ kd i ∧ kd i ≤ 23) ∨ kd i = 24 ∨ kd i = 25 ∨ kd i = 26 ∨ kd i = 99 := by
  have h : ∀ x ∈ kdL, x < 12 ∨ (20 ≤ x ∧ x ≤ 23) ∨ x = 24 ∨ x = 25 ∨ x = 26 ∨ x = 99 := by decide +kernel
  intro i
  unfold kd List.getD
  cases hx : kdL[i]? with
  | none => right; right; right; right; right; rfl
  | some x => exact h x (List.mem_of_getElem? hx)
theorem ceK_cong {u v : UU} {i : Nat} (hi : kd i ≠ 99) (h10 : kd i ≠ 10) (hr : ∀ r ∈ refsK (kd i) i, v.1 r = u.1 r) (hc : v.2 i = u.2 i) (g : Nat → Int32) (gl : Nat → Int64) (tx : Nat → Nat) : ceK v.1 v.2 (kd i) i g gl tx = ceK u.1 u.2 (kd i) i g gl tx := by
  rcases kd_le i with h | h | h
  · rw [ceK_ob h, ceK_ob h, fsK_cong hr h10]
  · rw [ceK_arr h.1 h.2, ceK_arr h.1 h.2, hc]
  · have hn : kd i = 24 ∨ kd i = 25 ∨ kd i = 26 := by
      rcases h with h | h | h | h
      · exact Or.inl h
      · exact Or.inr (Or.inl h)
      · exact Or.inr (Or.inr h)
      · exact absurd h hi
    have hx : ∀ w : UU, ceK w.1 w.2 (kd i) i g gl tx = .inl (w.2 i, al i, .inr (.inr (.inr (.inr (rfK w.1 (kd i) i))))) := fun w => by
      unfold ceK
      rw [if_neg (by omega), if_neg (by omega), if_neg (by omega)]
    rw [hx, hx, rfK_cong hn hr, hc]
/-- a piece: no StateJuggler in it, every reference of it leads into it -/
def cl (L : List Nat) : Prop := ∀ i ∈ L, kd i ≠ 99 ∧ kd i ≠ 10 ∧ ∀ r ∈ refsK (kd i) i, r ∈ L
def clB (L : List Nat) : Bool := L.all (fun i => !(kd i == 99) && !(kd i == 10) && (refsK (kd i) i).all (fun r => L.contains r))
theorem cl_of {L : List Nat} (h : clB L = true) : cl L := fun i hi => by
  have := List.all_eq_true.mp h i hi
  simp only [Bool.and_eq_true, Bool.not_eq_true', beq_eq_false_iff_ne, List.all_eq_true, List.contains_iff_mem] at this
  exact ⟨this.1.1, this.1.2, this.2⟩
theorem cl_app {L1 L2 : List Nat} (h1 : cl L1) (h2 : cl L2) : cl (L1 ++ L2) := fun i hi => by
  rcases List.mem_append.mp hi with h | h
  · exact ⟨(h1 i h).1, (h1 i h).2.1, fun r hr => List.mem_append.mpr (Or.inl ((h1 i h).2.2 r hr))⟩
  · exact ⟨(h2 i h).1, (h2 i h).2.1, fun r hr => List.mem_append.mpr (Or.inr ((h2 i h).2.2 r hr))⟩
theorem mw_cong {L : List Nat} {u v : UU} {σ : HS} (hc : cl L) (h1 : ∀ i ∈ L, v.1 i = u.1 i) (h2 : ∀ i ∈ L, v.2 i = u.2 i) : mw L v.1 v.2 σ = mw L u.1 u.2 σ := by
  unfold mw
  apply List.map_congr_left
  intro i hi
  obtain ⟨a, b, c⟩ := hc i hi
  rw [ceK_cong (u := u) (v := v) a b (fun r hr => h1 r (c r hr)) (h2 i hi), h1 i hi]
def gl (L : List Nat) (u v : UU) : UU := (fun i => if i ∈ L then u.1 i else v.1 i, fun i => if i ∈ L then u.2 i else v.2 i)
theorem gl_l {L : List Nat} {u v : UU} {i : Nat} (h : i ∈ L) : (gl L u v).1 i = u.1 i := if_pos h
theorem gl_r {L : List Nat} {u v : UU} {i : Nat} (h : i ∉ L) : (gl L u v).1 i = v.1 i := if_neg h
theorem gl_l2 {L : List Nat} {u v : UU} {i : Nat} (h : i ∈ L) : (gl L u v).2 i = u.2 i := if_pos h
theorem gl_r2 {L : List Nat} {u v : UU} {i : Nat} (h : i ∉ L) : (gl L u v).2 i = v.2 i := if_neg h
def dj (L1 L2 : List Nat) : Bool := L2.all (fun i => !L1.contains i)
theorem dj_use {L1 L2 : List Nat} (h : dj L1 L2 = true) : ∀ i ∈ L2, i ∉ L1 := fun i hi e => by
  have := List.all_eq_true.mp h i hi
  simp [e] at this
theorem mw_app {L1 L2 : List Nat} {ad : Nat → Nat} {ca : Nat → ClassId} {σ : HS} : mw (L1 ++ L2) ad ca σ = mw L1 ad ca σ ++ mw L2 ad ca σ := List.map_append ..
theorem glue {L1 L2 : List Nat} {u v : UU} {σ : HS} (c1 : cl L1) (c2 : cl L2) (hd : dj L1 L2 = true) : mw L1 u.1 u.2 σ ++ mw L2 v.1 v.2 σ = mw (L1 ++ L2) (gl L1 u v).1 (gl L1 u v).2 σ := by
  have hd := dj_use hd
  rw [mw_app, mw_cong (u := u) (v := gl L1 u v) c1 (fun i hi => gl_l hi) (fun i hi => gl_l2 hi), mw_cong (u := v) (v := gl L1 u v) c2 (fun i hi => gl_r (hd i hi)) (fun i hi => gl_r2 (hd i hi))]
/-- the array classes of a piece stand in T -/
def tyIn (L : List Nat) (u : UU) (T : List (ClassId × FieldType)) : Prop := ∀ i ∈ L, 12 ≤ kd i → (u.2 i, aty (kd i)) ∈ T
theorem tyIn.glue {L1 L2 : List Nat} {u v : UU} {T1 T2 : List (ClassId × FieldType)} (h1 : tyIn L1 u T1) (h2 : tyIn L2 v T2) (hd : dj L1 L2 = true) : tyIn (L1 ++ L2) (gl L1 u v) (T1 ++ T2) := fun i hi hk => by
  have hd := dj_use hd
  rcases List.mem_append.mp hi with h | h
  · rw [gl_l2 h]; exact List.mem_append.mpr (Or.inl (h1 i h hk))
  · rw [gl_r2 (hd i h)]; exact List.mem_append.mpr (Or.inr (h2 i h hk))
theorem tyIn.tcl {L A : List Nat} {u : UU} (h : (L.all (fun i => !(Nat.ble 12 (kd i)) || A.contains i)) = true) : tyIn L u (tcl A u) := fun i hi hk => by
  have := List.all_eq_true.mp h i hi
  simp only [Bool.or_eq_true, Bool.not_eq_true', List.contains_iff_mem] at this
  rcases this with h | h
  · rw [Nat.ble_eq_true_of_le hk] at h; cases h
  · exact List.mem_map.mpr ⟨i, h, rfl⟩
theorem tyIn.tys {L : List Nat} {u : UU} : tyIn L u (tys L u.2) := fun i hi hk => List.mem_map.mpr ⟨i, List.mem_filter.mpr ⟨hi, by simp [hk]⟩, rfl⟩
theorem tyIn.one {i : Nat} {q : Nat} {c : ClassId} {ty : FieldType} (h : aty (kd i) = ty) : tyIn [i] (fun _ => q, fun _ => c) [(c, ty)] := fun j hj hk => by
  simp only [List.mem_cons, List.not_mem_nil, or_false] at hj
  subst hj
  rw [h]
  simp
/-- an array alone is a piece -/
theorem one_arr {i n : Nat} {q : Nat} {c : ClassId} (h1 : 20 ≤ kd i) (h2 : kd i ≤ 22) (hn : al i = n) (h0 : s0.1 i = fun _ => 0) : [(q, (.inl (c, n, .inl (fun _ => 0)) : va_E))] = mw [i] (fun _ => q) (fun _ => c) s0 := by
  show _ = [(q, ceK (fun _ => q) (fun _ => c) (kd i) i (s0.1 i) (s0.2.1 i) s0.2.2)]
  rw [ceK_arr h1 (by omega), hn, h0, if_neg (by omega)]
theorem s0_L {i : Nat} (h : i < 236) : s0.2.1 i = fun _ => 0 := by
  funext k
  show (if i = 243 then _ else (0 : Int64)) = 0
  rw [if_neg (by omega)]
/-- an Air, told by other numbers -/
def shA (b : Nat) (u : UU) : UU := (fun i => u.1 (60 + (i - b)), fun i => u.2 (60 + (i - b)))
theorem air_sh {b : Nat} (u : UU) (h0 : kd b = 0) (h1 : kd (b + 1) = 20 ∧ al (b + 1) = 7) (h2 : kd (b + 2) = 20 ∧ al (b + 2) = 7) (h3 : kd (b + 3) = 20 ∧ al (b + 3) = 7) (hb : 56 ≤ b) (hc : b + 3 < 236) : mw [60, 61, 62, 63] u.1 u.2 s0 = mw [b, b + 1, b + 2, b + 3] (shA b u).1 (shA b u).2 s0 := by
  have e : ∀ d, (shA b u).1 (b + d) = u.1 (60 + d) := fun d => congrArg u.1 (by omega)
  have e2 : ∀ d, (shA b u).2 (b + d) = u.2 (60 + d) := fun d => congrArg u.2 (by omega)
  have key : ∀ d, 1 ≤ d → d ≤ 3 → kd (b + d) = 20 → al (b + d) = 7 → kd (60 + d) = 20 → al (60 + d) = 7 → (u.1 (60 + d), ceK u.1 u.2 (kd (60 + d)) (60 + d) (s0.1 (60 + d)) (s0.2.1 (60 + d)) s0.2.2) = ((shA b u).1 (b + d), ceK (shA b u).1 (shA b u).2 (kd (b + d)) (b + d) (s0.1 (b + d)) (s0.2.1 (b + d)) s0.2.2) := by
    intro d d1 d2 k1 a1 k2 a2
    have z1 : s0.1 (b + d) = fun _ => 0 := s0_arr k1 (by omega) (by omega)
    have z2 : s0.1 (60 + d) = fun _ => 0 := s0_arr k2 (by omega) (by omega)
    rw [k1, k2, ceK_arr (by decide) (by decide), ceK_arr (by decide) (by decide), a1, a2, e, e2, z1, z2]
    try rfl
  refine cons4 ?_ (key 1 (by omega) (by omega) h1.1 h1.2 (by decide) (by decide)) (key 2 (by omega) (by omega) h2.1 h2.2 (by decide) (by decide)) (key 3 (by omega) (by omega) h3.1 h3.2 (by decide) (by decide))
  have hz : s0.1 b = s0.1 60 := s0_air h0
  have k0 : kd 60 = 0 := by decide
  show (u.1 60, ceK u.1 u.2 (kd 60) 60 (s0.1 60) (s0.2.1 60) s0.2.2) = ((shA b u).1 b, ceK (shA b u).1 (shA b u).2 (kd b) b (s0.1 b) (s0.2.1 b) s0.2.2)
  rw [h0, k0, ceK_ob (by decide), ceK_ob (by decide), hz]
  show (u.1 60, (.inr (0, [_, .ref (u.1 61), .ref (u.1 62), .ref (u.1 63), _, _, _, _, _, _, _, _]) : va_E)) = ((shA b u).1 (b + 0), (.inr (0, [_, .ref ((shA b u).1 (b + 1)), .ref ((shA b u).1 (b + 2)), .ref ((shA b u).1 (b + 3)), _, _, _, _, _, _, _, _]) : va_E))
  rw [e, e, e, e]
theorem air_shT {b : Nat} {u : UU} {T : List (ClassId × FieldType)} (h : tyIn [60, 61, 62, 63] u T) (h0 : kd b = 0) (h1 : kd (b + 1) = 20) (h2 : kd (b + 2) = 20) (h3 : kd (b + 3) = 20) : tyIn [b, b + 1, b + 2, b + 3] (shA b u) T := by
  have e2 : ∀ d, (shA b u).2 (b + d) = u.2 (60 + d) := fun d => congrArg u.2 (by omega)
  intro i hi hk
  simp only [List.mem_cons, List.not_mem_nil, or_false] at hi
  rcases hi with rfl | rfl | rfl | rfl
  · omega
  · rw [e2, h1]; exact h 61 (by decide) (by decide)
  · rw [e2, h2]; exact h 62 (by decide) (by decide)
  · rw [e2, h3]; exact h 63 (by decide) (by decide)
/-- a Text, told by other numbers -/
def shT (u : UU) : UU := (fun i => u.1 (i - 13), fun i => u.2 (i - 13))
theorem text_sh (u : UU) : mw [30, 31, 32, 33, 34, 35, 36, 37, 38, 39, 40, 41, 42] u.1 u.2 s0 = mw [43, 44, 45, 46, 47, 48, 49, 50, 51, 52, 53, 54, 55] (shT u).1 (shT u).2 s0 := by
  have z : ∀ d, d < 13 → kd (30 + d) = kd (43 + d) ∧ al (30 + d) = al (43 + d) := by decide +kernel
  have zs : ∀ d, d < 13 → s0.1 (30 + d) = s0.1 (43 + d) := by
    intro d hd
    funext k
    show s0I (30 + d) k = s0I (43 + d) k
    rcases (show d = 0 ∨ d = 1 ∨ d = 2 ∨ d = 3 ∨ d = 4 ∨ d = 5 ∨ d = 6 ∨ d = 7 ∨ d = 8 ∨ d = 9 ∨ d = 10 ∨ d = 11 ∨ d = 12 by omega) with rfl | rfl | rfl | rfl | rfl | rfl | rfl | rfl | rfl | rfl | rfl | rfl | rfl <;> rfl
  have key : ∀ d, d < 13 → (u.1 (30 + d), ceK u.1 u.2 (kd (30 + d)) (30 + d) (s0.1 (30 + d)) (s0.2.1 (30 + d)) s0.2.2) = ((shT u).1 (43 + d), ceK (shT u).1 (shT u).2 (kd (43 + d)) (43 + d) (s0.1 (43 + d)) (s0.2.1 (43 + d)) s0.2.2) := by
    intro d hd
    rw [(z d hd).1, zs d hd, s0_L (by omega), s0_L (by omega)]
    have ea : ∀ d, (shT u).1 (43 + d) = u.1 (30 + d) := fun d => congrArg u.1 (by omega)
    have ec : ∀ d, (shT u).2 (43 + d) = u.2 (30 + d) := fun d => congrArg u.2 (by omega)
    rw [ea]
    congr 1
    rcases kd_le (43 + d) with h | h | h
    · rw [ceK_ob h, ceK_ob h]
      have : d = 0 := by
        revert h
        revert d
        decide +kernel
      subst this
      rfl
    · rw [ceK_arr h.1 h.2, ceK_arr h.1 h.2, (z d hd).2, ec]
    · have : d = 4 := by
        revert h
        revert d
        decide +kernel
      subst this
      show (.inl (u.2 34, al 34, .inr (.inr (.inr (.inr (rfK u.1 26 34))))) : va_E) = .inl ((shT u).2 47, al 47, .inr (.inr (.inr (.inr (rfK (shT u).1 26 47)))))
      have hr : rfK u.1 26 34 = rfK (shT u).1 26 47 := by
        funext j
        show (if j < 5 then some (u.1 (34 + 1 + j)) else none) = if j < 5 then some (u.1 (47 + 1 + j - 13)) else none
        rw [show 47 + 1 + j - 13 = 34 + 1 + j by omega]
      rw [hr]
      rfl
  show [_, _, _, _, _, _, _, _, _, _, _, _, _] = [_, _, _, _, _, _, _, _, _, _, _, _, _]
  refine congr (congrArg List.cons (key 0 (by omega))) (congr (congrArg List.cons (key 1 (by omega))) (congr (congrArg List.cons (key 2 (by omega))) (congr (congrArg List.cons (key 3 (by omega))) (congr (congrArg List.cons (key 4 (by omega))) (congr (congrArg List.cons (key 5 (by omega))) (congr (congrArg List.cons (key 6 (by omega))) (congr (congrArg List.cons (key 7 (by omega))) (congr (congrArg List.cons (key 8 (by omega))) (congr (congrArg List.cons (key 9 (by omega))) (congr (congrArg List.cons (key 10 (by omega))) (congr (congrArg List.cons (key 11 (by omega))) (congr (congrArg List.cons (key 12 (by omega))) rfl))))))))))))
theorem text_shT {u : UU} {T : List (ClassId × FieldType)} (h : tyIn [30, 31, 32, 33, 34, 35, 36, 37, 38, 39, 40, 41, 42] u T) : tyIn [43, 44, 45, 46, 47, 48, 49, 50, 51, 52, 53, 54, 55] (shT u) T := by
  intro i hi hk
  have hi2 : 43 ≤ i ∧ i < 56 := by simp at hi; omega
  obtain ⟨d, rfl⟩ : ∃ d, i = 43 + d := ⟨i - 43, by omega⟩
  have hd : d < 13 := by omega
  have z : ∀ d, d < 13 → kd (30 + d) = kd (43 + d) ∧ (30 + d) ∈ [30, 31, 32, 33, 34, 35, 36, 37, 38, 39, 40, 41, 42] := by decide +kernel
  have := h (30 + d) (z d hd).2 (by rw [(z d hd).1]; exact hk)
  rw [(z d hd).1] at this
  have ec : (shT u).2 (43 + d) = u.2 (30 + d) := congrArg u.2 (by omega)
  rw [ec]
  exact this

/-! ways: the rows, purely -/
def lp (g : Nat → List (List Nat)) : Nat → Nat → List (List Nat)
  | _, 0 => []
  | h, e + 1 => g h ++ lp g (h + 1) e
/-! the reference's rows by their number -/
def J1 : List Nat := [1, 2, 3, 4, 5, 6, 7]
theorem cl_1 : cl J1 := cl_of (by decide +kernel)
def J2 : List Nat := J1 ++ [8, 9, 10, 11]
theorem clp_2 : cl [8, 9, 10, 11] := cl_of (by decide +kernel)
theorem cl_2 : cl J2 := cl_app cl_1 clp_2
theorem dj_2 : dj J1 [8, 9, 10, 11] = true := by decide +kernel
def J3 : List Nat := J2 ++ (12 :: 13 :: ringN 160)
theorem clp_3 : cl (12 :: 13 :: ringN 160) := cl_of (by decide +kernel)
theorem cl_3 : cl J3 := cl_app cl_2 clp_3
theorem dj_3 : dj J2 (12 :: 13 :: ringN 160) = true := by decide +kernel
def J4 : List Nat := J3 ++ [14, 15, 16]
theorem clp_4 : cl [14, 15, 16] := cl_of (by decide +kernel)
theorem cl_4 : cl J4 := cl_app cl_3 clp_4
theorem dj_4 : dj J3 [14, 15, 16] = true := by decide +kernel
def J5 : List Nat := J4 ++ [17, 18, 19, 20, 21]
theorem clp_5 : cl [17, 18, 19, 20, 21] := cl_of (by decide +kernel)
theorem cl_5 : cl J5 := cl_app cl_4 clp_5
theorem dj_5 : dj J4 [17, 18, 19, 20, 21] = true := by decide +kernel
def J6 : List Nat := J5 ++ [22, 23, 24]
theorem clp_6 : cl [22, 23, 24] := cl_of (by decide +kernel)
theorem cl_6 : cl J6 := cl_app cl_5 clp_6
theorem dj_6 : dj J5 [22, 23, 24] = true := by decide +kernel
def J7 : List Nat := J6 ++ [56, 57, 58, 59]
theorem clp_7 : cl [56, 57, 58, 59] := cl_of (by decide +kernel)
theorem cl_7 : cl J7 := cl_app cl_6 clp_7
theorem dj_7 : dj J6 [56, 57, 58, 59] = true := by decide +kernel
def J8 : List Nat := J7 ++ [60, 61, 62, 63]
theorem clp_8 : cl [60, 61, 62, 63] := cl_of (by decide +kernel)
theorem cl_8 : cl J8 := cl_app cl_7 clp_8
theorem dj_8 : dj J7 [60, 61, 62, 63] = true := by decide +kernel
def J9 : List Nat := J8 ++ [26]
theorem clp_9 : cl [26] := cl_of (by decide +kernel)
theorem cl_9 : cl J9 := cl_app cl_8 clp_9
theorem dj_9 : dj J8 [26] = true := by decide +kernel
def J10 : List Nat := J9 ++ [27]
theorem clp_10 : cl [27] := cl_of (by decide +kernel)
theorem cl_10 : cl J10 := cl_app cl_9 clp_10
theorem dj_10 : dj J9 [27] = true := by decide +kernel
def J11 : List Nat := J10 ++ [28]
theorem clp_11 : cl [28] := cl_of (by decide +kernel)
theorem cl_11 : cl J11 := cl_app cl_10 clp_11
theorem dj_11 : dj J10 [28] = true := by decide +kernel
def J12 : List Nat := J11 ++ [29]
theorem clp_12 : cl [29] := cl_of (by decide +kernel)
theorem cl_12 : cl J12 := cl_app cl_11 clp_12
theorem dj_12 : dj J11 [29] = true := by decide +kernel
def J13 : List Nat := J12 ++ [30, 31, 32, 33, 34, 35, 36, 37, 38, 39, 40, 41, 42]
theorem clp_13 : cl [30, 31, 32, 33, 34, 35, 36, 37, 38, 39, 40, 41, 42] := cl_of (by decide +kernel)
theorem cl_13 : cl J13 := cl_app cl_12 clp_13
theorem dj_13 : dj J12 [30, 31, 32, 33, 34, 35, 36, 37, 38, 39, 40, 41, 42] = true := by decide +kernel
def J14 : List Nat := J13 ++ [43, 44, 45, 46, 47, 48, 49, 50, 51, 52, 53, 54, 55]
theorem clp_14 : cl [43, 44, 45, 46, 47, 48, 49, 50, 51, 52, 53, 54, 55] := cl_of (by decide +kernel)
theorem cl_14 : cl J14 := cl_app cl_13 clp_14
theorem dj_14 : dj J13 [43, 44, 45, 46, 47, 48, 49, 50, 51, 52, 53, 54, 55] = true := by decide +kernel
def J15 : List Nat := J14 ++ [64, 65, 66, 67]
theorem clp_15 : cl [64, 65, 66, 67] := cl_of (by decide +kernel)
theorem cl_15 : cl J15 := cl_app cl_14 clp_15
theorem dj_15 : dj J14 [64, 65, 66, 67] = true := by decide +kernel
def J16 : List Nat := J15 ++ [68, 69, 70, 71]
theorem clp_16 : cl [68, 69, 70, 71] := cl_of (by decide +kernel)
theorem cl_16 : cl J16 := cl_app cl_15 clp_16
theorem dj_16 : dj J15 [68, 69, 70, 71] = true := by decide +kernel
def J17 : List Nat := J16 ++ [72, 73, 74, 75]
theorem clp_17 : cl [72, 73, 74, 75] := cl_of (by decide +kernel)
theorem cl_17 : cl J17 := cl_app cl_16 clp_17
theorem dj_17 : dj J16 [72, 73, 74, 75] = true := by decide +kernel
def idJ : List Nat := 0 :: 25 :: J17
theorem idJ_in : ∀ i, i < 236 → i ∈ idJ := by
  have h : (List.range 236).all (fun i => idJ.contains i) = true := by decide +kernel
  intro i hi
  have := List.all_eq_true.mp h i (List.mem_range.mpr hi)
  simpa using this
theorem J17_no : 0 ∉ J17 ∧ 25 ∉ J17 := by decide +kernel
theorem nj_8_1 : 8 ∉ J1 := by decide +kernel
theorem mj_1_1 : 1 ∈ J1 := by decide +kernel
theorem nj_12_2 : 12 ∉ J2 := by decide +kernel
theorem mj_1_2 : 1 ∈ J2 := by decide +kernel
theorem mj_8_2 : 8 ∈ J2 := by decide +kernel
theorem nj_14_3 : 14 ∉ J3 := by decide +kernel
theorem mj_1_3 : 1 ∈ J3 := by decide +kernel
theorem mj_8_3 : 8 ∈ J3 := by decide +kernel
theorem mj_12_3 : 12 ∈ J3 := by decide +kernel
theorem nj_17_4 : 17 ∉ J4 := by decide +kernel
theorem mj_1_4 : 1 ∈ J4 := by decide +kernel
theorem mj_8_4 : 8 ∈ J4 := by decide +kernel
theorem mj_12_4 : 12 ∈ J4 := by decide +kernel
theorem mj_14_4 : 14 ∈ J4 := by decide +kernel
theorem nj_22_5 : 22 ∉ J5 := by decide +kernel
theorem mj_1_5 : 1 ∈ J5 := by decide +kernel
theorem mj_8_5 : 8 ∈ J5 := by decide +kernel
theorem mj_12_5 : 12 ∈ J5 := by decide +kernel
theorem mj_14_5 : 14 ∈ J5 := by decide +kernel
theorem mj_17_5 : 17 ∈ J5 := by decide +kernel
theorem nj_56_6 : 56 ∉ J6 := by decide +kernel
theorem mj_1_6 : 1 ∈ J6 := by decide +kernel
theorem mj_8_6 : 8 ∈ J6 := by decide +kernel
theorem mj_12_6 : 12 ∈ J6 := by decide +kernel
theorem mj_14_6 : 14 ∈ J6 := by decide +kernel
theorem mj_17_6 : 17 ∈ J6 := by decide +kernel
theorem mj_22_6 : 22 ∈ J6 := by decide +kernel
theorem nj_60_7 : 60 ∉ J7 := by decide +kernel
theorem mj_1_7 : 1 ∈ J7 := by decide +kernel
theorem mj_8_7 : 8 ∈ J7 := by decide +kernel
theorem mj_12_7 : 12 ∈ J7 := by decide +kernel
theorem mj_14_7 : 14 ∈ J7 := by decide +kernel
theorem mj_17_7 : 17 ∈ J7 := by decide +kernel
theorem mj_22_7 : 22 ∈ J7 := by decide +kernel
theorem mj_56_7 : 56 ∈ J7 := by decide +kernel
theorem nj_26_8 : 26 ∉ J8 := by decide +kernel
theorem mj_1_8 : 1 ∈ J8 := by decide +kernel
theorem mj_8_8 : 8 ∈ J8 := by decide +kernel
theorem mj_12_8 : 12 ∈ J8 := by decide +kernel
theorem mj_14_8 : 14 ∈ J8 := by decide +kernel
theorem mj_17_8 : 17 ∈ J8 := by decide +kernel
theorem mj_22_8 : 22 ∈ J8 := by decide +kernel
theorem mj_56_8 : 56 ∈ J8 := by decide +kernel
theorem mj_60_8 : 60 ∈ J8 := by decide +kernel
theorem nj_27_9 : 27 ∉ J9 := by decide +kernel
theorem mj_1_9 : 1 ∈ J9 := by decide +kernel
theorem mj_8_9 : 8 ∈ J9 := by decide +kernel
theorem mj_12_9 : 12 ∈ J9 := by decide +kernel
theorem mj_14_9 : 14 ∈ J9 := by decide +kernel
theorem mj_17_9 : 17 ∈ J9 := by decide +kernel
theorem mj_22_9 : 22 ∈ J9 := by decide +kernel
theorem mj_56_9 : 56 ∈ J9 := by decide +kernel
theorem mj_60_9 : 60 ∈ J9 := by decide +kernel
theorem mj_26_9 : 26 ∈ J9 := by decide +kernel
theorem nj_28_10 : 28 ∉ J10 := by decide +kernel
theorem mj_1_10 : 1 ∈ J10 := by decide +kernel
theorem mj_8_10 : 8 ∈ J10 := by decide +kernel
theorem mj_12_10 : 12 ∈ J10 := by decide +kernel
theorem mj_14_10 : 14 ∈ J10 := by decide +kernel
theorem mj_17_10 : 17 ∈ J10 := by decide +kernel
theorem mj_22_10 : 22 ∈ J10 := by decide +kernel
theorem mj_56_10 : 56 ∈ J10 := by decide +kernel
theorem mj_60_10 : 60 ∈ J10 := by decide +kernel
theorem mj_26_10 : 26 ∈ J10 := by decide +kernel
theorem mj_27_10 : 27 ∈ J10 := by decide +kernel
theorem nj_29_11 : 29 ∉ J11 := by decide +kernel
theorem mj_1_11 : 1 ∈ J11 := by decide +kernel
theorem mj_8_11 : 8 ∈ J11 := by decide +kernel
theorem mj_12_11 : 12 ∈ J11 := by decide +kernel
theorem mj_14_11 : 14 ∈ J11 := by decide +kernel
theorem mj_17_11 : 17 ∈ J11 := by decide +kernel
theorem mj_22_11 : 22 ∈ J11 := by decide +kernel
theorem mj_56_11 : 56 ∈ J11 := by decide +kernel
theorem mj_60_11 : 60 ∈ J11 := by decide +kernel
theorem mj_26_11 : 26 ∈ J11 := by decide +kernel
theorem mj_27_11 : 27 ∈ J11 := by decide +kernel
theorem mj_28_11 : 28 ∈ J11 := by decide +kernel
theorem nj_30_12 : 30 ∉ J12 := by decide +kernel
theorem mj_1_12 : 1 ∈ J12 := by decide +kernel
theorem mj_8_12 : 8 ∈ J12 := by decide +kernel
theorem mj_12_12 : 12 ∈ J12 := by decide +kernel
theorem mj_14_12 : 14 ∈ J12 := by decide +kernel
theorem mj_17_12 : 17 ∈ J12 := by decide +kernel
theorem mj_22_12 : 22 ∈ J12 := by decide +kernel
theorem mj_56_12 : 56 ∈ J12 := by decide +kernel
theorem mj_60_12 : 60 ∈ J12 := by decide +kernel
theorem mj_26_12 : 26 ∈ J12 := by decide +kernel
theorem mj_27_12 : 27 ∈ J12 := by decide +kernel
theorem mj_28_12 : 28 ∈ J12 := by decide +kernel
theorem mj_29_12 : 29 ∈ J12 := by decide +kernel
theorem nj_43_13 : 43 ∉ J13 := by decide +kernel
theorem mj_1_13 : 1 ∈ J13 := by decide +kernel
theorem mj_8_13 : 8 ∈ J13 := by decide +kernel
theorem mj_12_13 : 12 ∈ J13 := by decide +kernel
theorem mj_14_13 : 14 ∈ J13 := by decide +kernel
theorem mj_17_13 : 17 ∈ J13 := by decide +kernel
theorem mj_22_13 : 22 ∈ J13 := by decide +kernel
theorem mj_56_13 : 56 ∈ J13 := by decide +kernel
theorem mj_60_13 : 60 ∈ J13 := by decide +kernel
theorem mj_26_13 : 26 ∈ J13 := by decide +kernel
theorem mj_27_13 : 27 ∈ J13 := by decide +kernel
theorem mj_28_13 : 28 ∈ J13 := by decide +kernel
theorem mj_29_13 : 29 ∈ J13 := by decide +kernel
theorem mj_30_13 : 30 ∈ J13 := by decide +kernel
theorem nj_64_14 : 64 ∉ J14 := by decide +kernel
theorem mj_1_14 : 1 ∈ J14 := by decide +kernel
theorem mj_8_14 : 8 ∈ J14 := by decide +kernel
theorem mj_12_14 : 12 ∈ J14 := by decide +kernel
theorem mj_14_14 : 14 ∈ J14 := by decide +kernel
theorem mj_17_14 : 17 ∈ J14 := by decide +kernel
theorem mj_22_14 : 22 ∈ J14 := by decide +kernel
theorem mj_56_14 : 56 ∈ J14 := by decide +kernel
theorem mj_60_14 : 60 ∈ J14 := by decide +kernel
theorem mj_26_14 : 26 ∈ J14 := by decide +kernel
theorem mj_27_14 : 27 ∈ J14 := by decide +kernel
theorem mj_28_14 : 28 ∈ J14 := by decide +kernel
theorem mj_29_14 : 29 ∈ J14 := by decide +kernel
theorem mj_30_14 : 30 ∈ J14 := by decide +kernel
theorem mj_43_14 : 43 ∈ J14 := by decide +kernel
theorem nj_68_15 : 68 ∉ J15 := by decide +kernel
theorem mj_1_15 : 1 ∈ J15 := by decide +kernel
theorem mj_8_15 : 8 ∈ J15 := by decide +kernel
theorem mj_12_15 : 12 ∈ J15 := by decide +kernel
theorem mj_14_15 : 14 ∈ J15 := by decide +kernel
theorem mj_17_15 : 17 ∈ J15 := by decide +kernel
theorem mj_22_15 : 22 ∈ J15 := by decide +kernel
theorem mj_56_15 : 56 ∈ J15 := by decide +kernel
theorem mj_60_15 : 60 ∈ J15 := by decide +kernel
theorem mj_26_15 : 26 ∈ J15 := by decide +kernel
theorem mj_27_15 : 27 ∈ J15 := by decide +kernel
theorem mj_28_15 : 28 ∈ J15 := by decide +kernel
theorem mj_29_15 : 29 ∈ J15 := by decide +kernel
theorem mj_30_15 : 30 ∈ J15 := by decide +kernel
theorem mj_43_15 : 43 ∈ J15 := by decide +kernel
theorem mj_64_15 : 64 ∈ J15 := by decide +kernel
theorem nj_72_16 : 72 ∉ J16 := by decide +kernel
theorem mj_1_16 : 1 ∈ J16 := by decide +kernel
theorem mj_8_16 : 8 ∈ J16 := by decide +kernel
theorem mj_12_16 : 12 ∈ J16 := by decide +kernel
theorem mj_14_16 : 14 ∈ J16 := by decide +kernel
theorem mj_17_16 : 17 ∈ J16 := by decide +kernel
theorem mj_22_16 : 22 ∈ J16 := by decide +kernel
theorem mj_56_16 : 56 ∈ J16 := by decide +kernel
theorem mj_60_16 : 60 ∈ J16 := by decide +kernel
theorem mj_26_16 : 26 ∈ J16 := by decide +kernel
theorem mj_27_16 : 27 ∈ J16 := by decide +kernel
theorem mj_28_16 : 28 ∈ J16 := by decide +kernel
theorem mj_29_16 : 29 ∈ J16 := by decide +kernel
theorem mj_30_16 : 30 ∈ J16 := by decide +kernel
theorem mj_43_16 : 43 ∈ J16 := by decide +kernel
theorem mj_64_16 : 64 ∈ J16 := by decide +kernel
theorem mj_68_16 : 68 ∈ J16 := by decide +kernel
theorem sj_end {a qs : Nat} {cs : ClassId} {w : UU} : (a, .inr (10, [.ref (w.1 1), .ref (w.1 8), .ref (w.1 12), .ref (w.1 14), .ref (w.1 17), .ref (w.1 22), .ref (w.1 56), .ref (w.1 60), .ref qs, .ref (w.1 26), .ref (w.1 27), .ref (w.1 28), .ref (w.1 29), .ref (w.1 30), .ref (w.1 43)])) :: (qs, .inl (cs, 3, .inr (.inr (.inr (.inr (va_up (va_up (va_up (fun _ => none) 0 (some (w.1 64))) 1 (some (w.1 68))) 2 (some (w.1 72)))))))) :: mw J17 w.1 w.2 s0 = mw idJ (fun i => if i = 0 then a else if i = 25 then qs else w.1 i) (fun i => if i = 25 then cs else w.2 i) s0 := by
  have h1 : mw J17 (fun i => if i = 0 then a else if i = 25 then qs else w.1 i) (fun i => if i = 25 then cs else w.2 i) s0 = mw J17 w.1 w.2 s0 := mw_cong (u := w) (v := (fun i => if i = 0 then a else if i = 25 then qs else w.1 i, fun i => if i = 25 then cs else w.2 i)) cl_17 (fun i hi => by
    show (if i = 0 then a else if i = 25 then qs else w.1 i) = w.1 i
    have n0 : ¬ i = 0 := fun e => J17_no.1 (e ▸ hi)
    have n1 : ¬ i = 25 := fun e => J17_no.2 (e ▸ hi)
    rw [if_neg n0, if_neg n1]) (fun i hi => by
    have n1 : ¬ i = 25 := fun e => J17_no.2 (e ▸ hi)
    exact if_neg n1)
  have h2 : (va_up (va_up (va_up (fun _ => none) 0 (some (w.1 64))) 1 (some (w.1 68))) 2 (some (w.1 72))) = rfK (fun i => if i = 0 then a else if i = 25 then qs else w.1 i) 25 25 := by
    funext j
    show _ = if j < 3 then some (if 64 + 4 * j = 0 then a else if 64 + 4 * j = 25 then qs else w.1 (64 + 4 * j)) else none
    match j with
    | 0 => rfl
    | 1 => rfl
    | 2 => rfl
    | j + 3 =>
      rw [if_neg (by omega), va_up_ne _ _ (by omega), va_up_ne _ _ (by omega), va_up_ne _ _ (by omega)]
  show _ = (_, ceK _ _ (kd 0) 0 _ _ _) :: (_, ceK _ _ (kd 25) 25 _ _ _) :: mw J17 _ _ s0
  rw [h1, kd_0, kd_25, ceK_ob (by decide), h2]
  rfl


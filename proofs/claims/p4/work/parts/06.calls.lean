/-! contracts over the world, and calls -/
theorem lw_goodIn {ws : List Cond} (h : ∀ w ∈ ws, w ∈ gw_tbl) : GoodIn gw_tbl ws := fun w hw => ⟨h w hw, good_of_word (List.mem_filter.mp (h w hw)).2⟩
def KPre (D : va_G) (ids : List Nat) (ad : Nat → Nat) (ca : Nat → ClassId) (σ : HS) (sz : Nat) (U : State) : Prop := U.heap.size = sz ∧ va_P D vwCl (mw ids ad ca σ) U.heap ∧ va_K D vwCl (tys ids ca) U ∧ va_D (fun _ => True) (mw ids ad ca σ) ∧ EN U
def KAt (D : va_G) (ids : List Nat) (ad : Nat → Nat) (ca : Nat → ClassId) (A : Nat → Prop) (σ : HS) (t : State) : Prop := va_P D vwCl (mw ids ad ca σ) t.heap ∧ va_K D vwCl (tys ids ca) t ∧ va_D A (mw ids ad ca σ)
/-- y, called with av in the world σ, answers r and leaves a world, as post says -/
def Ki (l : Launch) (D : va_G) (ids : List Nat) (ad : Nat → Nat) (ca : Nat → ClassId) (y : MethodName) (cc : ByteArray) (nL : Nat) (ty : FieldType) (fr lo : Nat) (av : List Value) (σ : HS) (post : Int32 → HS → Prop) : Prop :=
  ∀ sz : Nat, Met l y (.code y cc nL (some ty) :: gw_tbl) { frames := fr, cells := 0, slots := 0, locals := lo } (va_Pc av (KPre D ids ad ca σ sz)) (va_Qi post (KAt D ids ad ca (va_A (mw ids ad ca σ) sz)) (va_A (mw ids ad ca σ) sz)) 0 0 (va_A (mw ids ad ca σ) sz)
def Kv (l : Launch) (D : va_G) (ids : List Nat) (ad : Nat → Nat) (ca : Nat → ClassId) (y : MethodName) (cc : ByteArray) (nL : Nat) (fr lo : Nat) (av : List Value) (σ : HS) (post : HS → Prop) : Prop :=
  ∀ sz : Nat, Met l y (.code y cc nL none :: gw_tbl) { frames := fr, cells := 0, slots := 0, locals := lo } (va_Pc av (KPre D ids ad ca σ sz)) (va_Qv post (KAt D ids ad ca (va_A (mw ids ad ca σ) sz)) (va_A (mw ids ad ca σ) sz)) 0 0 (va_A (mw ids ad ca σ) sz)
def Kl (l : Launch) (D : va_G) (ids : List Nat) (ad : Nat → Nat) (ca : Nat → ClassId) (y : MethodName) (cc : ByteArray) (nL : Nat) (fr lo : Nat) (av : List Value) (σ : HS) (post : Int64 → HS → Prop) : Prop :=
  ∀ sz : Nat, Met l y (.code y cc nL (some .long) :: gw_tbl) { frames := fr, cells := 0, slots := 0, locals := lo } (va_Pc av (KPre D ids ad ca σ sz)) (va_Ql post (KAt D ids ad ca (va_A (mw ids ad ca σ) sz)) (va_A (mw ids ad ca σ) sz)) 0 0 (va_A (mw ids ad ca σ) sz)
def RI (ids : List Nat) (ad : Nat → Nat) (ca : Nat → ClassId) (Γ : GT) (cc : ByteArray) (ty : FieldType) (post : Int32 → HS → Prop) : Prop := match Γ with
  | (p, l, e, R, s, m, args, below, meth, c, kc, ks, Q, D, A, H0, nL) => ∀ (H : Heap) (locs : List Loc) (ls : Array Slot) (pc : Nat) (σ : HS) (v : Int32), va_P D vwCl (mw ids ad ca σ) H → va_S A H0 H locs → post v σ → decode cc pc = .ok (.ireturn, 1) → narrow ty (.int v) = .int v → W p l e R s m args below meth c H locs kc ks Q (F0 m pc ls [.int v])
def RV (ids : List Nat) (ad : Nat → Nat) (ca : Nat → ClassId) (Γ : GT) (cc : ByteArray) (post : HS → Prop) : Prop := match Γ with
  | (p, l, e, R, s, m, args, below, meth, c, kc, ks, Q, D, A, H0, nL) => ∀ (H : Heap) (locs : List Loc) (ls : Array Slot) (pc : Nat) (σ : HS), va_P D vwCl (mw ids ad ca σ) H → va_S A H0 H locs → post σ → decode cc pc = .ok (.return_, 1) → W p l e R s m args below meth c H locs kc ks Q (F0 m pc ls [])
def RL_ (ids : List Nat) (ad : Nat → Nat) (ca : Nat → ClassId) (Γ : GT) (cc : ByteArray) (post : Int64 → HS → Prop) : Prop := match Γ with
  | (p, l, e, R, s, m, args, below, meth, c, kc, ks, Q, D, A, H0, nL) => ∀ (H : Heap) (locs : List Loc) (ls : Array Slot) (pc : Nat) (σ : HS) (v : Int64), va_P D vwCl (mw ids ad ca σ) H → va_S A H0 H locs → post v σ → decode cc pc = .ok (.lreturn, 1) → W p l e R s m args below meth c H locs kc ks Q (F0 m pc ls [.long v])
section KR
variable {l : Launch} {D : va_G} {ids : List Nat} {ad : Nat → Nat} {ca : Nat → ClassId} {y : MethodName} {cc : ByteArray} {nL fr lo : Nat} {ty : FieldType} {av : List Value} {σ : HS}
theorem Ki.of {post : Int32 → HS → Prop} (hy : plainName y.cls = true) (hL : (lg_sl av).length ≤ nL) (z : Nat)
    (body : ∀ Γ : GT, CT ids ad ca Γ cc y.cls l D fr lo nL → RI ids ad ca Γ cc ty post → AW ids ad ca Γ 0 (entL av ++ List.replicate z none) [] σ) : Ki l D ids ad ca y cc nL ty fr lo av σ post := by
  intro sz
  refine Met.ofW (cc := cc) (maxL := nL) (ret := some ty) hy rfl ?_
  intro p e s m args below meth c s₁ B hml hv
  obtain ⟨rfl, hsz, hP, hK, hD0, hE⟩ := hv
  have hts := atoms_spec (ws := (.code y cc nL (some ty) :: gw_tbl)) B.pre
  subst hsz
  have hD := hD0.self (sz := s.heap.size)
  rw [lg_entry_eq]
  refine body (p, l, e, { frames := fr, cells := 0, slots := 0, locals := lo }, s, m, av.toArray, below, meth, c, 0, 0, _, D, va_A (mw ids ad ca σ) s.heap.size, s.heap, nL) ⟨⟨B.exec, B.bytes, hml, findClass_of_methodNamed B.named, fun w h => hts w (List.mem_cons_of_mem _ h)⟩, hK, hE, fun σ' => mw_D hD σ', fun q h => Or.inr h, rfl, rfl, Nat.le_refl _, Nat.le_refl _, Nat.le_refl _, Nat.le_refl _, rfl⟩ ?_ s.heap [] _ hP va_S.rf (LV.entry av hL z)
  intro H locs ls pc σ' v hP' hS hp hd hn
  exact W.zret B.exec B.bytes B.returns hn (fun t ht hW => ⟨⟨v, σ', rfl, hp, by rw [ht]; exact hP', va_K.moved hW.alike hK, mw_D hD σ'⟩, hS.F ht⟩) hS.2.2 hd B.notSynchronized
theorem Kv.of {post : HS → Prop} (hy : plainName y.cls = true) (hL : (lg_sl av).length ≤ nL) (z : Nat)
    (body : ∀ Γ : GT, CT ids ad ca Γ cc y.cls l D fr lo nL → RV ids ad ca Γ cc post → AW ids ad ca Γ 0 (entL av ++ List.replicate z none) [] σ) : Kv l D ids ad ca y cc nL fr lo av σ post := by
  intro sz
  refine Met.ofW (cc := cc) (maxL := nL) (ret := none) hy rfl ?_
  intro p e s m args below meth c s₁ B hml hv
  obtain ⟨rfl, hsz, hP, hK, hD0, hE⟩ := hv
  have hts := atoms_spec (ws := (.code y cc nL none :: gw_tbl)) B.pre
  subst hsz
  have hD := hD0.self (sz := s.heap.size)
  rw [lg_entry_eq]
  refine body (p, l, e, { frames := fr, cells := 0, slots := 0, locals := lo }, s, m, av.toArray, below, meth, c, 0, 0, _, D, va_A (mw ids ad ca σ) s.heap.size, s.heap, nL) ⟨⟨B.exec, B.bytes, hml, findClass_of_methodNamed B.named, fun w h => hts w (List.mem_cons_of_mem _ h)⟩, hK, hE, fun σ' => mw_D hD σ', fun q h => Or.inr h, rfl, rfl, Nat.le_refl _, Nat.le_refl _, Nat.le_refl _, Nat.le_refl _, rfl⟩ ?_ s.heap [] _ hP va_S.rf (LV.entry av hL z)
  intro H locs ls pc σ' hP' hS hp hd
  exact W.vret B.exec B.bytes B.returns (fun t ht hW => ⟨⟨σ', rfl, hp, by rw [ht]; exact hP', va_K.moved hW.alike hK, mw_D hD σ'⟩, hS.F ht⟩) hS.2.2 hd B.notSynchronized
theorem Kl.of {post : Int64 → HS → Prop} (hy : plainName y.cls = true) (hL : (lg_sl av).length ≤ nL) (z : Nat)
    (body : ∀ Γ : GT, CT ids ad ca Γ cc y.cls l D fr lo nL → RL_ ids ad ca Γ cc post → AW ids ad ca Γ 0 (entL av ++ List.replicate z none) [] σ) : Kl l D ids ad ca y cc nL fr lo av σ post := by
  intro sz
  refine Met.ofW (cc := cc) (maxL := nL) (ret := some .long) hy rfl ?_
  intro p e s m args below meth c s₁ B hml hv
  obtain ⟨rfl, hsz, hP, hK, hD0, hE⟩ := hv
  have hts := atoms_spec (ws := (.code y cc nL (some .long) :: gw_tbl)) B.pre
  subst hsz
  have hD := hD0.self (sz := s.heap.size)
  rw [lg_entry_eq]
  refine body (p, l, e, { frames := fr, cells := 0, slots := 0, locals := lo }, s, m, av.toArray, below, meth, c, 0, 0, _, D, va_A (mw ids ad ca σ) s.heap.size, s.heap, nL) ⟨⟨B.exec, B.bytes, hml, findClass_of_methodNamed B.named, fun w h => hts w (List.mem_cons_of_mem _ h)⟩, hK, hE, fun σ' => mw_D hD σ', fun q h => Or.inr h, rfl, rfl, Nat.le_refl _, Nat.le_refl _, Nat.le_refl _, Nat.le_refl _, rfl⟩ ?_ s.heap [] _ hP va_S.rf (LV.entry av hL z)
  intro H locs ls pc σ' v hP' hS hp hd
  exact W.lret B.exec B.bytes B.returns (fun t ht hW => ⟨⟨v, σ', rfl, hp, by rw [ht]; exact hP', va_K.moved hW.alike hK, mw_D hD σ'⟩, hS.F ht⟩) hS.2.2 hd B.notSynchronized
end KR
section RETR
variable {ids : List Nat} {ad : Nat → Nat} {ca : Nat → ClassId} {Γ : GT} {cc : ByteArray} {own : String} {l0 : Launch} {D0 : va_G} {fr lo nL0 : Nat} {pc : Nat} {vs : List (Option Value)} {st : List Value} {σ : HS}
theorem a_iret {ty : FieldType} {post : Int32 → HS → Prop} {v : Int32} (Rt : RI ids ad ca Γ cc ty post) (hd : decode cc pc = .ok (.ireturn, 1)) (hn : narrow ty (.int v) = .int v) (hp : post v σ) : AW ids ad ca Γ pc vs [.int v] σ := by
  obtain ⟨p, l, e, R, s, m, args, below, meth, c, kc, ks, Q, D, A, H0, nL⟩ := Γ
  intro H locs ls hP hS hl
  exact Rt H locs ls pc σ v hP hS hp hd hn
theorem a_vret {post : HS → Prop} (Rt : RV ids ad ca Γ cc post) (hd : decode cc pc = .ok (.return_, 1)) (hp : post σ) : AW ids ad ca Γ pc vs [] σ := by
  obtain ⟨p, l, e, R, s, m, args, below, meth, c, kc, ks, Q, D, A, H0, nL⟩ := Γ
  intro H locs ls hP hS hl
  exact Rt H locs ls pc σ hP hS hp hd
theorem a_lret {post : Int64 → HS → Prop} {v : Int64} (Rt : RL_ ids ad ca Γ cc post) (hd : decode cc pc = .ok (.lreturn, 1)) (hp : post v σ) : AW ids ad ca Γ pc vs [.long v] σ := by
  obtain ⟨p, l, e, R, s, m, args, below, meth, c, kc, ks, Q, D, A, H0, nL⟩ := Γ
  intro H locs ls hP hS hl
  exact Rt H locs ls pc σ v hP hS hp hd
theorem KPre.blind {D : va_G} {av : List Value} {sz : Nat} : FrameBlind (va_Pc av (KPre D ids ad ca σ sz)) := fun a U g mk q => by
  obtain ⟨q0, q1, qP, qK, qD, qE⟩ := q
  exact ⟨q0, q1, qP, va_K.moved (u := U) (U := U.calling g mk a) (Vm.Alike.refl U.vm) qK, qD, EN.same (s := U) (U := U.calling g mk a) rfl qE⟩
theorem mw_freeA {A : Nat → Prop} {H0 H : Heap} {locs : List Loc} (hD : va_D A (mw ids ad ca σ)) (hS : va_S A H0 H locs) (hA : ∀ q, H0.size ≤ q → A q) : ∀ q, va_A (mw ids ad ca σ) H.size q → A q := fun q h => by
  rcases h with ⟨k, e, h⟩ | h
  · exact hD.2 k (q, e) h
  · exact hA q (Nat.le_trans hS.1 h)
-- GENERATED by calls.py
theorem a_callVi (C : CT ids ad ca Γ cc own l0 D0 fr lo nL0) {y : MethodName} {cc' : ByteArray} {nL' fr' lo' n ix : Nat} {ty : FieldType} {As st0 : List Value} {post : Int32 → HS → Prop} {i n0 : Nat} (hk : kd i = n0) (hi : i ∈ ids) (hq : ∃ (T : u_T) (N : Nat), vwCl[n0]? = some (y.cls, T, N)) (h12 : n0 < 12) (hM : Ki l0 D0 ids ad ca y cc' nL' ty fr' lo' (.ref (ad i) :: As) σ post) (hw : MI y cc' nL' (some ty) n) (hlink : Cond.methodLink own ix y ∈ gw_tbl) (hst : st0 = As.reverse ++ .ref (ad i) :: st) (hn : As.length = n) (hf1 : fr' + 1 ≤ fr) (hl1 : 8 + (nL' + 11) + lo' ≤ lo) (hcat : (st.map fun v => v.category).sum ≤ 8) (hd : decode cc pc = .ok (.invokevirtual ix, 3)) (k : ∀ (r : Int32) (σ' : HS), post r σ' → AW ids ad ca Γ (pc + 3) vs (.int r :: st) σ') : AW ids ad ca Γ pc vs st0 σ := by
  obtain ⟨p, l, e, R, s, m, args, below, meth, c, kc, ks, Q, D, A, H0, nL⟩ := Γ
  obtain ⟨⟨hx, hb, hml, hown, hts⟩, hK, hE, hD, hA0, rfl, rfl, hfr, hlo, hkc, hks, rfl⟩ := C
  intro H locs ls hP hS hl
  obtain ⟨w1, w2, w3, w4, w5, w6, w7⟩ := hw
  obtain ⟨T, N, hq⟩ := hq
  subst hst
  obtain ⟨ip, hip, hg⟩ := mw_get (ad := ad) (ca := ca) hi
  have hg := hg σ
  rw [hk, ceK_ob h12] at hg
  have hG : GoodIn gw_tbl (wsV own ix y.cls y (.code y cc' nL' (some ty) :: gw_tbl)) := lw_goodIn (fun w h => by
    simp only [wsV, List.cons_append, List.nil_append, List.mem_cons] at h
    rcases h with rfl | rfl | rfl | rfl | rfl | h
    · exact hlink
    · exact w1
    · exact w2
    · exact w3
    · exact w4
    · exact h)
  have hFc := mw_freeA (hD σ) hS hA0
  refine va_calli (va_runV (As := As) (rest := st) ⟨hx, hb, hml, hown, hts⟩ (hM H.size) (cwV n hts hG rfl rfl rfl ⟨rfl, w5, w6, w7⟩ ⟨Nat.le_trans hf1 hfr, Nat.le_trans hl1 hlo⟩) ⟨KPre.blind, va_recv hK hP hq hg, fun U hU hW => ⟨rfl, by rw [hU], by rw [hU]; exact hP, va_K.moved hW.alike hK, (hD σ).weaken (fun _ _ _ _ => trivial), hE.warm hW⟩⟩ rfl hn hl.1 rfl (lv_room hcat) hd ⟨hkc, hks⟩) hS (fun q _ h => hFc q h) hFc (fun r u t H1 locs1 ht hvm hw hB hz1 hk1 hS1 => ?_)
  have hP1 := hB.1
  rw [ht] at hP1
  exact k r u hw H1 locs1 ls hP1 hS1 hl
theorem a_callVv (C : CT ids ad ca Γ cc own l0 D0 fr lo nL0) {y : MethodName} {cc' : ByteArray} {nL' fr' lo' n ix : Nat} {As st0 : List Value} {post : HS → Prop} {i n0 : Nat} (hk : kd i = n0) (hi : i ∈ ids) (hq : ∃ (T : u_T) (N : Nat), vwCl[n0]? = some (y.cls, T, N)) (h12 : n0 < 12) (hM : Kv l0 D0 ids ad ca y cc' nL' fr' lo' (.ref (ad i) :: As) σ post) (hw : MI y cc' nL' none n) (hlink : Cond.methodLink own ix y ∈ gw_tbl) (hst : st0 = As.reverse ++ .ref (ad i) :: st) (hn : As.length = n) (hf1 : fr' + 1 ≤ fr) (hl1 : 8 + (nL' + 11) + lo' ≤ lo) (hcat : (st.map fun v => v.category).sum ≤ 8) (hd : decode cc pc = .ok (.invokevirtual ix, 3)) (k : ∀ (σ' : HS), post σ' → AW ids ad ca Γ (pc + 3) vs st σ') : AW ids ad ca Γ pc vs st0 σ := by
  obtain ⟨p, l, e, R, s, m, args, below, meth, c, kc, ks, Q, D, A, H0, nL⟩ := Γ
  obtain ⟨⟨hx, hb, hml, hown, hts⟩, hK, hE, hD, hA0, rfl, rfl, hfr, hlo, hkc, hks, rfl⟩ := C
  intro H locs ls hP hS hl
  obtain ⟨w1, w2, w3, w4, w5, w6, w7⟩ := hw
  obtain ⟨T, N, hq⟩ := hq
  subst hst
  obtain ⟨ip, hip, hg⟩ := mw_get (ad := ad) (ca := ca) hi
  have hg := hg σ
  rw [hk, ceK_ob h12] at hg
  have hG : GoodIn gw_tbl (wsV own ix y.cls y (.code y cc' nL' none :: gw_tbl)) := lw_goodIn (fun w h => by
    simp only [wsV, List.cons_append, List.nil_append, List.mem_cons] at h
    rcases h with rfl | rfl | rfl | rfl | rfl | h
    · exact hlink
    · exact w1
    · exact w2
    · exact w3
    · exact w4
    · exact h)
  have hFc := mw_freeA (hD σ) hS hA0
  refine va_callv (va_runV (As := As) (rest := st) ⟨hx, hb, hml, hown, hts⟩ (hM H.size) (cwV n hts hG rfl rfl rfl ⟨rfl, w5, w6, w7⟩ ⟨Nat.le_trans hf1 hfr, Nat.le_trans hl1 hlo⟩) ⟨KPre.blind, va_recv hK hP hq hg, fun U hU hW => ⟨rfl, by rw [hU], by rw [hU]; exact hP, va_K.moved hW.alike hK, (hD σ).weaken (fun _ _ _ _ => trivial), hE.warm hW⟩⟩ rfl hn hl.1 rfl (lv_room hcat) hd ⟨hkc, hks⟩) hS (fun q _ h => hFc q h) hFc (fun u t H1 locs1 ht hvm hw hB hz1 hk1 hS1 => ?_)
  have hP1 := hB.1
  rw [ht] at hP1
  exact k u hw H1 locs1 ls hP1 hS1 hl
theorem a_callSi (C : CT ids ad ca Γ cc own l0 D0 fr lo nL0) {y : MethodName} {cc' : ByteArray} {nL' fr' lo' n ix : Nat} {ty : FieldType} {As st0 : List Value} {post : Int32 → HS → Prop} (hM : Ki l0 D0 ids ad ca y cc' nL' ty fr' lo' As σ post) (hw : MS y cc' nL' (some ty) n) (hlink : Cond.methodLink own ix y ∈ gw_tbl) (hst : st0 = As.reverse ++ st) (hn : As.length = n) (hf1 : fr' + 1 ≤ fr) (hl1 : 8 + (nL' + 11) + lo' ≤ lo) (hcat : (st.map fun v => v.category).sum ≤ 8) (hd : decode cc pc = .ok (.invokestatic ix, 3)) (k : ∀ (r : Int32) (σ' : HS), post r σ' → AW ids ad ca Γ (pc + 3) vs (.int r :: st) σ') : AW ids ad ca Γ pc vs st0 σ := by
  obtain ⟨p, l, e, R, s, m, args, below, meth, c, kc, ks, Q, D, A, H0, nL⟩ := Γ
  obtain ⟨⟨hx, hb, hml, hown, hts⟩, hK, hE, hD, hA0, rfl, rfl, hfr, hlo, hkc, hks, rfl⟩ := C
  intro H locs ls hP hS hl
  obtain ⟨w1, w3, w4, w5, w6, w7⟩ := hw
  subst hst
  have hG : GoodIn gw_tbl (va_wsS own ix y (.code y cc' nL' (some ty) :: gw_tbl)) := lw_goodIn (fun w h => by
    simp only [va_wsS, List.cons_append, List.nil_append, List.mem_cons] at h
    rcases h with rfl | rfl | rfl | rfl | h
    · exact hlink
    · exact w1
    · exact w3
    · exact w4
    · exact h)
  have hFc := mw_freeA (hD σ) hS hA0
  refine va_calli (va_runS (As := As) (rest := st) ⟨hx, hb, hml, hown, hts⟩ (hM H.size) (va_cwS n hts hG rfl rfl rfl ⟨w5, w6, w7⟩ ⟨Nat.le_trans hf1 hfr, Nat.le_trans hl1 hlo⟩) ⟨KPre.blind, fun U hU hW => ⟨rfl, by rw [hU], by rw [hU]; exact hP, va_K.moved hW.alike hK, (hD σ).weaken (fun _ _ _ _ => trivial), hE.warm hW⟩⟩ rfl hn hl.1 rfl (lv_room hcat) hd ⟨hkc, hks⟩) hS (fun q _ h => hFc q h) hFc (fun r u t H1 locs1 ht hvm hw hB hz1 hk1 hS1 => ?_)
  have hP1 := hB.1
  rw [ht] at hP1
  exact k r u hw H1 locs1 ls hP1 hS1 hl
theorem a_callSv (C : CT ids ad ca Γ cc own l0 D0 fr lo nL0) {y : MethodName} {cc' : ByteArray} {nL' fr' lo' n ix : Nat} {As st0 : List Value} {post : HS → Prop} (hM : Kv l0 D0 ids ad ca y cc' nL' fr' lo' As σ post) (hw : MS y cc' nL' none n) (hlink : Cond.methodLink own ix y ∈ gw_tbl) (hst : st0 = As.reverse ++ st) (hn : As.length = n) (hf1 : fr' + 1 ≤ fr) (hl1 : 8 + (nL' + 11) + lo' ≤ lo) (hcat : (st.map fun v => v.category).sum ≤ 8) (hd : decode cc pc = .ok (.invokestatic ix, 3)) (k : ∀ (σ' : HS), post σ' → AW ids ad ca Γ (pc + 3) vs st σ') : AW ids ad ca Γ pc vs st0 σ := by
  obtain ⟨p, l, e, R, s, m, args, below, meth, c, kc, ks, Q, D, A, H0, nL⟩ := Γ
  obtain ⟨⟨hx, hb, hml, hown, hts⟩, hK, hE, hD, hA0, rfl, rfl, hfr, hlo, hkc, hks, rfl⟩ := C
  intro H locs ls hP hS hl
  obtain ⟨w1, w3, w4, w5, w6, w7⟩ := hw
  subst hst
  have hG : GoodIn gw_tbl (va_wsS own ix y (.code y cc' nL' none :: gw_tbl)) := lw_goodIn (fun w h => by
    simp only [va_wsS, List.cons_append, List.nil_append, List.mem_cons] at h
    rcases h with rfl | rfl | rfl | rfl | h
    · exact hlink
    · exact w1
    · exact w3
    · exact w4
    · exact h)
  have hFc := mw_freeA (hD σ) hS hA0
  refine va_callv (va_runS (As := As) (rest := st) ⟨hx, hb, hml, hown, hts⟩ (hM H.size) (va_cwS n hts hG rfl rfl rfl ⟨w5, w6, w7⟩ ⟨Nat.le_trans hf1 hfr, Nat.le_trans hl1 hlo⟩) ⟨KPre.blind, fun U hU hW => ⟨rfl, by rw [hU], by rw [hU]; exact hP, va_K.moved hW.alike hK, (hD σ).weaken (fun _ _ _ _ => trivial), hE.warm hW⟩⟩ rfl hn hl.1 rfl (lv_room hcat) hd ⟨hkc, hks⟩) hS (fun q _ h => hFc q h) hFc (fun u t H1 locs1 ht hvm hw hB hz1 hk1 hS1 => ?_)
  have hP1 := hB.1
  rw [ht] at hP1
  exact k u hw H1 locs1 ls hP1 hS1 hl
theorem a_callSl (C : CT ids ad ca Γ cc own l0 D0 fr lo nL0) {y : MethodName} {cc' : ByteArray} {nL' fr' lo' n ix : Nat} {As st0 : List Value} {post : Int64 → HS → Prop} (hM : Kl l0 D0 ids ad ca y cc' nL' fr' lo' As σ post) (hw : MS y cc' nL' (some .long) n) (hlink : Cond.methodLink own ix y ∈ gw_tbl) (hst : st0 = As.reverse ++ st) (hn : As.length = n) (hf1 : fr' + 1 ≤ fr) (hl1 : 8 + (nL' + 11) + lo' ≤ lo) (hcat : (st.map fun v => v.category).sum ≤ 8) (hd : decode cc pc = .ok (.invokestatic ix, 3)) (k : ∀ (r : Int64) (σ' : HS), post r σ' → AW ids ad ca Γ (pc + 3) vs (.long r :: st) σ') : AW ids ad ca Γ pc vs st0 σ := by
  obtain ⟨p, l, e, R, s, m, args, below, meth, c, kc, ks, Q, D, A, H0, nL⟩ := Γ
  obtain ⟨⟨hx, hb, hml, hown, hts⟩, hK, hE, hD, hA0, rfl, rfl, hfr, hlo, hkc, hks, rfl⟩ := C
  intro H locs ls hP hS hl
  obtain ⟨w1, w3, w4, w5, w6, w7⟩ := hw
  subst hst
  have hG : GoodIn gw_tbl (va_wsS own ix y (.code y cc' nL' (some .long) :: gw_tbl)) := lw_goodIn (fun w h => by
    simp only [va_wsS, List.cons_append, List.nil_append, List.mem_cons] at h
    rcases h with rfl | rfl | rfl | rfl | h
    · exact hlink
    · exact w1
    · exact w3
    · exact w4
    · exact h)
  have hFc := mw_freeA (hD σ) hS hA0
  refine va_calll (va_runS (As := As) (rest := st) ⟨hx, hb, hml, hown, hts⟩ (hM H.size) (va_cwS n hts hG rfl rfl rfl ⟨w5, w6, w7⟩ ⟨Nat.le_trans hf1 hfr, Nat.le_trans hl1 hlo⟩) ⟨KPre.blind, fun U hU hW => ⟨rfl, by rw [hU], by rw [hU]; exact hP, va_K.moved hW.alike hK, (hD σ).weaken (fun _ _ _ _ => trivial), hE.warm hW⟩⟩ rfl hn hl.1 rfl (lv_room hcat) hd ⟨hkc, hks⟩) hS (fun q _ h => hFc q h) hFc (fun r u t H1 locs1 ht hvm hw hB hz1 hk1 hS1 => ?_)
  have hP1 := hB.1
  rw [ht] at hP1
  exact k r u hw H1 locs1 ls hP1 hS1 hl
end RETR

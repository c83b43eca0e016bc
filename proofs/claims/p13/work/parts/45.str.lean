/-! the String constants beside the world -/
def txW : String := "thing pattern tires drops force pays rests seed if then else weight edge height beat tired up which caught hand "
def txS : String := ";=+-*/<()"
def lenS : List Nat := [112, 9]
def bytS : List (List Int32) := [[116, 104, 105, 110, 103, 32, 112, 97, 116, 116, 101, 114, 110, 32, 116, 105, 114, 101, 115, 32, 100, 114, 111, 112, 115, 32, 102, 111, 114, 99, 101, 32, 112, 97, 121, 115, 32, 114, 101, 115, 116, 115, 32, 115, 101, 101, 100, 32, 105, 102, 32, 116, 104, 101, 110, 32, 101, 108, 115, 101, 32, 119, 101, 105, 103, 104, 116, 32, 101, 100, 103, 101, 32, 104, 101, 105, 103, 104, 116, 32, 98, 101, 97, 116, 32, 116, 105, 114, 101, 100, 32, 117, 112, 32, 119, 104, 105, 99, 104, 32, 99, 97, 117, 103, 104, 116, 32, 104, 97, 110, 100, 32], [59, 61, 43, 45, 42, 47, 60, 40, 41]]
def chS (i j : Nat) : Int32 := ((((bytS.getD i []).getD j 0) &&& 255).toUInt32 % 65536).toInt32
/-- the two literals and the JDK's two statics, at a state -/
def SE (K : (Nat → Nat) × (Nat → Nat)) (A : Nat → Prop) (U : State) : Prop := vk_S 2 lenS bytS K.1 K.2 A U U.heap ∧ vk_R RX9 67 txW (K.1 0) U ∧ vk_R RX9 52 txS (K.1 1) U ∧ va_Z RJ0 "COMPACT_STRINGS" "Z" (.int 1) A U U.heap ∧ va_Zq RJ3 "SIOOBE_FORMATTER" "Ljava/util/function/BiFunction;" A U U.heap
theorem SE.go {K : (Nat → Nat) × (Nat → Nat)} {A B : Nat → Prop} {s U : State} {H : Heap} {locs : List Loc} (h : SE K A s) (hU : U.heap = H) (hW : s.WarmedH U.vm) (hS : va_S A s.heap H locs) (hB : ∀ q, B q → A q) : SE K B U := by
  obtain ⟨h1, h2, h3, h4, h5⟩ := h
  subst hU
  exact ⟨((h1.kept hS.2.1).moved hW.alike).narrow hB, h2.warm hW, h3.warm hW, ((h4.kept hS.2.1).moved hW.alike).narrow hB, ((h5.kept hS.2.1).moved hW.alike).narrow hB⟩
theorem SE.same {K : (Nat → Nat) × (Nat → Nat)} {A : Nat → Prop} {s U : State} (h : SE K A s) (hv : U.vm = s.vm) (hh : U.heap = s.heap) : SE K A U := by
  obtain ⟨h1, h2, h3, h4, h5⟩ := h
  have ha : s.vm.Alike U.vm := by rw [hv]; exact Vm.Alike.refl s.vm
  unfold SE
  rw [hh]
  exact ⟨h1.moved ha, h2.same hv, h3.same hv, h4.moved ha, h5.moved ha⟩
def SG (K : (Nat → Nat) × (Nat → Nat)) (Γ : GT) : Prop := match Γ with
  | (_, _, _, _, s, _, _, _, _, _, _, _, _, _, A, H0, _) => H0 = s.heap ∧ SE K A s
def KPreS (K : (Nat → Nat) × (Nat → Nat)) (D : va_G) (ids : List Nat) (ad : Nat → Nat) (ca : Nat → ClassId) (σ : HS) (sz : Nat) (U : State) : Prop := KPre D ids ad ca σ sz U ∧ SE K (va_A (mw ids ad ca σ) sz) U
theorem KPreS.blind {K : (Nat → Nat) × (Nat → Nat)} {ids : List Nat} {ad : Nat → Nat} {ca : Nat → ClassId} {σ : HS} {D : va_G} {av : List Value} {sz : Nat} : FrameBlind (va_Pc av (KPreS K D ids ad ca σ sz)) := fun a U g mk q => by
  obtain ⟨q0, ⟨q1, qP, qK, qD, qE⟩, qS⟩ := q
  exact ⟨q0, ⟨q1, qP, va_K.moved (u := U) (U := U.calling g mk a) (Vm.Alike.refl U.vm) qK, qD, EN.same (s := U) (U := U.calling g mk a) rfl qE⟩, SE.same (U := U.calling g mk a) qS rfl rfl⟩
def KiS (l : Launch) (D : va_G) (ids : List Nat) (ad : Nat → Nat) (ca : Nat → ClassId) (K : (Nat → Nat) × (Nat → Nat)) (y : MethodName) (cc : ByteArray) (nL : Nat) (ty : FieldType) (fr lo : Nat) (av : List Value) (σ : HS) (post : Int32 → HS → Prop) : Prop :=
  ∀ sz : Nat, Met l y (.code y cc nL (some ty) :: gw_tbl) { frames := fr, cells := 0, slots := 0, locals := lo } (va_Pc av (KPreS K D ids ad ca σ sz)) (va_Qi post (KAt D ids ad ca (va_A (mw ids ad ca σ) sz)) (va_A (mw ids ad ca σ) sz)) 0 0 (va_A (mw ids ad ca σ) sz)
def KvS (l : Launch) (D : va_G) (ids : List Nat) (ad : Nat → Nat) (ca : Nat → ClassId) (K : (Nat → Nat) × (Nat → Nat)) (y : MethodName) (cc : ByteArray) (nL : Nat) (fr lo : Nat) (av : List Value) (σ : HS) (post : HS → Prop) : Prop :=
  ∀ sz : Nat, Met l y (.code y cc nL none :: gw_tbl) { frames := fr, cells := 0, slots := 0, locals := lo } (va_Pc av (KPreS K D ids ad ca σ sz)) (va_Qv post (KAt D ids ad ca (va_A (mw ids ad ca σ) sz)) (va_A (mw ids ad ca σ) sz)) 0 0 (va_A (mw ids ad ca σ) sz)
theorem KiS.of {l : Launch} {D : va_G} {ids : List Nat} {ad : Nat → Nat} {ca : Nat → ClassId} {K : (Nat → Nat) × (Nat → Nat)} {y : MethodName} {cc : ByteArray} {nL fr lo : Nat} {ty : FieldType} {av : List Value} {σ : HS} {post : Int32 → HS → Prop} (hy : plainName y.cls = true) (hL : (lg_sl av).length ≤ nL) (z : Nat)
    (body : ∀ Γ : GT, CT ids ad ca Γ cc y.cls l D fr lo nL → SG K Γ → RI ids ad ca Γ cc ty post → AW ids ad ca Γ 0 (entL av ++ List.replicate z none) [] σ) : KiS l D ids ad ca K y cc nL ty fr lo av σ post := by
  intro sz
  refine Met.ofW (cc := cc) (maxL := nL) (ret := some ty) hy rfl ?_
  intro p e s m args below meth c s₁ B hml hv
  obtain ⟨rfl, ⟨hsz, hP, hK, hD0, hE⟩, hSE⟩ := hv
  have hts := atoms_spec (ws := (.code y cc nL (some ty) :: gw_tbl)) B.pre
  subst hsz
  have hD := hD0.self (sz := s.heap.size)
  rw [lg_entry_eq]
  refine body (p, l, e, { frames := fr, cells := 0, slots := 0, locals := lo }, s, m, av.toArray, below, meth, c, 0, 0, _, D, va_A (mw ids ad ca σ) s.heap.size, s.heap, nL) ⟨⟨B.exec, B.bytes, hml, findClass_of_methodNamed B.named, fun w h => hts w (List.mem_cons_of_mem _ h)⟩, hK, hE, fun σ' => mw_D hD σ', fun q h => Or.inr h, rfl, rfl, Nat.le_refl _, Nat.le_refl _, Nat.le_refl _, Nat.le_refl _, rfl⟩ ⟨rfl, hSE⟩ ?_ s.heap [] _ hP va_S.rf (LV.entry av hL z)
  intro H locs ls pc σ' v hP' hS hp hd hn
  exact W.zret B.exec B.bytes B.returns hn (fun t ht hW => ⟨⟨v, σ', rfl, hp, by rw [ht]; exact hP', va_K.moved hW.alike hK, mw_D hD σ'⟩, hS.F ht⟩) hS.2.2 hd B.notSynchronized
theorem KiS.ofF {l : Launch} {D : va_G} {ids : List Nat} {ad : Nat → Nat} {ca : Nat → ClassId} {K : (Nat → Nat) × (Nat → Nat)} {y : MethodName} {cc : ByteArray} {nL fr lo : Nat} {ty : FieldType} {av : List Value} {σ : HS} {post : Int32 → HS → Prop} (hy : plainFor y = true) (hL : (lg_sl av).length ≤ nL) (z : Nat)
    (body : ∀ Γ : GT, CT ids ad ca Γ cc y.cls l D fr lo nL → SG K Γ → RI ids ad ca Γ cc ty post → AW ids ad ca Γ 0 (entL av ++ List.replicate z none) [] σ) : KiS l D ids ad ca K y cc nL ty fr lo av σ post := by
  intro sz
  refine met_ofWF (cc := cc) (maxL := nL) (ret := some ty) hy rfl ?_
  intro p e s m args below meth c s₁ B hml hv
  obtain ⟨rfl, ⟨hsz, hP, hK, hD0, hE⟩, hSE⟩ := hv
  have hts := atoms_spec (ws := (.code y cc nL (some ty) :: gw_tbl)) B.pre
  subst hsz
  have hD := hD0.self (sz := s.heap.size)
  rw [lg_entry_eq]
  refine body (p, l, e, { frames := fr, cells := 0, slots := 0, locals := lo }, s, m, av.toArray, below, meth, c, 0, 0, _, D, va_A (mw ids ad ca σ) s.heap.size, s.heap, nL) ⟨⟨B.exec, B.bytes, hml, findClass_of_methodNamed B.named, fun w h => hts w (List.mem_cons_of_mem _ h)⟩, hK, hE, fun σ' => mw_D hD σ', fun q h => Or.inr h, rfl, rfl, Nat.le_refl _, Nat.le_refl _, Nat.le_refl _, Nat.le_refl _, rfl⟩ ⟨rfl, hSE⟩ ?_ s.heap [] _ hP va_S.rf (LV.entry av hL z)
  intro H locs ls pc σ' v hP' hS hp hd hn
  exact W.zret B.exec B.bytes B.returns hn (fun t ht hW => ⟨⟨v, σ', rfl, hp, by rw [ht]; exact hP', va_K.moved hW.alike hK, mw_D hD σ'⟩, hS.F ht⟩) hS.2.2 hd B.notSynchronized
theorem KvS.of {l : Launch} {D : va_G} {ids : List Nat} {ad : Nat → Nat} {ca : Nat → ClassId} {K : (Nat → Nat) × (Nat → Nat)} {y : MethodName} {cc : ByteArray} {nL fr lo : Nat} {av : List Value} {σ : HS} {post : HS → Prop} (hy : plainName y.cls = true) (hL : (lg_sl av).length ≤ nL) (z : Nat)
    (body : ∀ Γ : GT, CT ids ad ca Γ cc y.cls l D fr lo nL → SG K Γ → RV ids ad ca Γ cc post → AW ids ad ca Γ 0 (entL av ++ List.replicate z none) [] σ) : KvS l D ids ad ca K y cc nL fr lo av σ post := by
  intro sz
  refine Met.ofW (cc := cc) (maxL := nL) (ret := none) hy rfl ?_
  intro p e s m args below meth c s₁ B hml hv
  obtain ⟨rfl, ⟨hsz, hP, hK, hD0, hE⟩, hSE⟩ := hv
  have hts := atoms_spec (ws := (.code y cc nL none :: gw_tbl)) B.pre
  subst hsz
  have hD := hD0.self (sz := s.heap.size)
  rw [lg_entry_eq]
  refine body (p, l, e, { frames := fr, cells := 0, slots := 0, locals := lo }, s, m, av.toArray, below, meth, c, 0, 0, _, D, va_A (mw ids ad ca σ) s.heap.size, s.heap, nL) ⟨⟨B.exec, B.bytes, hml, findClass_of_methodNamed B.named, fun w h => hts w (List.mem_cons_of_mem _ h)⟩, hK, hE, fun σ' => mw_D hD σ', fun q h => Or.inr h, rfl, rfl, Nat.le_refl _, Nat.le_refl _, Nat.le_refl _, Nat.le_refl _, rfl⟩ ⟨rfl, hSE⟩ ?_ s.heap [] _ hP va_S.rf (LV.entry av hL z)
  intro H locs ls pc σ' hP' hS hp hd
  exact W.vret B.exec B.bytes B.returns (fun t ht hW => ⟨⟨σ', rfl, hp, by rw [ht]; exact hP', va_K.moved hW.alike hK, mw_D hD σ'⟩, hS.F ht⟩) hS.2.2 hd B.notSynchronized
theorem KvS.ofF {l : Launch} {D : va_G} {ids : List Nat} {ad : Nat → Nat} {ca : Nat → ClassId} {K : (Nat → Nat) × (Nat → Nat)} {y : MethodName} {cc : ByteArray} {nL fr lo : Nat} {av : List Value} {σ : HS} {post : HS → Prop} (hy : plainFor y = true) (hL : (lg_sl av).length ≤ nL) (z : Nat)
    (body : ∀ Γ : GT, CT ids ad ca Γ cc y.cls l D fr lo nL → SG K Γ → RV ids ad ca Γ cc post → AW ids ad ca Γ 0 (entL av ++ List.replicate z none) [] σ) : KvS l D ids ad ca K y cc nL fr lo av σ post := by
  intro sz
  refine met_ofWF (cc := cc) (maxL := nL) (ret := none) hy rfl ?_
  intro p e s m args below meth c s₁ B hml hv
  obtain ⟨rfl, ⟨hsz, hP, hK, hD0, hE⟩, hSE⟩ := hv
  have hts := atoms_spec (ws := (.code y cc nL none :: gw_tbl)) B.pre
  subst hsz
  have hD := hD0.self (sz := s.heap.size)
  rw [lg_entry_eq]
  refine body (p, l, e, { frames := fr, cells := 0, slots := 0, locals := lo }, s, m, av.toArray, below, meth, c, 0, 0, _, D, va_A (mw ids ad ca σ) s.heap.size, s.heap, nL) ⟨⟨B.exec, B.bytes, hml, findClass_of_methodNamed B.named, fun w h => hts w (List.mem_cons_of_mem _ h)⟩, hK, hE, fun σ' => mw_D hD σ', fun q h => Or.inr h, rfl, rfl, Nat.le_refl _, Nat.le_refl _, Nat.le_refl _, Nat.le_refl _, rfl⟩ ⟨rfl, hSE⟩ ?_ s.heap [] _ hP va_S.rf (LV.entry av hL z)
  intro H locs ls pc σ' hP' hS hp hd
  exact W.vret B.exec B.bytes B.returns (fun t ht hW => ⟨⟨σ', rfl, hp, by rw [ht]; exact hP', va_K.moved hW.alike hK, mw_D hD σ'⟩, hS.F ht⟩) hS.2.2 hd B.notSynchronized
section STRR
variable {ids : List Nat} {ad : Nat → Nat} {ca : Nat → ClassId} {Γ : GT} {cc : ByteArray} {own : String} {l0 : Launch} {D0 : va_G} {fr lo nL0 : Nat} {pc : Nat} {vs : List (Option Value)} {st : List Value} {σ : HS} {K : (Nat → Nat) × (Nat → Nat)}
theorem a_ldcW (C : CT ids ad ca Γ cc own l0 D0 fr lo nL0) (E : SG K Γ) (ho : own = RX9) (hd : decode cc pc = .ok (.ldc 67, 2)) (k : AW ids ad ca Γ (pc + 2) vs (.ref (K.1 0) :: st) σ) : AW ids ad ca Γ pc vs st σ := by
  obtain ⟨p, l, e, R, s, m, args, below, meth, c, kc, ks, Q, D, A, H0, nL⟩ := Γ
  obtain ⟨⟨hx, hb, hml, hown, hts⟩, hK, hE, hD, hA0, rfl, rfl, hfr, hlo, hkc, hks, rfl⟩ := C
  obtain ⟨hH0, hSE⟩ := E
  subst hH0
  intro H locs ls hP hS hl
  subst ho
  exact va_ldcS hx hb hown hSE.2.1 hd (k H locs ls hP hS hl)
theorem a_ldcG (C : CT ids ad ca Γ cc own l0 D0 fr lo nL0) (E : SG K Γ) (ho : own = RX9) (hd : decode cc pc = .ok (.ldc 52, 2)) (k : AW ids ad ca Γ (pc + 2) vs (.ref (K.1 1) :: st) σ) : AW ids ad ca Γ pc vs st σ := by
  obtain ⟨p, l, e, R, s, m, args, below, meth, c, kc, ks, Q, D, A, H0, nL⟩ := Γ
  obtain ⟨⟨hx, hb, hml, hown, hts⟩, hK, hE, hD, hA0, rfl, rfl, hfr, hlo, hkc, hks, rfl⟩ := C
  obtain ⟨hH0, hSE⟩ := E
  subst hH0
  intro H locs ls hP hS hl
  subst ho
  exact va_ldcS hx hb hown hSE.2.2.1 hd (k H locs ls hP hS hl)
theorem a_sval (C : CT ids ad ca Γ cc own l0 D0 fr lo nL0) (E : SG K Γ) {i ix : Nat} (hi : i < 2) (hw : Cond.fieldLink own ix RJ0 "value" "[B" ∈ gw_tbl) (hd : decode cc pc = .ok (.getfield ix, 3)) (k : AW ids ad ca Γ (pc + 3) vs (.ref (K.2 i) :: st) σ) : AW ids ad ca Γ pc vs (.ref (K.1 i) :: st) σ := by
  obtain ⟨p, l, e, R, s, m, args, below, meth, c, kc, ks, Q, D, A, H0, nL⟩ := Γ
  obtain ⟨⟨hx, hb, hml, hown, hts⟩, hK, hE, hD, hA0, rfl, rfl, hfr, hlo, hkc, hks, rfl⟩ := C
  obtain ⟨hH0, hSE⟩ := E
  subst hH0
  intro H locs ls hP hS hl
  exact vk_getf hx hb (hSE.1.1 i hi).2.2.1 hS hown (hts _ hw) (fun _ h => h) hd (k H locs ls hP hS hl)
theorem a_scod (C : CT ids ad ca Γ cc own l0 D0 fr lo nL0) (E : SG K Γ) {i ix : Nat} (hi : i < 2) (hw : Cond.fieldLink own ix RJ0 "coder" "B" ∈ gw_tbl) (hd : decode cc pc = .ok (.getfield ix, 3)) (k : AW ids ad ca Γ (pc + 3) vs (.int 0 :: st) σ) : AW ids ad ca Γ pc vs (.ref (K.1 i) :: st) σ := by
  obtain ⟨p, l, e, R, s, m, args, below, meth, c, kc, ks, Q, D, A, H0, nL⟩ := Γ
  obtain ⟨⟨hx, hb, hml, hown, hts⟩, hK, hE, hD, hA0, rfl, rfl, hfr, hlo, hkc, hks, rfl⟩ := C
  obtain ⟨hH0, hSE⟩ := E
  subst hH0
  intro H locs ls hP hS hl
  exact vk_getf hx hb (hSE.1.1 i hi).2.1 hS hown (hts _ hw) (fun _ h => h) hd (k H locs ls hP hS hl)
theorem a_scmp (C : CT ids ad ca Γ cc own l0 D0 fr lo nL0) (E : SG K Γ) {ix : Nat} (hw : Cond.fieldLink own ix RJ0 "COMPACT_STRINGS" "Z" ∈ gw_tbl) (hd : decode cc pc = .ok (.getstatic ix, 3)) (k : AW ids ad ca Γ (pc + 3) vs (.int 1 :: st) σ) : AW ids ad ca Γ pc vs st σ := by
  obtain ⟨p, l, e, R, s, m, args, below, meth, c, kc, ks, Q, D, A, H0, nL⟩ := Γ
  obtain ⟨⟨hx, hb, hml, hown, hts⟩, hK, hE, hD, hA0, rfl, rfl, hfr, hlo, hkc, hks, rfl⟩ := C
  obtain ⟨hH0, hSE⟩ := E
  subst hH0
  intro H locs ls hP hS hl
  exact va_gets hx hb hSE.2.2.2.1 hS hown (hts _ hw) (fun _ h => h) hd (k H locs ls hP hS hl)
theorem a_sfmt (C : CT ids ad ca Γ cc own l0 D0 fr lo nL0) (E : SG K Γ) {ix : Nat} (hw : Cond.fieldLink own ix RJ3 "SIOOBE_FORMATTER" "Ljava/util/function/BiFunction;" ∈ gw_tbl) (hd : decode cc pc = .ok (.getstatic ix, 3)) (kn : AW ids ad ca Γ (pc + 3) vs (.null :: st) σ) (kr : ∀ t : Nat, AW ids ad ca Γ (pc + 3) vs (.ref t :: st) σ) : AW ids ad ca Γ pc vs st σ := by
  obtain ⟨p, l, e, R, s, m, args, below, meth, c, kc, ks, Q, D, A, H0, nL⟩ := Γ
  obtain ⟨⟨hx, hb, hml, hown, hts⟩, hK, hE, hD, hA0, rfl, rfl, hfr, hlo, hkc, hks, rfl⟩ := C
  obtain ⟨hH0, hSE⟩ := E
  subst hH0
  intro H locs ls hP hS hl
  rcases hSE.2.2.2.2 with h | ⟨t, h⟩
  · exact va_gets hx hb h hS hown (hts _ hw) (fun _ h => h) hd (kn H locs ls hP hS hl)
  · exact va_gets hx hb h hS hown (hts _ hw) (fun _ h => h) hd (kr t H locs ls hP hS hl)
theorem a_slen (C : CT ids ad ca Γ cc own l0 D0 fr lo nL0) (E : SG K Γ) {i : Nat} (hi : i < 2) (hd : decode cc pc = .ok (.arraylength, 1)) (k : AW ids ad ca Γ (pc + 1) vs (.int (Int32.ofNat (lenS.getD i 0)) :: st) σ) : AW ids ad ca Γ pc vs (.ref (K.2 i) :: st) σ := by
  obtain ⟨p, l, e, R, s, m, args, below, meth, c, kc, ks, Q, D, A, H0, nL⟩ := Γ
  obtain ⟨⟨hx, hb, hml, hown, hts⟩, hK, hE, hD, hA0, rfl, rfl, hfr, hlo, hkc, hks, rfl⟩ := C
  obtain ⟨hH0, hSE⟩ := E
  subst hH0
  intro H locs ls hP hS hl
  exact va_tlen hx hb (hSE.1.1 i hi).2.2.2 hS rfl hd (k H locs ls hP hS hl)
theorem a_sbald (C : CT ids ad ca Γ cc own l0 D0 fr lo nL0) (E : SG K Γ) {i : Nat} (hi : i < 2) {j : Int32} (h0 : 0 ≤ j.toInt) (h1 : j.toInt < (lenS.getD i 0 : Nat)) (hd : decode cc pc = .ok (.baload, 1)) (k : ∀ jn : Nat, (jn : Int) = j.toInt → AW ids ad ca Γ (pc + 1) vs (.int ((bytS.getD i []).getD jn 0) :: st) σ) : AW ids ad ca Γ pc vs (.int j :: .ref (K.2 i) :: st) σ := by
  obtain ⟨p, l, e, R, s, m, args, below, meth, c, kc, ks, Q, D, A, H0, nL⟩ := Γ
  obtain ⟨⟨hx, hb, hml, hown, hts⟩, hK, hE, hD, hA0, rfl, rfl, hfr, hlo, hkc, hks, rfl⟩ := C
  obtain ⟨hH0, hSE⟩ := E
  subst hH0
  intro H locs ls hP hS hl
  have hc : (j.toNatClampNeg : Int) = j.toInt := by
    show ((j.toInt.toNat : Nat) : Int) = j.toInt
    omega
  refine va_tb hx hb (hSE.1.1 i hi).2.2.2 hS (i := j) (fun q => ?_) rfl hd (k _ hc H locs ls hP hS hl)
  rcases q with q | q
  · have q := Int32.lt_iff_toInt_lt.mp q
    rw [show (0 : Int32).toInt = 0 from rfl] at q
    omega
  · omega
theorem a_cSiS (C : CT ids ad ca Γ cc own l0 D0 fr lo nL0) (E : SG K Γ) {y : MethodName} {cc' : ByteArray} {nL' fr' lo' n ix : Nat} {ty : FieldType} {As st0 : List Value} {post : Int32 → HS → Prop} (hM : KiS l0 D0 ids ad ca K y cc' nL' ty fr' lo' (As) σ post) (hw : MS y cc' nL' (some ty) n) (hlink : Cond.methodLink own ix y ∈ gw_tbl) (hst : st0 = As.reverse ++ st) (hn : As.length = n) (hf1 : fr' + 1 ≤ fr) (hl1 : 8 + (nL' + 11) + lo' ≤ lo) (hcat : (st.map fun v => v.category).sum ≤ 8) (hd : decode cc pc = .ok (.invokestatic ix, 3)) (k : ∀ (r : Int32) (σ' : HS), post r σ' → AW ids ad ca Γ (pc + 3) vs (.int r :: st) σ') : AW ids ad ca Γ pc vs st0 σ := by
  obtain ⟨p, l, e, R, s, m, args, below, meth, c, kc, ks, Q, D, A, H0, nL⟩ := Γ
  obtain ⟨⟨hx, hb, hml, hown, hts⟩, hK, hE, hD, hA0, rfl, rfl, hfr, hlo, hkc, hks, rfl⟩ := C
  obtain ⟨hH0, hSE⟩ := E
  subst hH0
  intro H locs ls hP hS hl
  obtain ⟨w1, w3, w4, w5, w6, w7⟩ := hw
  subst hst
  have hG : GoodIn gw_tbl (va_wsS own ix y (.code y cc' nL' (some ty) :: gw_tbl)) := lw_goodIn (fun w h => by
    simp only [va_wsS, List.cons_append, List.nil_append, List.mem_cons] at h
    rcases h with rfl | rfl | rfl | rfl | h
    · exact hlink
    · exact w1
    · exact w3
    · exact w4
    · exact h)
  have hFc := mw_freeA (hD σ) hS hA0
  refine va_calli (va_runS (As := As) (rest := st) ⟨hx, hb, hml, hown, hts⟩ (hM H.size) (va_cwS n hts hG rfl rfl rfl ⟨w5, w6, w7⟩ ⟨Nat.le_trans hf1 hfr, Nat.le_trans hl1 hlo⟩) ⟨KPreS.blind, fun U hU hW => ⟨rfl, ⟨by rw [hU], by rw [hU]; exact hP, va_K.moved hW.alike hK, (hD σ).weaken (fun _ _ _ _ => trivial), hE.warm hW⟩, hSE.go hU hW hS hFc⟩⟩ rfl hn hl.1 rfl (lv_room hcat) hd ⟨hkc, hks⟩) hS (fun q _ h => hFc q h) hFc (fun r u t H1 locs1 ht hvm hw hB hz1 hk1 hS1 => ?_)
  have hP1 := hB.1
  rw [ht] at hP1
  exact k r u hw H1 locs1 ls hP1 hS1 hl
theorem a_cSvS (C : CT ids ad ca Γ cc own l0 D0 fr lo nL0) (E : SG K Γ) {y : MethodName} {cc' : ByteArray} {nL' fr' lo' n ix : Nat} {As st0 : List Value} {post : HS → Prop} (hM : KvS l0 D0 ids ad ca K y cc' nL' fr' lo' (As) σ post) (hw : MS y cc' nL' none n) (hlink : Cond.methodLink own ix y ∈ gw_tbl) (hst : st0 = As.reverse ++ st) (hn : As.length = n) (hf1 : fr' + 1 ≤ fr) (hl1 : 8 + (nL' + 11) + lo' ≤ lo) (hcat : (st.map fun v => v.category).sum ≤ 8) (hd : decode cc pc = .ok (.invokestatic ix, 3)) (k : ∀ (σ' : HS), post σ' → AW ids ad ca Γ (pc + 3) vs st σ') : AW ids ad ca Γ pc vs st0 σ := by
  obtain ⟨p, l, e, R, s, m, args, below, meth, c, kc, ks, Q, D, A, H0, nL⟩ := Γ
  obtain ⟨⟨hx, hb, hml, hown, hts⟩, hK, hE, hD, hA0, rfl, rfl, hfr, hlo, hkc, hks, rfl⟩ := C
  obtain ⟨hH0, hSE⟩ := E
  subst hH0
  intro H locs ls hP hS hl
  obtain ⟨w1, w3, w4, w5, w6, w7⟩ := hw
  subst hst
  have hG : GoodIn gw_tbl (va_wsS own ix y (.code y cc' nL' none :: gw_tbl)) := lw_goodIn (fun w h => by
    simp only [va_wsS, List.cons_append, List.nil_append, List.mem_cons] at h
    rcases h with rfl | rfl | rfl | rfl | h
    · exact hlink
    · exact w1
    · exact w3
    · exact w4
    · exact h)
  have hFc := mw_freeA (hD σ) hS hA0
  refine va_callv (va_runS (As := As) (rest := st) ⟨hx, hb, hml, hown, hts⟩ (hM H.size) (va_cwS n hts hG rfl rfl rfl ⟨w5, w6, w7⟩ ⟨Nat.le_trans hf1 hfr, Nat.le_trans hl1 hlo⟩) ⟨KPreS.blind, fun U hU hW => ⟨rfl, ⟨by rw [hU], by rw [hU]; exact hP, va_K.moved hW.alike hK, (hD σ).weaken (fun _ _ _ _ => trivial), hE.warm hW⟩, hSE.go hU hW hS hFc⟩⟩ rfl hn hl.1 rfl (lv_room hcat) hd ⟨hkc, hks⟩) hS (fun q _ h => hFc q h) hFc (fun u t H1 locs1 ht hvm hw hB hz1 hk1 hS1 => ?_)
  have hP1 := hB.1
  rw [ht] at hP1
  exact k u hw H1 locs1 ls hP1 hS1 hl
theorem a_cViS (C : CT ids ad ca Γ cc own l0 D0 fr lo nL0) (E : SG K Γ) {y : MethodName} {cc' : ByteArray} {nL' fr' lo' n ix : Nat} {ty : FieldType} {As st0 : List Value} {post : Int32 → HS → Prop} {i n0 : Nat} (hk : kd i = n0) (hi : i ∈ ids) (hq : ∃ (T : u_T) (N : Nat), vwCl[n0]? = some (y.cls, T, N)) (h12 : n0 < 12) (hM : KiS l0 D0 ids ad ca K y cc' nL' ty fr' lo' (.ref (ad i) :: As) σ post) (hw : MI y cc' nL' (some ty) n) (hlink : Cond.methodLink own ix y ∈ gw_tbl) (hst : st0 = As.reverse ++ .ref (ad i) :: st) (hn : As.length = n) (hf1 : fr' + 1 ≤ fr) (hl1 : 8 + (nL' + 11) + lo' ≤ lo) (hcat : (st.map fun v => v.category).sum ≤ 8) (hd : decode cc pc = .ok (.invokevirtual ix, 3)) (k : ∀ (r : Int32) (σ' : HS), post r σ' → AW ids ad ca Γ (pc + 3) vs (.int r :: st) σ') : AW ids ad ca Γ pc vs st0 σ := by
  obtain ⟨p, l, e, R, s, m, args, below, meth, c, kc, ks, Q, D, A, H0, nL⟩ := Γ
  obtain ⟨⟨hx, hb, hml, hown, hts⟩, hK, hE, hD, hA0, rfl, rfl, hfr, hlo, hkc, hks, rfl⟩ := C
  obtain ⟨hH0, hSE⟩ := E
  subst hH0
  intro H locs ls hP hS hl
  obtain ⟨w1, w2, w3, w4, w5, w6, w7⟩ := hw
  subst hst
  obtain ⟨T, N, hq⟩ := hq
  obtain ⟨ip, hip, hg⟩ := mw_get (ad := ad) (ca := ca) hi
  have hg := hg σ
  rw [hk, ceK_ob h12] at hg
  have hG : GoodIn gw_tbl (wsV own ix y.cls y (.code y cc' nL' (some ty) :: gw_tbl)) := lw_goodIn (fun w h => by
    simp only [wsV, List.cons_append, List.nil_append, List.mem_cons] at h
    rcases h with rfl | rfl | rfl | rfl | rfl | h
    · exact hlink
    · exact w1
    · exact w2
    · exact w3
    · exact w4
    · exact h)
  have hFc := mw_freeA (hD σ) hS hA0
  refine va_calli (va_runV (As := As) (rest := st) ⟨hx, hb, hml, hown, hts⟩ (hM H.size) (cwV n hts hG rfl rfl rfl ⟨rfl, w5, w6, w7⟩ ⟨Nat.le_trans hf1 hfr, Nat.le_trans hl1 hlo⟩) ⟨KPreS.blind, va_recv hK hP hq hg, fun U hU hW => ⟨rfl, ⟨by rw [hU], by rw [hU]; exact hP, va_K.moved hW.alike hK, (hD σ).weaken (fun _ _ _ _ => trivial), hE.warm hW⟩, hSE.go hU hW hS hFc⟩⟩ rfl hn hl.1 rfl (lv_room hcat) hd ⟨hkc, hks⟩) hS (fun q _ h => hFc q h) hFc (fun r u t H1 locs1 ht hvm hw hB hz1 hk1 hS1 => ?_)
  have hP1 := hB.1
  rw [ht] at hP1
  exact k r u hw H1 locs1 ls hP1 hS1 hl
theorem a_cVvS (C : CT ids ad ca Γ cc own l0 D0 fr lo nL0) (E : SG K Γ) {y : MethodName} {cc' : ByteArray} {nL' fr' lo' n ix : Nat} {As st0 : List Value} {post : HS → Prop} {i n0 : Nat} (hk : kd i = n0) (hi : i ∈ ids) (hq : ∃ (T : u_T) (N : Nat), vwCl[n0]? = some (y.cls, T, N)) (h12 : n0 < 12) (hM : KvS l0 D0 ids ad ca K y cc' nL' fr' lo' (.ref (ad i) :: As) σ post) (hw : MI y cc' nL' none n) (hlink : Cond.methodLink own ix y ∈ gw_tbl) (hst : st0 = As.reverse ++ .ref (ad i) :: st) (hn : As.length = n) (hf1 : fr' + 1 ≤ fr) (hl1 : 8 + (nL' + 11) + lo' ≤ lo) (hcat : (st.map fun v => v.category).sum ≤ 8) (hd : decode cc pc = .ok (.invokevirtual ix, 3)) (k : ∀ (σ' : HS), post σ' → AW ids ad ca Γ (pc + 3) vs st σ') : AW ids ad ca Γ pc vs st0 σ := by
  obtain ⟨p, l, e, R, s, m, args, below, meth, c, kc, ks, Q, D, A, H0, nL⟩ := Γ
  obtain ⟨⟨hx, hb, hml, hown, hts⟩, hK, hE, hD, hA0, rfl, rfl, hfr, hlo, hkc, hks, rfl⟩ := C
  obtain ⟨hH0, hSE⟩ := E
  subst hH0
  intro H locs ls hP hS hl
  obtain ⟨w1, w2, w3, w4, w5, w6, w7⟩ := hw
  subst hst
  obtain ⟨T, N, hq⟩ := hq
  obtain ⟨ip, hip, hg⟩ := mw_get (ad := ad) (ca := ca) hi
  have hg := hg σ
  rw [hk, ceK_ob h12] at hg
  have hG : GoodIn gw_tbl (wsV own ix y.cls y (.code y cc' nL' none :: gw_tbl)) := lw_goodIn (fun w h => by
    simp only [wsV, List.cons_append, List.nil_append, List.mem_cons] at h
    rcases h with rfl | rfl | rfl | rfl | rfl | h
    · exact hlink
    · exact w1
    · exact w2
    · exact w3
    · exact w4
    · exact h)
  have hFc := mw_freeA (hD σ) hS hA0
  refine va_callv (va_runV (As := As) (rest := st) ⟨hx, hb, hml, hown, hts⟩ (hM H.size) (cwV n hts hG rfl rfl rfl ⟨rfl, w5, w6, w7⟩ ⟨Nat.le_trans hf1 hfr, Nat.le_trans hl1 hlo⟩) ⟨KPreS.blind, va_recv hK hP hq hg, fun U hU hW => ⟨rfl, ⟨by rw [hU], by rw [hU]; exact hP, va_K.moved hW.alike hK, (hD σ).weaken (fun _ _ _ _ => trivial), hE.warm hW⟩, hSE.go hU hW hS hFc⟩⟩ rfl hn hl.1 rfl (lv_room hcat) hd ⟨hkc, hks⟩) hS (fun q _ h => hFc q h) hFc (fun u t H1 locs1 ht hvm hw hB hz1 hk1 hS1 => ?_)
  have hP1 := hB.1
  rw [ht] at hP1
  exact k u hw H1 locs1 ls hP1 hS1 hl
theorem a_cTiS (C : CT ids ad ca Γ cc own l0 D0 fr lo nL0) (E : SG K Γ) {y : MethodName} {cc' : ByteArray} {nL' fr' lo' n ix : Nat} {ty : FieldType} {As st0 : List Value} {post : Int32 → HS → Prop} {i : Nat} (hi : i < 2) (hyc : y.cls = RJ0) (hM : KiS l0 D0 ids ad ca K y cc' nL' ty fr' lo' (.ref (K.1 i) :: As) σ post) (hw : MI y cc' nL' (some ty) n) (hlink : Cond.methodLink own ix y ∈ gw_tbl) (hst : st0 = As.reverse ++ .ref (K.1 i) :: st) (hn : As.length = n) (hf1 : fr' + 1 ≤ fr) (hl1 : 8 + (nL' + 11) + lo' ≤ lo) (hcat : (st.map fun v => v.category).sum ≤ 8) (hd : decode cc pc = .ok (.invokevirtual ix, 3)) (k : ∀ (r : Int32) (σ' : HS), post r σ' → AW ids ad ca Γ (pc + 3) vs (.int r :: st) σ') : AW ids ad ca Γ pc vs st0 σ := by
  obtain ⟨p, l, e, R, s, m, args, below, meth, c, kc, ks, Q, D, A, H0, nL⟩ := Γ
  obtain ⟨⟨hx, hb, hml, hown, hts⟩, hK, hE, hD, hA0, rfl, rfl, hfr, hlo, hkc, hks, rfl⟩ := C
  obtain ⟨hH0, hSE⟩ := E
  subst hH0
  intro H locs ls hP hS hl
  obtain ⟨w1, w2, w3, w4, w5, w6, w7⟩ := hw
  subst hst
  have hG : GoodIn gw_tbl (wsV own ix y.cls y (.code y cc' nL' (some ty) :: gw_tbl)) := lw_goodIn (fun w h => by
    simp only [wsV, List.cons_append, List.nil_append, List.mem_cons] at h
    rcases h with rfl | rfl | rfl | rfl | rfl | h
    · exact hlink
    · exact w1
    · exact w2
    · exact w3
    · exact w4
    · exact h)
  have hFc := mw_freeA (hD σ) hS hA0
  refine va_calli (va_runV (As := As) (rest := st) ⟨hx, hb, hml, hown, hts⟩ (hM H.size) (cwV n hts hG rfl rfl rfl ⟨rfl, w5, w6, w7⟩ ⟨Nat.le_trans hf1 hfr, Nat.le_trans hl1 hlo⟩) ⟨KPreS.blind, (by rw [hyc]; exact vk_recv hSE.1 hi hS), fun U hU hW => ⟨rfl, ⟨by rw [hU], by rw [hU]; exact hP, va_K.moved hW.alike hK, (hD σ).weaken (fun _ _ _ _ => trivial), hE.warm hW⟩, hSE.go hU hW hS hFc⟩⟩ rfl hn hl.1 rfl (lv_room hcat) hd ⟨hkc, hks⟩) hS (fun q _ h => hFc q h) hFc (fun r u t H1 locs1 ht hvm hw hB hz1 hk1 hS1 => ?_)
  have hP1 := hB.1
  rw [ht] at hP1
  exact k r u hw H1 locs1 ls hP1 hS1 hl
end STRR
def kb_cJ0_coder_7d493_0 : List Nat := [178, 0, 38, 153, 0, 10, 42, 180, 0, 15, 167, 0, 4, 4, 172]
theorem ac_cJ0_coder_7d493_0 : AL cJ0_coder_7d493 0 kb_cJ0_coder_7d493_0 := AL.of (m := 15) (by decide +kernel)
theorem dJ0_coder_7d493_0 : decode cJ0_coder_7d493 0 = .ok (.getstatic 38, 3) := o178 ac_cJ0_coder_7d493_0 0 0 38 rfl
theorem dJ0_coder_7d493_3 : decode cJ0_coder_7d493 3 = .ok (.ifCond .eq 10, 3) := o153p ac_cJ0_coder_7d493_0 3 0 10 rfl rfl
theorem dJ0_coder_7d493_6 : decode cJ0_coder_7d493 6 = .ok (.aload_n 0, 1) := o42 ac_cJ0_coder_7d493_0 6 rfl
theorem dJ0_coder_7d493_7 : decode cJ0_coder_7d493 7 = .ok (.getfield 15, 3) := o180 ac_cJ0_coder_7d493_0 7 0 15 rfl
theorem dJ0_coder_7d493_10 : decode cJ0_coder_7d493 10 = .ok (.goto 4, 3) := o167p ac_cJ0_coder_7d493_0 10 0 4 rfl rfl
theorem dJ0_coder_7d493_14 : decode cJ0_coder_7d493 14 = .ok (.ireturn, 1) := o172 ac_cJ0_coder_7d493_0 14 rfl
def kb_cJ0_isLatin1_aae02_0 : List Nat := [178, 0, 38, 153, 0, 14, 42, 180, 0, 15, 154, 0, 7, 4, 167, 0, 4, 3, 172]
theorem ac_cJ0_isLatin1_aae02_0 : AL cJ0_isLatin1_aae02 0 kb_cJ0_isLatin1_aae02_0 := AL.of (m := 19) (by decide +kernel)
theorem dJ0_isLatin1_aae02_0 : decode cJ0_isLatin1_aae02 0 = .ok (.getstatic 38, 3) := o178 ac_cJ0_isLatin1_aae02_0 0 0 38 rfl
theorem dJ0_isLatin1_aae02_3 : decode cJ0_isLatin1_aae02 3 = .ok (.ifCond .eq 14, 3) := o153p ac_cJ0_isLatin1_aae02_0 3 0 14 rfl rfl
theorem dJ0_isLatin1_aae02_6 : decode cJ0_isLatin1_aae02 6 = .ok (.aload_n 0, 1) := o42 ac_cJ0_isLatin1_aae02_0 6 rfl
theorem dJ0_isLatin1_aae02_7 : decode cJ0_isLatin1_aae02 7 = .ok (.getfield 15, 3) := o180 ac_cJ0_isLatin1_aae02_0 7 0 15 rfl
theorem dJ0_isLatin1_aae02_10 : decode cJ0_isLatin1_aae02 10 = .ok (.ifCond .ne 7, 3) := o154p ac_cJ0_isLatin1_aae02_0 10 0 7 rfl rfl
theorem dJ0_isLatin1_aae02_13 : decode cJ0_isLatin1_aae02 13 = .ok (.iconst 1, 1) := o4 ac_cJ0_isLatin1_aae02_0 13 rfl
theorem dJ0_isLatin1_aae02_14 : decode cJ0_isLatin1_aae02 14 = .ok (.goto 4, 3) := o167p ac_cJ0_isLatin1_aae02_0 14 0 4 rfl rfl
def kb_cJ0_isLatin1_aae02_16 : List Nat := [4, 3, 172]
theorem ac_cJ0_isLatin1_aae02_16 : AL cJ0_isLatin1_aae02 16 kb_cJ0_isLatin1_aae02_16 := AL.of (m := 3) (by decide +kernel)
theorem dJ0_isLatin1_aae02_18 : decode cJ0_isLatin1_aae02 18 = .ok (.ireturn, 1) := o172 ac_cJ0_isLatin1_aae02_16 2 rfl
def kb_cJ0_length_8abf5_0 : List Nat := [42, 180, 0, 9, 190, 42, 182, 1, 79, 122, 172]
theorem ac_cJ0_length_8abf5_0 : AL cJ0_length_8abf5 0 kb_cJ0_length_8abf5_0 := AL.of (m := 11) (by decide +kernel)
theorem dJ0_length_8abf5_0 : decode cJ0_length_8abf5 0 = .ok (.aload_n 0, 1) := o42 ac_cJ0_length_8abf5_0 0 rfl
theorem dJ0_length_8abf5_1 : decode cJ0_length_8abf5 1 = .ok (.getfield 9, 3) := o180 ac_cJ0_length_8abf5_0 1 0 9 rfl
theorem dJ0_length_8abf5_4 : decode cJ0_length_8abf5 4 = .ok (.arraylength, 1) := o190 ac_cJ0_length_8abf5_0 4 rfl
theorem dJ0_length_8abf5_5 : decode cJ0_length_8abf5 5 = .ok (.aload_n 0, 1) := o42 ac_cJ0_length_8abf5_0 5 rfl
theorem dJ0_length_8abf5_6 : decode cJ0_length_8abf5 6 = .ok (.invokevirtual 335, 3) := o182 ac_cJ0_length_8abf5_0 6 1 79 rfl
theorem dJ0_length_8abf5_9 : decode cJ0_length_8abf5 9 = .ok (.ishr, 1) := o122 ac_cJ0_length_8abf5_0 9 rfl
theorem dJ0_length_8abf5_10 : decode cJ0_length_8abf5 10 = .ok (.ireturn, 1) := o172 ac_cJ0_length_8abf5_0 10 rfl
def kb_cJ3_checkIndex_8e157_0 : List Nat := [26, 155, 0, 8, 26, 27, 161, 0, 10, 44, 26, 27, 184, 0, 95, 191, 26, 172]
theorem ac_cJ3_checkIndex_8e157_0 : AL cJ3_checkIndex_8e157 0 kb_cJ3_checkIndex_8e157_0 := AL.of (m := 18) (by decide +kernel)
theorem dJ3_checkIndex_8e157_0 : decode cJ3_checkIndex_8e157 0 = .ok (.iload_n 0, 1) := o26 ac_cJ3_checkIndex_8e157_0 0 rfl
theorem dJ3_checkIndex_8e157_1 : decode cJ3_checkIndex_8e157 1 = .ok (.ifCond .lt 8, 3) := o155p ac_cJ3_checkIndex_8e157_0 1 0 8 rfl rfl
theorem dJ3_checkIndex_8e157_4 : decode cJ3_checkIndex_8e157 4 = .ok (.iload_n 0, 1) := o26 ac_cJ3_checkIndex_8e157_0 4 rfl
theorem dJ3_checkIndex_8e157_5 : decode cJ3_checkIndex_8e157 5 = .ok (.iload_n 1, 1) := o27 ac_cJ3_checkIndex_8e157_0 5 rfl
theorem dJ3_checkIndex_8e157_6 : decode cJ3_checkIndex_8e157 6 = .ok (.if_icmp .lt 10, 3) := o161p ac_cJ3_checkIndex_8e157_0 6 0 10 rfl rfl
def kb_cJ3_checkIndex_8e157_16 : List Nat := [26, 172]
theorem ac_cJ3_checkIndex_8e157_16 : AL cJ3_checkIndex_8e157 16 kb_cJ3_checkIndex_8e157_16 := AL.of (m := 2) (by decide +kernel)
theorem dJ3_checkIndex_8e157_16 : decode cJ3_checkIndex_8e157 16 = .ok (.iload_n 0, 1) := o26 ac_cJ3_checkIndex_8e157_16 0 rfl
theorem dJ3_checkIndex_8e157_17 : decode cJ3_checkIndex_8e157 17 = .ok (.ireturn, 1) := o172 ac_cJ3_checkIndex_8e157_16 1 rfl
def kb_cJ0_checkIndex_df160_0 : List Nat := [26, 27, 178, 4, 29, 184, 4, 35, 87, 177]
theorem ac_cJ0_checkIndex_df160_0 : AL cJ0_checkIndex_df160 0 kb_cJ0_checkIndex_df160_0 := AL.of (m := 10) (by decide +kernel)
theorem dJ0_checkIndex_df160_0 : decode cJ0_checkIndex_df160 0 = .ok (.iload_n 0, 1) := o26 ac_cJ0_checkIndex_df160_0 0 rfl
theorem dJ0_checkIndex_df160_1 : decode cJ0_checkIndex_df160 1 = .ok (.iload_n 1, 1) := o27 ac_cJ0_checkIndex_df160_0 1 rfl
theorem dJ0_checkIndex_df160_2 : decode cJ0_checkIndex_df160 2 = .ok (.getstatic 1053, 3) := o178 ac_cJ0_checkIndex_df160_0 2 4 29 rfl
theorem dJ0_checkIndex_df160_5 : decode cJ0_checkIndex_df160 5 = .ok (.invokestatic 1059, 3) := o184 ac_cJ0_checkIndex_df160_0 5 4 35 rfl
theorem dJ0_checkIndex_df160_8 : decode cJ0_checkIndex_df160 8 = .ok (.pop, 1) := o87 ac_cJ0_checkIndex_df160_0 8 rfl
theorem dJ0_checkIndex_df160_9 : decode cJ0_checkIndex_df160 9 = .ok (.return_, 1) := o177 ac_cJ0_checkIndex_df160_0 9 rfl
def kb_cJ1_charAt_3b067_0 : List Nat := [27, 42, 190, 184, 0, 9, 42, 27, 51, 17, 0, 255, 126, 146, 172]
theorem ac_cJ1_charAt_3b067_0 : AL cJ1_charAt_3b067 0 kb_cJ1_charAt_3b067_0 := AL.of (m := 15) (by decide +kernel)
theorem dJ1_charAt_3b067_0 : decode cJ1_charAt_3b067 0 = .ok (.iload_n 1, 1) := o27 ac_cJ1_charAt_3b067_0 0 rfl
theorem dJ1_charAt_3b067_1 : decode cJ1_charAt_3b067 1 = .ok (.aload_n 0, 1) := o42 ac_cJ1_charAt_3b067_0 1 rfl
theorem dJ1_charAt_3b067_2 : decode cJ1_charAt_3b067 2 = .ok (.arraylength, 1) := o190 ac_cJ1_charAt_3b067_0 2 rfl
theorem dJ1_charAt_3b067_3 : decode cJ1_charAt_3b067 3 = .ok (.invokestatic 9, 3) := o184 ac_cJ1_charAt_3b067_0 3 0 9 rfl
theorem dJ1_charAt_3b067_6 : decode cJ1_charAt_3b067 6 = .ok (.aload_n 0, 1) := o42 ac_cJ1_charAt_3b067_0 6 rfl
theorem dJ1_charAt_3b067_7 : decode cJ1_charAt_3b067 7 = .ok (.iload_n 1, 1) := o27 ac_cJ1_charAt_3b067_0 7 rfl
theorem dJ1_charAt_3b067_8 : decode cJ1_charAt_3b067 8 = .ok (.baload, 1) := o51 ac_cJ1_charAt_3b067_0 8 rfl
theorem dJ1_charAt_3b067_9 : decode cJ1_charAt_3b067 9 = .ok (.sipush 255, 3) := o17p ac_cJ1_charAt_3b067_0 9 0 255 rfl rfl
theorem dJ1_charAt_3b067_12 : decode cJ1_charAt_3b067 12 = .ok (.iand, 1) := o126 ac_cJ1_charAt_3b067_0 12 rfl
theorem dJ1_charAt_3b067_13 : decode cJ1_charAt_3b067 13 = .ok (.i2c, 1) := o146 ac_cJ1_charAt_3b067_0 13 rfl
theorem dJ1_charAt_3b067_14 : decode cJ1_charAt_3b067 14 = .ok (.ireturn, 1) := o172 ac_cJ1_charAt_3b067_0 14 rfl
def kb_cJ0_charAt_5068e_0 : List Nat := [42, 182, 1, 236, 153, 0, 12, 42, 180, 0, 9, 27, 184, 1, 239, 172, 42, 180, 0, 9]
theorem ac_cJ0_charAt_5068e_0 : AL cJ0_charAt_5068e 0 kb_cJ0_charAt_5068e_0 := AL.of (m := 20) (by decide +kernel)
theorem dJ0_charAt_5068e_0 : decode cJ0_charAt_5068e 0 = .ok (.aload_n 0, 1) := o42 ac_cJ0_charAt_5068e_0 0 rfl
theorem dJ0_charAt_5068e_1 : decode cJ0_charAt_5068e 1 = .ok (.invokevirtual 492, 3) := o182 ac_cJ0_charAt_5068e_0 1 1 236 rfl
theorem dJ0_charAt_5068e_4 : decode cJ0_charAt_5068e 4 = .ok (.ifCond .eq 12, 3) := o153p ac_cJ0_charAt_5068e_0 4 0 12 rfl rfl
theorem dJ0_charAt_5068e_7 : decode cJ0_charAt_5068e 7 = .ok (.aload_n 0, 1) := o42 ac_cJ0_charAt_5068e_0 7 rfl
theorem dJ0_charAt_5068e_8 : decode cJ0_charAt_5068e 8 = .ok (.getfield 9, 3) := o180 ac_cJ0_charAt_5068e_0 8 0 9 rfl
theorem dJ0_charAt_5068e_11 : decode cJ0_charAt_5068e 11 = .ok (.iload_n 1, 1) := o27 ac_cJ0_charAt_5068e_0 11 rfl
theorem dJ0_charAt_5068e_12 : decode cJ0_charAt_5068e 12 = .ok (.invokestatic 495, 3) := o184 ac_cJ0_charAt_5068e_0 12 1 239 rfl
theorem dJ0_charAt_5068e_15 : decode cJ0_charAt_5068e 15 = .ok (.ireturn, 1) := o172 ac_cJ0_charAt_5068e_0 15 rfl
def kb_cJ1_canEncode_9a6ad_0 : List Nat := [26, 155, 0, 14, 26, 17, 0, 255, 163, 0, 7, 4, 167, 0, 4, 3, 172]
theorem ac_cJ1_canEncode_9a6ad_0 : AL cJ1_canEncode_9a6ad 0 kb_cJ1_canEncode_9a6ad_0 := AL.of (m := 17) (by decide +kernel)
theorem dJ1_canEncode_9a6ad_0 : decode cJ1_canEncode_9a6ad 0 = .ok (.iload_n 0, 1) := o26 ac_cJ1_canEncode_9a6ad_0 0 rfl
theorem dJ1_canEncode_9a6ad_1 : decode cJ1_canEncode_9a6ad 1 = .ok (.ifCond .lt 14, 3) := o155p ac_cJ1_canEncode_9a6ad_0 1 0 14 rfl rfl
theorem dJ1_canEncode_9a6ad_4 : decode cJ1_canEncode_9a6ad 4 = .ok (.iload_n 0, 1) := o26 ac_cJ1_canEncode_9a6ad_0 4 rfl
theorem dJ1_canEncode_9a6ad_5 : decode cJ1_canEncode_9a6ad 5 = .ok (.sipush 255, 3) := o17p ac_cJ1_canEncode_9a6ad_0 5 0 255 rfl rfl
theorem dJ1_canEncode_9a6ad_8 : decode cJ1_canEncode_9a6ad 8 = .ok (.if_icmp .gt 7, 3) := o163p ac_cJ1_canEncode_9a6ad_0 8 0 7 rfl rfl
theorem dJ1_canEncode_9a6ad_11 : decode cJ1_canEncode_9a6ad 11 = .ok (.iconst 1, 1) := o4 ac_cJ1_canEncode_9a6ad_0 11 rfl
theorem dJ1_canEncode_9a6ad_12 : decode cJ1_canEncode_9a6ad 12 = .ok (.goto 4, 3) := o167p ac_cJ1_canEncode_9a6ad_0 12 0 4 rfl rfl
theorem dJ1_canEncode_9a6ad_15 : decode cJ1_canEncode_9a6ad 15 = .ok (.iconst 0, 1) := o3 ac_cJ1_canEncode_9a6ad_0 15 rfl
def kb_cJ1_canEncode_9a6ad_16 : List Nat := [172]
theorem ac_cJ1_canEncode_9a6ad_16 : AL cJ1_canEncode_9a6ad 16 kb_cJ1_canEncode_9a6ad_16 := AL.of (m := 1) (by decide +kernel)
theorem dJ1_canEncode_9a6ad_16 : decode cJ1_canEncode_9a6ad 16 = .ok (.ireturn, 1) := o172 ac_cJ1_canEncode_9a6ad_16 0 rfl
def kb_cJ1_indexOfChar_4cfef_0 : List Nat := [27, 145, 54, 4, 28, 54, 5, 21, 5, 29, 162, 0, 21, 42, 21, 5, 51, 21, 4, 160]
theorem ac_cJ1_indexOfChar_4cfef_0 : AL cJ1_indexOfChar_4cfef 0 kb_cJ1_indexOfChar_4cfef_0 := AL.of (m := 20) (by decide +kernel)
theorem dJ1_indexOfChar_4cfef_0 : decode cJ1_indexOfChar_4cfef 0 = .ok (.iload_n 1, 1) := o27 ac_cJ1_indexOfChar_4cfef_0 0 rfl
theorem dJ1_indexOfChar_4cfef_1 : decode cJ1_indexOfChar_4cfef 1 = .ok (.i2b, 1) := o145 ac_cJ1_indexOfChar_4cfef_0 1 rfl
theorem dJ1_indexOfChar_4cfef_2 : decode cJ1_indexOfChar_4cfef 2 = .ok (.istore 4, 2) := o54 ac_cJ1_indexOfChar_4cfef_0 2 4 rfl
theorem dJ1_indexOfChar_4cfef_4 : decode cJ1_indexOfChar_4cfef 4 = .ok (.iload_n 2, 1) := o28 ac_cJ1_indexOfChar_4cfef_0 4 rfl
theorem dJ1_indexOfChar_4cfef_5 : decode cJ1_indexOfChar_4cfef 5 = .ok (.istore 5, 2) := o54 ac_cJ1_indexOfChar_4cfef_0 5 5 rfl
theorem dJ1_indexOfChar_4cfef_7 : decode cJ1_indexOfChar_4cfef 7 = .ok (.iload 5, 2) := o21 ac_cJ1_indexOfChar_4cfef_0 7 5 rfl
theorem dJ1_indexOfChar_4cfef_9 : decode cJ1_indexOfChar_4cfef 9 = .ok (.iload_n 3, 1) := o29 ac_cJ1_indexOfChar_4cfef_0 9 rfl
theorem dJ1_indexOfChar_4cfef_10 : decode cJ1_indexOfChar_4cfef 10 = .ok (.if_icmp .ge 21, 3) := o162p ac_cJ1_indexOfChar_4cfef_0 10 0 21 rfl rfl
theorem dJ1_indexOfChar_4cfef_13 : decode cJ1_indexOfChar_4cfef 13 = .ok (.aload_n 0, 1) := o42 ac_cJ1_indexOfChar_4cfef_0 13 rfl
theorem dJ1_indexOfChar_4cfef_14 : decode cJ1_indexOfChar_4cfef 14 = .ok (.iload 5, 2) := o21 ac_cJ1_indexOfChar_4cfef_0 14 5 rfl
def kb_cJ1_indexOfChar_4cfef_16 : List Nat := [51, 21, 4, 160, 0, 6, 21, 5, 172, 132, 5, 1, 167, 255, 235, 2, 172]
theorem ac_cJ1_indexOfChar_4cfef_16 : AL cJ1_indexOfChar_4cfef 16 kb_cJ1_indexOfChar_4cfef_16 := AL.of (m := 17) (by decide +kernel)
theorem dJ1_indexOfChar_4cfef_16 : decode cJ1_indexOfChar_4cfef 16 = .ok (.baload, 1) := o51 ac_cJ1_indexOfChar_4cfef_16 0 rfl
theorem dJ1_indexOfChar_4cfef_17 : decode cJ1_indexOfChar_4cfef 17 = .ok (.iload 4, 2) := o21 ac_cJ1_indexOfChar_4cfef_16 1 4 rfl
theorem dJ1_indexOfChar_4cfef_19 : decode cJ1_indexOfChar_4cfef 19 = .ok (.if_icmp .ne 6, 3) := o160p ac_cJ1_indexOfChar_4cfef_16 3 0 6 rfl rfl
theorem dJ1_indexOfChar_4cfef_22 : decode cJ1_indexOfChar_4cfef 22 = .ok (.iload 5, 2) := o21 ac_cJ1_indexOfChar_4cfef_16 6 5 rfl
theorem dJ1_indexOfChar_4cfef_24 : decode cJ1_indexOfChar_4cfef 24 = .ok (.ireturn, 1) := o172 ac_cJ1_indexOfChar_4cfef_16 8 rfl
theorem dJ1_indexOfChar_4cfef_25 : decode cJ1_indexOfChar_4cfef 25 = .ok (.iinc 5 1, 3) := o132p ac_cJ1_indexOfChar_4cfef_16 9 5 1 rfl rfl
theorem dJ1_indexOfChar_4cfef_28 : decode cJ1_indexOfChar_4cfef 28 = .ok (.goto (-21), 3) := o167n ac_cJ1_indexOfChar_4cfef_16 12 255 235 20 rfl rfl rfl
theorem dJ1_indexOfChar_4cfef_31 : decode cJ1_indexOfChar_4cfef 31 = .ok (.iconst (-1), 1) := o2 ac_cJ1_indexOfChar_4cfef_16 15 rfl
def kb_cJ1_indexOfChar_4cfef_32 : List Nat := [172]
theorem ac_cJ1_indexOfChar_4cfef_32 : AL cJ1_indexOfChar_4cfef 32 kb_cJ1_indexOfChar_4cfef_32 := AL.of (m := 1) (by decide +kernel)
theorem dJ1_indexOfChar_4cfef_32 : decode cJ1_indexOfChar_4cfef 32 = .ok (.ireturn, 1) := o172 ac_cJ1_indexOfChar_4cfef_32 0 rfl
def kb_cJ1_indexOf_4cfef_0 : List Nat := [27, 184, 0, 88, 154, 0, 5, 2, 172, 28, 3, 184, 0, 92, 61, 29, 42, 190, 184, 0]
theorem ac_cJ1_indexOf_4cfef_0 : AL cJ1_indexOf_4cfef 0 kb_cJ1_indexOf_4cfef_0 := AL.of (m := 20) (by decide +kernel)
theorem dJ1_indexOf_4cfef_0 : decode cJ1_indexOf_4cfef 0 = .ok (.iload_n 1, 1) := o27 ac_cJ1_indexOf_4cfef_0 0 rfl
theorem dJ1_indexOf_4cfef_1 : decode cJ1_indexOf_4cfef 1 = .ok (.invokestatic 88, 3) := o184 ac_cJ1_indexOf_4cfef_0 1 0 88 rfl
theorem dJ1_indexOf_4cfef_4 : decode cJ1_indexOf_4cfef 4 = .ok (.ifCond .ne 5, 3) := o154p ac_cJ1_indexOf_4cfef_0 4 0 5 rfl rfl
theorem dJ1_indexOf_4cfef_7 : decode cJ1_indexOf_4cfef 7 = .ok (.iconst (-1), 1) := o2 ac_cJ1_indexOf_4cfef_0 7 rfl
theorem dJ1_indexOf_4cfef_8 : decode cJ1_indexOf_4cfef 8 = .ok (.ireturn, 1) := o172 ac_cJ1_indexOf_4cfef_0 8 rfl
theorem dJ1_indexOf_4cfef_9 : decode cJ1_indexOf_4cfef 9 = .ok (.iload_n 2, 1) := o28 ac_cJ1_indexOf_4cfef_0 9 rfl
theorem dJ1_indexOf_4cfef_10 : decode cJ1_indexOf_4cfef 10 = .ok (.iconst 0, 1) := o3 ac_cJ1_indexOf_4cfef_0 10 rfl
theorem dJ1_indexOf_4cfef_11 : decode cJ1_indexOf_4cfef 11 = .ok (.invokestatic 92, 3) := o184 ac_cJ1_indexOf_4cfef_0 11 0 92 rfl
theorem dJ1_indexOf_4cfef_14 : decode cJ1_indexOf_4cfef 14 = .ok (.istore_n 2, 1) := o61 ac_cJ1_indexOf_4cfef_0 14 rfl
theorem dJ1_indexOf_4cfef_15 : decode cJ1_indexOf_4cfef 15 = .ok (.iload_n 3, 1) := o29 ac_cJ1_indexOf_4cfef_0 15 rfl
def kb_cJ1_indexOf_4cfef_16 : List Nat := [42, 190, 184, 0, 38, 62, 28, 29, 161, 0, 5, 2, 172, 42, 27, 28, 29, 184, 0, 95]
theorem ac_cJ1_indexOf_4cfef_16 : AL cJ1_indexOf_4cfef 16 kb_cJ1_indexOf_4cfef_16 := AL.of (m := 20) (by decide +kernel)
theorem dJ1_indexOf_4cfef_16 : decode cJ1_indexOf_4cfef 16 = .ok (.aload_n 0, 1) := o42 ac_cJ1_indexOf_4cfef_16 0 rfl
theorem dJ1_indexOf_4cfef_17 : decode cJ1_indexOf_4cfef 17 = .ok (.arraylength, 1) := o190 ac_cJ1_indexOf_4cfef_16 1 rfl
theorem dJ1_indexOf_4cfef_18 : decode cJ1_indexOf_4cfef 18 = .ok (.invokestatic 38, 3) := o184 ac_cJ1_indexOf_4cfef_16 2 0 38 rfl
theorem dJ1_indexOf_4cfef_21 : decode cJ1_indexOf_4cfef 21 = .ok (.istore_n 3, 1) := o62 ac_cJ1_indexOf_4cfef_16 5 rfl
theorem dJ1_indexOf_4cfef_22 : decode cJ1_indexOf_4cfef 22 = .ok (.iload_n 2, 1) := o28 ac_cJ1_indexOf_4cfef_16 6 rfl
theorem dJ1_indexOf_4cfef_23 : decode cJ1_indexOf_4cfef 23 = .ok (.iload_n 3, 1) := o29 ac_cJ1_indexOf_4cfef_16 7 rfl
theorem dJ1_indexOf_4cfef_24 : decode cJ1_indexOf_4cfef 24 = .ok (.if_icmp .lt 5, 3) := o161p ac_cJ1_indexOf_4cfef_16 8 0 5 rfl rfl
theorem dJ1_indexOf_4cfef_27 : decode cJ1_indexOf_4cfef 27 = .ok (.iconst (-1), 1) := o2 ac_cJ1_indexOf_4cfef_16 11 rfl
theorem dJ1_indexOf_4cfef_28 : decode cJ1_indexOf_4cfef 28 = .ok (.ireturn, 1) := o172 ac_cJ1_indexOf_4cfef_16 12 rfl
theorem dJ1_indexOf_4cfef_29 : decode cJ1_indexOf_4cfef 29 = .ok (.aload_n 0, 1) := o42 ac_cJ1_indexOf_4cfef_16 13 rfl
theorem dJ1_indexOf_4cfef_30 : decode cJ1_indexOf_4cfef 30 = .ok (.iload_n 1, 1) := o27 ac_cJ1_indexOf_4cfef_16 14 rfl
theorem dJ1_indexOf_4cfef_31 : decode cJ1_indexOf_4cfef 31 = .ok (.iload_n 2, 1) := o28 ac_cJ1_indexOf_4cfef_16 15 rfl
def kb_cJ1_indexOf_4cfef_32 : List Nat := [29, 184, 0, 95, 172]
theorem ac_cJ1_indexOf_4cfef_32 : AL cJ1_indexOf_4cfef 32 kb_cJ1_indexOf_4cfef_32 := AL.of (m := 5) (by decide +kernel)
theorem dJ1_indexOf_4cfef_32 : decode cJ1_indexOf_4cfef 32 = .ok (.iload_n 3, 1) := o29 ac_cJ1_indexOf_4cfef_32 0 rfl
theorem dJ1_indexOf_4cfef_33 : decode cJ1_indexOf_4cfef 33 = .ok (.invokestatic 95, 3) := o184 ac_cJ1_indexOf_4cfef_32 1 0 95 rfl
theorem dJ1_indexOf_4cfef_36 : decode cJ1_indexOf_4cfef 36 = .ok (.ireturn, 1) := o172 ac_cJ1_indexOf_4cfef_32 4 rfl
def kb_cJ0_indexOf_7cf53_0 : List Nat := [42, 182, 1, 236, 153, 0, 19, 42, 180, 0, 9, 27, 28, 42, 182, 1, 249, 184, 2, 125]
theorem ac_cJ0_indexOf_7cf53_0 : AL cJ0_indexOf_7cf53 0 kb_cJ0_indexOf_7cf53_0 := AL.of (m := 20) (by decide +kernel)
theorem dJ0_indexOf_7cf53_0 : decode cJ0_indexOf_7cf53 0 = .ok (.aload_n 0, 1) := o42 ac_cJ0_indexOf_7cf53_0 0 rfl
theorem dJ0_indexOf_7cf53_1 : decode cJ0_indexOf_7cf53 1 = .ok (.invokevirtual 492, 3) := o182 ac_cJ0_indexOf_7cf53_0 1 1 236 rfl
theorem dJ0_indexOf_7cf53_4 : decode cJ0_indexOf_7cf53 4 = .ok (.ifCond .eq 19, 3) := o153p ac_cJ0_indexOf_7cf53_0 4 0 19 rfl rfl
theorem dJ0_indexOf_7cf53_7 : decode cJ0_indexOf_7cf53 7 = .ok (.aload_n 0, 1) := o42 ac_cJ0_indexOf_7cf53_0 7 rfl
theorem dJ0_indexOf_7cf53_8 : decode cJ0_indexOf_7cf53 8 = .ok (.getfield 9, 3) := o180 ac_cJ0_indexOf_7cf53_0 8 0 9 rfl
theorem dJ0_indexOf_7cf53_11 : decode cJ0_indexOf_7cf53 11 = .ok (.iload_n 1, 1) := o27 ac_cJ0_indexOf_7cf53_0 11 rfl
theorem dJ0_indexOf_7cf53_12 : decode cJ0_indexOf_7cf53 12 = .ok (.iload_n 2, 1) := o28 ac_cJ0_indexOf_7cf53_0 12 rfl
theorem dJ0_indexOf_7cf53_13 : decode cJ0_indexOf_7cf53 13 = .ok (.aload_n 0, 1) := o42 ac_cJ0_indexOf_7cf53_0 13 rfl
theorem dJ0_indexOf_7cf53_14 : decode cJ0_indexOf_7cf53 14 = .ok (.invokevirtual 505, 3) := o182 ac_cJ0_indexOf_7cf53_0 14 1 249 rfl
def kb_cJ0_indexOf_7cf53_16 : List Nat := [249, 184, 2, 125, 167, 0, 16, 42, 180, 0, 9, 27, 28, 42, 182, 1, 249, 184, 2, 128]
theorem ac_cJ0_indexOf_7cf53_16 : AL cJ0_indexOf_7cf53 16 kb_cJ0_indexOf_7cf53_16 := AL.of (m := 20) (by decide +kernel)
theorem dJ0_indexOf_7cf53_17 : decode cJ0_indexOf_7cf53 17 = .ok (.invokestatic 637, 3) := o184 ac_cJ0_indexOf_7cf53_16 1 2 125 rfl
theorem dJ0_indexOf_7cf53_20 : decode cJ0_indexOf_7cf53 20 = .ok (.goto 16, 3) := o167p ac_cJ0_indexOf_7cf53_16 4 0 16 rfl rfl
theorem dJ0_indexOf_7cf53_23 : decode cJ0_indexOf_7cf53 23 = .ok (.aload_n 0, 1) := o42 ac_cJ0_indexOf_7cf53_16 7 rfl
theorem dJ0_indexOf_7cf53_24 : decode cJ0_indexOf_7cf53 24 = .ok (.getfield 9, 3) := o180 ac_cJ0_indexOf_7cf53_16 8 0 9 rfl
theorem dJ0_indexOf_7cf53_27 : decode cJ0_indexOf_7cf53 27 = .ok (.iload_n 1, 1) := o27 ac_cJ0_indexOf_7cf53_16 11 rfl
theorem dJ0_indexOf_7cf53_28 : decode cJ0_indexOf_7cf53 28 = .ok (.iload_n 2, 1) := o28 ac_cJ0_indexOf_7cf53_16 12 rfl
theorem dJ0_indexOf_7cf53_29 : decode cJ0_indexOf_7cf53 29 = .ok (.aload_n 0, 1) := o42 ac_cJ0_indexOf_7cf53_16 13 rfl
theorem dJ0_indexOf_7cf53_30 : decode cJ0_indexOf_7cf53 30 = .ok (.invokevirtual 505, 3) := o182 ac_cJ0_indexOf_7cf53_16 14 1 249 rfl
def kb_cJ0_indexOf_7cf53_32 : List Nat := [249, 184, 2, 128, 172]
theorem ac_cJ0_indexOf_7cf53_32 : AL cJ0_indexOf_7cf53 32 kb_cJ0_indexOf_7cf53_32 := AL.of (m := 5) (by decide +kernel)
theorem dJ0_indexOf_7cf53_36 : decode cJ0_indexOf_7cf53 36 = .ok (.ireturn, 1) := o172 ac_cJ0_indexOf_7cf53_32 4 rfl
def kb_cJ0_indexOf_0f7a4_0 : List Nat := [42, 27, 3, 182, 2, 121, 172]
theorem ac_cJ0_indexOf_0f7a4_0 : AL cJ0_indexOf_0f7a4 0 kb_cJ0_indexOf_0f7a4_0 := AL.of (m := 7) (by decide +kernel)
theorem dJ0_indexOf_0f7a4_0 : decode cJ0_indexOf_0f7a4 0 = .ok (.aload_n 0, 1) := o42 ac_cJ0_indexOf_0f7a4_0 0 rfl
theorem dJ0_indexOf_0f7a4_1 : decode cJ0_indexOf_0f7a4 1 = .ok (.iload_n 1, 1) := o27 ac_cJ0_indexOf_0f7a4_0 1 rfl
theorem dJ0_indexOf_0f7a4_2 : decode cJ0_indexOf_0f7a4 2 = .ok (.iconst 0, 1) := o3 ac_cJ0_indexOf_0f7a4_0 2 rfl
theorem dJ0_indexOf_0f7a4_3 : decode cJ0_indexOf_0f7a4 3 = .ok (.invokevirtual 633, 3) := o182 ac_cJ0_indexOf_0f7a4_0 3 2 121 rfl
theorem dJ0_indexOf_0f7a4_6 : decode cJ0_indexOf_0f7a4 6 = .ok (.ireturn, 1) := o172 ac_cJ0_indexOf_0f7a4_0 6 rfl
theorem fw_val : Cond.fieldLink RJ0 9 RJ0 "value" "[B" ∈ gw_tbl := gw8 23 (by decide +kernel) rfl
theorem fw_cod : Cond.fieldLink RJ0 15 RJ0 "coder" "B" ∈ gw_tbl := gw8 24 (by decide +kernel) rfl
theorem fw_cmp : Cond.fieldLink RJ0 38 RJ0 "COMPACT_STRINGS" "Z" ∈ gw_tbl := gw2 224 (by decide +kernel) rfl
theorem fw_fmt : Cond.fieldLink RJ0 1053 RJ3 "SIOOBE_FORMATTER" "Ljava/util/function/BiFunction;" ∈ gw_tbl := gw3 0 (by decide +kernel) rfl
theorem ls_shr : ∀ i, i < 2 → Int32.ofNat (lenS.getD i 0) >>> ((0 : Int32) &&& 31) = Int32.ofNat (lenS.getD i 0) := by decide +kernel
theorem ls_int : ∀ i, i < 2 → (Int32.ofNat (lenS.getD i 0)).toInt = (lenS.getD i 0 : Nat) := by decide +kernel
theorem ls_nar : ∀ i, i < 2 → ∀ j, j < lenS.getD i 0 → (chS i j).toUInt32.toUInt16.toUInt32.toInt32 = chS i j := by decide +kernel
set_option maxRecDepth 10000 in
theorem J_coder {l : Launch} {D : va_G} {ids : List Nat} {ad : Nat → Nat} {ca : Nat → ClassId} {K : (Nat → Nat) × (Nat → Nat)} {σ : HS} {i : Nat} (hi : i < 2) : KiS l D ids ad ca K yJ0_coder_7d493 cJ0_coder_7d493 1 .byte 0 0 [.ref (K.1 i)] σ (fun r σ' => r = 0 ∧ σ' = σ) := by
  refine KiS.ofF (by decide +kernel) (Nat.le_of_ble_eq_true rfl) 0 (fun Γ C E Rt => ?_)
  show AW ids ad ca Γ 0 [some (.ref (K.1 i))] [] σ
  refine a_scmp C E fw_cmp dJ0_coder_7d493_0 ?_
  refine a_if_eq C dJ0_coder_7d493_3 rfl (fun h => absurd h (by decide)) (fun _ => ?_)
  refine a_aload_n C dJ0_coder_7d493_6 rfl rfl ?_
  refine a_scod C E hi fw_cod dJ0_coder_7d493_7 ?_
  refine a_goto C dJ0_coder_7d493_10 rfl ?_
  exact a_iret Rt dJ0_coder_7d493_14 rfl ⟨rfl, rfl⟩
set_option maxRecDepth 10000 in
theorem J_isLatin1 {l : Launch} {D : va_G} {ids : List Nat} {ad : Nat → Nat} {ca : Nat → ClassId} {K : (Nat → Nat) × (Nat → Nat)} {σ : HS} {i : Nat} (hi : i < 2) : KiS l D ids ad ca K yJ0_isLatin1_aae02 cJ0_isLatin1_aae02 1 .boolean 0 0 [.ref (K.1 i)] σ (fun r σ' => r = 1 ∧ σ' = σ) := by
  refine KiS.ofF (by decide +kernel) (Nat.le_of_ble_eq_true rfl) 0 (fun Γ C E Rt => ?_)
  show AW ids ad ca Γ 0 [some (.ref (K.1 i))] [] σ
  refine a_scmp C E fw_cmp dJ0_isLatin1_aae02_0 ?_
  refine a_if_eq C dJ0_isLatin1_aae02_3 rfl (fun h => absurd h (by decide)) (fun _ => ?_)
  refine a_aload_n C dJ0_isLatin1_aae02_6 rfl rfl ?_
  refine a_scod C E hi fw_cod dJ0_isLatin1_aae02_7 ?_
  refine a_if_ne C dJ0_isLatin1_aae02_10 rfl (fun h => absurd rfl h) (fun _ => ?_)
  refine a_iconst C dJ0_isLatin1_aae02_13 rfl ?_
  refine a_goto C dJ0_isLatin1_aae02_14 rfl ?_
  exact a_iret Rt dJ0_isLatin1_aae02_18 rfl ⟨rfl, rfl⟩
set_option maxRecDepth 10000 in
theorem J_length {l : Launch} {D : va_G} {ids : List Nat} {ad : Nat → Nat} {ca : Nat → ClassId} {K : (Nat → Nat) × (Nat → Nat)} {σ : HS} {i : Nat} (hi : i < 2) : KiS l D ids ad ca K yJ0_length_8abf5 cJ0_length_8abf5 1 .int 1 20 [.ref (K.1 i)] σ (fun r σ' => r.toInt = (lenS.getD i 0 : Nat) ∧ σ' = σ) := by
  refine KiS.ofF (by decide +kernel) (Nat.le_of_ble_eq_true rfl) 0 (fun Γ C E Rt => ?_)
  show AW ids ad ca Γ 0 [some (.ref (K.1 i))] [] σ
  refine a_aload_n C dJ0_length_8abf5_0 rfl rfl ?_
  refine a_sval C E hi fw_val dJ0_length_8abf5_1 ?_
  refine a_slen C E hi dJ0_length_8abf5_4 ?_
  refine a_aload_n C dJ0_length_8abf5_5 rfl rfl ?_
  refine a_cTiS C E (As := []) hi rfl (J_coder hi) mi_J0_coder_7d493 ml_RJ0_335 rfl rfl (Nat.le_of_ble_eq_true rfl) (Nat.le_of_ble_eq_true rfl) (Nat.le_of_ble_eq_true rfl) dJ0_length_8abf5_6 (fun r σ1 q => ?_)
  obtain ⟨rfl, rfl⟩ := q
  refine a_ishr C dJ0_length_8abf5_9 ?_
  rw [ls_shr i hi]
  exact a_iret Rt dJ0_length_8abf5_10 rfl ⟨ls_int i hi, rfl⟩
set_option maxRecDepth 10000 in
theorem J_pciN {l : Launch} {D : va_G} {ids : List Nat} {ad : Nat → Nat} {ca : Nat → ClassId} {K : (Nat → Nat) × (Nat → Nat)} {σ : HS} {x n : Int32} (h0 : 0 ≤ x.toInt) (h1 : x.toInt < n.toInt) : KiS l D ids ad ca K yJ3_checkIndex_8e157 cJ3_checkIndex_8e157 3 .int 0 0 [.int x, .int n, .null] σ (fun r σ' => σ' = σ) := by
  refine KiS.ofF (by decide +kernel) (Nat.le_of_ble_eq_true rfl) 0 (fun Γ C E Rt => ?_)
  show AW ids ad ca Γ 0 [some (.int x), some (.int n), some (.null)] [] σ
  refine a_iload_n C dJ3_checkIndex_8e157_0 rfl rfl ?_
  refine s_if_lt C dJ3_checkIndex_8e157_1 rfl (fun h => absurd h (by omega)) (fun _ => ?_)
  refine a_iload_n C dJ3_checkIndex_8e157_4 rfl rfl ?_
  refine a_iload_n C dJ3_checkIndex_8e157_5 rfl rfl ?_
  refine s_ic_lt C dJ3_checkIndex_8e157_6 rfl (fun _ => ?_) (fun h => absurd h (by omega))
  refine a_iload_n C dJ3_checkIndex_8e157_16 rfl rfl ?_
  exact a_iret Rt dJ3_checkIndex_8e157_17 rfl rfl
set_option maxRecDepth 10000 in
theorem J_pciR {l : Launch} {D : va_G} {ids : List Nat} {ad : Nat → Nat} {ca : Nat → ClassId} {K : (Nat → Nat) × (Nat → Nat)} {σ : HS} {x n : Int32} {t : Nat} (h0 : 0 ≤ x.toInt) (h1 : x.toInt < n.toInt) : KiS l D ids ad ca K yJ3_checkIndex_8e157 cJ3_checkIndex_8e157 3 .int 0 0 [.int x, .int n, .ref t] σ (fun r σ' => σ' = σ) := by
  refine KiS.ofF (by decide +kernel) (Nat.le_of_ble_eq_true rfl) 0 (fun Γ C E Rt => ?_)
  show AW ids ad ca Γ 0 [some (.int x), some (.int n), some (.ref t)] [] σ
  refine a_iload_n C dJ3_checkIndex_8e157_0 rfl rfl ?_
  refine s_if_lt C dJ3_checkIndex_8e157_1 rfl (fun h => absurd h (by omega)) (fun _ => ?_)
  refine a_iload_n C dJ3_checkIndex_8e157_4 rfl rfl ?_
  refine a_iload_n C dJ3_checkIndex_8e157_5 rfl rfl ?_
  refine s_ic_lt C dJ3_checkIndex_8e157_6 rfl (fun _ => ?_) (fun h => absurd h (by omega))
  refine a_iload_n C dJ3_checkIndex_8e157_16 rfl rfl ?_
  exact a_iret Rt dJ3_checkIndex_8e157_17 rfl rfl
set_option maxRecDepth 10000 in
theorem J_sci {l : Launch} {D : va_G} {ids : List Nat} {ad : Nat → Nat} {ca : Nat → ClassId} {K : (Nat → Nat) × (Nat → Nat)} {σ : HS} {x n : Int32} (h0 : 0 ≤ x.toInt) (h1 : x.toInt < n.toInt) : KvS l D ids ad ca K yJ0_checkIndex_df160 cJ0_checkIndex_df160 2 1 22 [.int x, .int n] σ (fun σ' => σ' = σ) := by
  refine KvS.ofF (by decide +kernel) (Nat.le_of_ble_eq_true rfl) 0 (fun Γ C E Rt => ?_)
  show AW ids ad ca Γ 0 [some (.int x), some (.int n)] [] σ
  refine a_iload_n C dJ0_checkIndex_df160_0 rfl rfl ?_
  refine a_iload_n C dJ0_checkIndex_df160_1 rfl rfl ?_
  refine a_sfmt C E fw_fmt dJ0_checkIndex_df160_2 ?_ (fun t => ?_)
  · refine a_cSiS C E (As := [.int x, .int n, .null]) (J_pciN h0 h1) ms_J3_checkIndex_8e157 ml_RJ0_1059 rfl rfl (Nat.le_of_ble_eq_true rfl) (Nat.le_of_ble_eq_true rfl) (Nat.le_of_ble_eq_true rfl) dJ0_checkIndex_df160_5 (fun r σ1 q => ?_)
    subst q
    refine a_pop C dJ0_checkIndex_df160_8 rfl ?_
    exact a_vret Rt dJ0_checkIndex_df160_9 rfl
  · refine a_cSiS C E (As := [.int x, .int n, .ref t]) (J_pciR h0 h1) ms_J3_checkIndex_8e157 ml_RJ0_1059 rfl rfl (Nat.le_of_ble_eq_true rfl) (Nat.le_of_ble_eq_true rfl) (Nat.le_of_ble_eq_true rfl) dJ0_checkIndex_df160_5 (fun r σ1 q => ?_)
    subst q
    refine a_pop C dJ0_checkIndex_df160_8 rfl ?_
    exact a_vret Rt dJ0_checkIndex_df160_9 rfl
set_option maxRecDepth 10000 in
theorem J_lca {l : Launch} {D : va_G} {ids : List Nat} {ad : Nat → Nat} {ca : Nat → ClassId} {K : (Nat → Nat) × (Nat → Nat)} {σ : HS} {i : Nat} (hi : i < 2) {x : Int32} (h0 : 0 ≤ x.toInt) (h1 : x.toInt < (lenS.getD i 0 : Nat)) : KiS l D ids ad ca K yJ1_charAt_3b067 cJ1_charAt_3b067 2 .char 2 43 [.ref (K.2 i), .int x] σ (fun r σ' => (∃ j : Nat, (j : Int) = x.toInt ∧ r = chS i j) ∧ σ' = σ) := by
  refine KiS.ofF (by decide +kernel) (Nat.le_of_ble_eq_true rfl) 0 (fun Γ C E Rt => ?_)
  show AW ids ad ca Γ 0 [some (.ref (K.2 i)), some (.int x)] [] σ
  refine a_iload_n C dJ1_charAt_3b067_0 rfl rfl ?_
  refine a_aload_n C dJ1_charAt_3b067_1 rfl rfl ?_
  refine a_slen C E hi dJ1_charAt_3b067_2 ?_
  refine a_cSvS C E (As := [.int x, .int (Int32.ofNat (lenS.getD i 0))]) (J_sci h0 (by rw [ls_int i hi]; exact h1)) ms_J0_checkIndex_df160 ml_RJ1_9 rfl rfl (Nat.le_of_ble_eq_true rfl) (Nat.le_of_ble_eq_true rfl) (Nat.le_of_ble_eq_true rfl) dJ1_charAt_3b067_3 (fun σ1 q => ?_)
  subst q
  refine a_aload_n C dJ1_charAt_3b067_6 rfl rfl ?_
  refine a_iload_n C dJ1_charAt_3b067_7 rfl rfl ?_
  refine a_sbald C E hi h0 h1 dJ1_charAt_3b067_8 (fun jn hj => ?_)
  refine a_sipush C dJ1_charAt_3b067_9 (v := 255) rfl ?_
  refine a_iand C dJ1_charAt_3b067_12 ?_
  refine a_i2c C dJ1_charAt_3b067_13 ?_
  exact a_iret Rt dJ1_charAt_3b067_14 (congrArg Value.int (ls_nar i hi jn (by omega))) ⟨⟨jn, hj, rfl⟩, rfl⟩
set_option maxRecDepth 10000 in
theorem J_charAt {l : Launch} {D : va_G} {ids : List Nat} {ad : Nat → Nat} {ca : Nat → ClassId} {K : (Nat → Nat) × (Nat → Nat)} {σ : HS} {i : Nat} (hi : i < 2) {x : Int32} (h0 : 0 ≤ x.toInt) (h1 : x.toInt < (lenS.getD i 0 : Nat)) : KiS l D ids ad ca K yJ0_charAt_5068e cJ0_charAt_5068e 2 .char 3 70 [.ref (K.1 i), .int x] σ (fun r σ' => (∃ j : Nat, (j : Int) = x.toInt ∧ r = chS i j) ∧ σ' = σ) := by
  refine KiS.ofF (by decide +kernel) (Nat.le_of_ble_eq_true rfl) 0 (fun Γ C E Rt => ?_)
  show AW ids ad ca Γ 0 [some (.ref (K.1 i)), some (.int x)] [] σ
  refine a_aload_n C dJ0_charAt_5068e_0 rfl rfl ?_
  refine a_cTiS C E (As := []) hi rfl (J_isLatin1 hi) mi_J0_isLatin1_aae02 ml_RJ0_492 rfl rfl (Nat.le_of_ble_eq_true rfl) (Nat.le_of_ble_eq_true rfl) (Nat.le_of_ble_eq_true rfl) dJ0_charAt_5068e_1 (fun r σ1 q => ?_)
  obtain ⟨rfl, rfl⟩ := q
  refine a_if_eq C dJ0_charAt_5068e_4 rfl (fun h => absurd h (by decide)) (fun _ => ?_)
  refine a_aload_n C dJ0_charAt_5068e_7 rfl rfl ?_
  refine a_sval C E hi fw_val dJ0_charAt_5068e_8 ?_
  refine a_iload_n C dJ0_charAt_5068e_11 rfl rfl ?_
  refine a_cSiS C E (As := [.ref (K.2 i), .int x]) (J_lca hi h0 h1) ms_J1_charAt_3b067 ml_RJ0_495 rfl rfl (Nat.le_of_ble_eq_true rfl) (Nat.le_of_ble_eq_true rfl) (Nat.le_of_ble_eq_true rfl) dJ0_charAt_5068e_12 (fun r σ1 q => ?_)
  obtain ⟨⟨j, hj, rfl⟩, rfl⟩ := q
  exact a_iret Rt dJ0_charAt_5068e_15 (congrArg Value.int (ls_nar i hi j (by omega))) ⟨⟨j, hj, rfl⟩, rfl⟩
/-! the tape cut into tokens -/
def kb_cX9_isBlank_0 : List Nat := [26, 16, 9, 159, 0, 21, 26, 16, 10, 159, 0, 15, 26, 16, 13, 159, 0, 9, 26, 16]
theorem ac_cX9_isBlank_0 : AL cX9_isBlank 0 kb_cX9_isBlank_0 := AL.of (m := 20) (by decide +kernel)
theorem dX9_isBlank_0 : decode cX9_isBlank 0 = .ok (.iload_n 0, 1) := o26 ac_cX9_isBlank_0 0 rfl
theorem dX9_isBlank_1 : decode cX9_isBlank 1 = .ok (.bipush 9, 2) := o16p ac_cX9_isBlank_0 1 9 rfl rfl
theorem dX9_isBlank_3 : decode cX9_isBlank 3 = .ok (.if_icmp .eq 21, 3) := o159p ac_cX9_isBlank_0 3 0 21 rfl rfl
theorem dX9_isBlank_6 : decode cX9_isBlank 6 = .ok (.iload_n 0, 1) := o26 ac_cX9_isBlank_0 6 rfl
theorem dX9_isBlank_7 : decode cX9_isBlank 7 = .ok (.bipush 10, 2) := o16p ac_cX9_isBlank_0 7 10 rfl rfl
theorem dX9_isBlank_9 : decode cX9_isBlank 9 = .ok (.if_icmp .eq 15, 3) := o159p ac_cX9_isBlank_0 9 0 15 rfl rfl
theorem dX9_isBlank_12 : decode cX9_isBlank 12 = .ok (.iload_n 0, 1) := o26 ac_cX9_isBlank_0 12 rfl
theorem dX9_isBlank_13 : decode cX9_isBlank 13 = .ok (.bipush 13, 2) := o16p ac_cX9_isBlank_0 13 13 rfl rfl
theorem dX9_isBlank_15 : decode cX9_isBlank 15 = .ok (.if_icmp .eq 9, 3) := o159p ac_cX9_isBlank_0 15 0 9 rfl rfl
def kb_cX9_isBlank_16 : List Nat := [0, 9, 26, 16, 32, 160, 0, 7, 4, 167, 0, 4, 3, 172]
theorem ac_cX9_isBlank_16 : AL cX9_isBlank 16 kb_cX9_isBlank_16 := AL.of (m := 14) (by decide +kernel)
theorem dX9_isBlank_18 : decode cX9_isBlank 18 = .ok (.iload_n 0, 1) := o26 ac_cX9_isBlank_16 2 rfl
theorem dX9_isBlank_19 : decode cX9_isBlank 19 = .ok (.bipush 32, 2) := o16p ac_cX9_isBlank_16 3 32 rfl rfl
theorem dX9_isBlank_21 : decode cX9_isBlank 21 = .ok (.if_icmp .ne 7, 3) := o160p ac_cX9_isBlank_16 5 0 7 rfl rfl
theorem dX9_isBlank_24 : decode cX9_isBlank 24 = .ok (.iconst 1, 1) := o4 ac_cX9_isBlank_16 8 rfl
theorem dX9_isBlank_25 : decode cX9_isBlank 25 = .ok (.goto 4, 3) := o167p ac_cX9_isBlank_16 9 0 4 rfl rfl
theorem dX9_isBlank_28 : decode cX9_isBlank 28 = .ok (.iconst 0, 1) := o3 ac_cX9_isBlank_16 12 rfl
theorem dX9_isBlank_29 : decode cX9_isBlank 29 = .ok (.ireturn, 1) := o172 ac_cX9_isBlank_16 13 rfl
def kb_cX9_isLetter_0 : List Nat := [26, 16, 97, 161, 0, 13, 26, 16, 122, 163, 0, 7, 4, 167, 0, 4, 3, 172]
theorem ac_cX9_isLetter_0 : AL cX9_isLetter 0 kb_cX9_isLetter_0 := AL.of (m := 18) (by decide +kernel)
theorem dX9_isLetter_0 : decode cX9_isLetter 0 = .ok (.iload_n 0, 1) := o26 ac_cX9_isLetter_0 0 rfl
theorem dX9_isLetter_1 : decode cX9_isLetter 1 = .ok (.bipush 97, 2) := o16p ac_cX9_isLetter_0 1 97 rfl rfl
theorem dX9_isLetter_3 : decode cX9_isLetter 3 = .ok (.if_icmp .lt 13, 3) := o161p ac_cX9_isLetter_0 3 0 13 rfl rfl
theorem dX9_isLetter_6 : decode cX9_isLetter 6 = .ok (.iload_n 0, 1) := o26 ac_cX9_isLetter_0 6 rfl
theorem dX9_isLetter_7 : decode cX9_isLetter 7 = .ok (.bipush 122, 2) := o16p ac_cX9_isLetter_0 7 122 rfl rfl
theorem dX9_isLetter_9 : decode cX9_isLetter 9 = .ok (.if_icmp .gt 7, 3) := o163p ac_cX9_isLetter_0 9 0 7 rfl rfl
theorem dX9_isLetter_12 : decode cX9_isLetter 12 = .ok (.iconst 1, 1) := o4 ac_cX9_isLetter_0 12 rfl
theorem dX9_isLetter_13 : decode cX9_isLetter 13 = .ok (.goto 4, 3) := o167p ac_cX9_isLetter_0 13 0 4 rfl rfl
def kb_cX9_isLetter_16 : List Nat := [3, 172]
theorem ac_cX9_isLetter_16 : AL cX9_isLetter 16 kb_cX9_isLetter_16 := AL.of (m := 2) (by decide +kernel)
theorem dX9_isLetter_16 : decode cX9_isLetter 16 = .ok (.iconst 0, 1) := o3 ac_cX9_isLetter_16 0 rfl
theorem dX9_isLetter_17 : decode cX9_isLetter 17 = .ok (.ireturn, 1) := o172 ac_cX9_isLetter_16 1 rfl
def kb_cX9_isDigit_0 : List Nat := [26, 16, 48, 161, 0, 13, 26, 16, 57, 163, 0, 7, 4, 167, 0, 4, 3, 172]
theorem ac_cX9_isDigit_0 : AL cX9_isDigit 0 kb_cX9_isDigit_0 := AL.of (m := 18) (by decide +kernel)
theorem dX9_isDigit_0 : decode cX9_isDigit 0 = .ok (.iload_n 0, 1) := o26 ac_cX9_isDigit_0 0 rfl
theorem dX9_isDigit_1 : decode cX9_isDigit 1 = .ok (.bipush 48, 2) := o16p ac_cX9_isDigit_0 1 48 rfl rfl
theorem dX9_isDigit_3 : decode cX9_isDigit 3 = .ok (.if_icmp .lt 13, 3) := o161p ac_cX9_isDigit_0 3 0 13 rfl rfl
theorem dX9_isDigit_6 : decode cX9_isDigit 6 = .ok (.iload_n 0, 1) := o26 ac_cX9_isDigit_0 6 rfl
theorem dX9_isDigit_7 : decode cX9_isDigit 7 = .ok (.bipush 57, 2) := o16p ac_cX9_isDigit_0 7 57 rfl rfl
theorem dX9_isDigit_9 : decode cX9_isDigit 9 = .ok (.if_icmp .gt 7, 3) := o163p ac_cX9_isDigit_0 9 0 7 rfl rfl
theorem dX9_isDigit_12 : decode cX9_isDigit 12 = .ok (.iconst 1, 1) := o4 ac_cX9_isDigit_0 12 rfl
theorem dX9_isDigit_13 : decode cX9_isDigit 13 = .ok (.goto 4, 3) := o167p ac_cX9_isDigit_0 13 0 4 rfl rfl
def kb_cX9_isDigit_16 : List Nat := [3, 172]
theorem ac_cX9_isDigit_16 : AL cX9_isDigit 16 kb_cX9_isDigit_16 := AL.of (m := 2) (by decide +kernel)
theorem dX9_isDigit_16 : decode cX9_isDigit 16 = .ok (.iconst 0, 1) := o3 ac_cX9_isDigit_16 0 rfl
theorem dX9_isDigit_17 : decode cX9_isDigit 17 = .ok (.ireturn, 1) := o172 ac_cX9_isDigit_16 1 rfl
def kb_cX9_wordAt_0 : List Nat := [3, 62, 3, 54, 4, 3, 54, 5, 21, 5, 18, 67, 182, 0, 69, 162, 0, 76, 18, 67]
theorem ac_cX9_wordAt_0 : AL cX9_wordAt 0 kb_cX9_wordAt_0 := AL.of (m := 20) (by decide +kernel)
theorem dX9_wordAt_0 : decode cX9_wordAt 0 = .ok (.iconst 0, 1) := o3 ac_cX9_wordAt_0 0 rfl
theorem dX9_wordAt_1 : decode cX9_wordAt 1 = .ok (.istore_n 3, 1) := o62 ac_cX9_wordAt_0 1 rfl
theorem dX9_wordAt_2 : decode cX9_wordAt 2 = .ok (.iconst 0, 1) := o3 ac_cX9_wordAt_0 2 rfl
theorem dX9_wordAt_3 : decode cX9_wordAt 3 = .ok (.istore 4, 2) := o54 ac_cX9_wordAt_0 3 4 rfl
theorem dX9_wordAt_5 : decode cX9_wordAt 5 = .ok (.iconst 0, 1) := o3 ac_cX9_wordAt_0 5 rfl
theorem dX9_wordAt_6 : decode cX9_wordAt 6 = .ok (.istore 5, 2) := o54 ac_cX9_wordAt_0 6 5 rfl
theorem dX9_wordAt_8 : decode cX9_wordAt 8 = .ok (.iload 5, 2) := o21 ac_cX9_wordAt_0 8 5 rfl
theorem dX9_wordAt_10 : decode cX9_wordAt 10 = .ok (.ldc 67, 2) := o18 ac_cX9_wordAt_0 10 67 rfl
theorem dX9_wordAt_12 : decode cX9_wordAt 12 = .ok (.invokevirtual 69, 3) := o182 ac_cX9_wordAt_0 12 0 69 rfl
theorem dX9_wordAt_15 : decode cX9_wordAt 15 = .ok (.if_icmp .ge 76, 3) := o162p ac_cX9_wordAt_0 15 0 76 rfl rfl
def kb_cX9_wordAt_16 : List Nat := [0, 76, 18, 67, 21, 5, 182, 0, 73, 54, 6, 21, 6, 16, 32, 160, 0, 20, 21, 4]
theorem ac_cX9_wordAt_16 : AL cX9_wordAt 16 kb_cX9_wordAt_16 := AL.of (m := 20) (by decide +kernel)
theorem dX9_wordAt_18 : decode cX9_wordAt 18 = .ok (.ldc 67, 2) := o18 ac_cX9_wordAt_16 2 67 rfl
theorem dX9_wordAt_20 : decode cX9_wordAt 20 = .ok (.iload 5, 2) := o21 ac_cX9_wordAt_16 4 5 rfl
theorem dX9_wordAt_22 : decode cX9_wordAt 22 = .ok (.invokevirtual 73, 3) := o182 ac_cX9_wordAt_16 6 0 73 rfl
theorem dX9_wordAt_25 : decode cX9_wordAt 25 = .ok (.istore 6, 2) := o54 ac_cX9_wordAt_16 9 6 rfl
theorem dX9_wordAt_27 : decode cX9_wordAt 27 = .ok (.iload 6, 2) := o21 ac_cX9_wordAt_16 11 6 rfl
theorem dX9_wordAt_29 : decode cX9_wordAt 29 = .ok (.bipush 32, 2) := o16p ac_cX9_wordAt_16 13 32 rfl rfl
theorem dX9_wordAt_31 : decode cX9_wordAt 31 = .ok (.if_icmp .ne 20, 3) := o160p ac_cX9_wordAt_16 15 0 20 rfl rfl
def kb_cX9_wordAt_32 : List Nat := [0, 20, 21, 4, 28, 160, 0, 5, 29, 172, 132, 3, 1, 3, 54, 4, 167, 0, 37, 21]
theorem ac_cX9_wordAt_32 : AL cX9_wordAt 32 kb_cX9_wordAt_32 := AL.of (m := 20) (by decide +kernel)
theorem dX9_wordAt_34 : decode cX9_wordAt 34 = .ok (.iload 4, 2) := o21 ac_cX9_wordAt_32 2 4 rfl
theorem dX9_wordAt_36 : decode cX9_wordAt 36 = .ok (.iload_n 2, 1) := o28 ac_cX9_wordAt_32 4 rfl
theorem dX9_wordAt_37 : decode cX9_wordAt 37 = .ok (.if_icmp .ne 5, 3) := o160p ac_cX9_wordAt_32 5 0 5 rfl rfl
theorem dX9_wordAt_40 : decode cX9_wordAt 40 = .ok (.iload_n 3, 1) := o29 ac_cX9_wordAt_32 8 rfl
theorem dX9_wordAt_41 : decode cX9_wordAt 41 = .ok (.ireturn, 1) := o172 ac_cX9_wordAt_32 9 rfl
theorem dX9_wordAt_42 : decode cX9_wordAt 42 = .ok (.iinc 3 1, 3) := o132p ac_cX9_wordAt_32 10 3 1 rfl rfl
theorem dX9_wordAt_45 : decode cX9_wordAt 45 = .ok (.iconst 0, 1) := o3 ac_cX9_wordAt_32 13 rfl
theorem dX9_wordAt_46 : decode cX9_wordAt 46 = .ok (.istore 4, 2) := o54 ac_cX9_wordAt_32 14 4 rfl
def kb_cX9_wordAt_48 : List Nat := [167, 0, 37, 21, 4, 155, 0, 29, 21, 4, 28, 162, 0, 23, 42, 180, 0, 9, 27, 21]
theorem ac_cX9_wordAt_48 : AL cX9_wordAt 48 kb_cX9_wordAt_48 := AL.of (m := 20) (by decide +kernel)
theorem dX9_wordAt_48 : decode cX9_wordAt 48 = .ok (.goto 37, 3) := o167p ac_cX9_wordAt_48 0 0 37 rfl rfl
theorem dX9_wordAt_51 : decode cX9_wordAt 51 = .ok (.iload 4, 2) := o21 ac_cX9_wordAt_48 3 4 rfl
theorem dX9_wordAt_53 : decode cX9_wordAt 53 = .ok (.ifCond .lt 29, 3) := o155p ac_cX9_wordAt_48 5 0 29 rfl rfl
theorem dX9_wordAt_56 : decode cX9_wordAt 56 = .ok (.iload 4, 2) := o21 ac_cX9_wordAt_48 8 4 rfl
theorem dX9_wordAt_58 : decode cX9_wordAt 58 = .ok (.iload_n 2, 1) := o28 ac_cX9_wordAt_48 10 rfl
theorem dX9_wordAt_59 : decode cX9_wordAt 59 = .ok (.if_icmp .ge 23, 3) := o162p ac_cX9_wordAt_48 11 0 23 rfl rfl
theorem dX9_wordAt_62 : decode cX9_wordAt 62 = .ok (.aload_n 0, 1) := o42 ac_cX9_wordAt_48 14 rfl
theorem dX9_wordAt_63 : decode cX9_wordAt 63 = .ok (.getfield 9, 3) := o180 ac_cX9_wordAt_48 15 0 9 rfl
def kb_cX9_wordAt_64 : List Nat := [0, 9, 27, 21, 4, 96, 46, 21, 6, 160, 0, 9, 132, 4, 1, 167, 0, 6, 2, 54]
theorem ac_cX9_wordAt_64 : AL cX9_wordAt 64 kb_cX9_wordAt_64 := AL.of (m := 20) (by decide +kernel)
theorem dX9_wordAt_66 : decode cX9_wordAt 66 = .ok (.iload_n 1, 1) := o27 ac_cX9_wordAt_64 2 rfl
theorem dX9_wordAt_67 : decode cX9_wordAt 67 = .ok (.iload 4, 2) := o21 ac_cX9_wordAt_64 3 4 rfl
theorem dX9_wordAt_69 : decode cX9_wordAt 69 = .ok (.iadd, 1) := o96 ac_cX9_wordAt_64 5 rfl
theorem dX9_wordAt_70 : decode cX9_wordAt 70 = .ok (.iaload, 1) := o46 ac_cX9_wordAt_64 6 rfl
theorem dX9_wordAt_71 : decode cX9_wordAt 71 = .ok (.iload 6, 2) := o21 ac_cX9_wordAt_64 7 6 rfl
theorem dX9_wordAt_73 : decode cX9_wordAt 73 = .ok (.if_icmp .ne 9, 3) := o160p ac_cX9_wordAt_64 9 0 9 rfl rfl
theorem dX9_wordAt_76 : decode cX9_wordAt 76 = .ok (.iinc 4 1, 3) := o132p ac_cX9_wordAt_64 12 4 1 rfl rfl
theorem dX9_wordAt_79 : decode cX9_wordAt 79 = .ok (.goto 6, 3) := o167p ac_cX9_wordAt_64 15 0 6 rfl rfl
def kb_cX9_wordAt_80 : List Nat := [0, 6, 2, 54, 4, 132, 5, 1, 167, 255, 176, 2, 172]
theorem ac_cX9_wordAt_80 : AL cX9_wordAt 80 kb_cX9_wordAt_80 := AL.of (m := 13) (by decide +kernel)
theorem dX9_wordAt_82 : decode cX9_wordAt 82 = .ok (.iconst (-1), 1) := o2 ac_cX9_wordAt_80 2 rfl
theorem dX9_wordAt_83 : decode cX9_wordAt 83 = .ok (.istore 4, 2) := o54 ac_cX9_wordAt_80 3 4 rfl
theorem dX9_wordAt_85 : decode cX9_wordAt 85 = .ok (.iinc 5 1, 3) := o132p ac_cX9_wordAt_80 5 5 1 rfl rfl
theorem dX9_wordAt_88 : decode cX9_wordAt 88 = .ok (.goto (-80), 3) := o167n ac_cX9_wordAt_80 8 255 176 79 rfl rfl rfl
theorem dX9_wordAt_91 : decode cX9_wordAt 91 = .ok (.iconst (-1), 1) := o2 ac_cX9_wordAt_80 11 rfl
theorem dX9_wordAt_92 : decode cX9_wordAt 92 = .ok (.ireturn, 1) := o172 ac_cX9_wordAt_80 12 rfl
def kb_cX9_cutInt_0 : List Nat := [42, 180, 0, 29, 61, 9, 66, 42, 180, 0, 29, 42, 180, 0, 25, 162, 0, 51, 42, 180]
theorem ac_cX9_cutInt_0 : AL cX9_cutInt 0 kb_cX9_cutInt_0 := AL.of (m := 20) (by decide +kernel)
theorem dX9_cutInt_0 : decode cX9_cutInt 0 = .ok (.aload_n 0, 1) := o42 ac_cX9_cutInt_0 0 rfl
theorem dX9_cutInt_1 : decode cX9_cutInt 1 = .ok (.getfield 29, 3) := o180 ac_cX9_cutInt_0 1 0 29 rfl
theorem dX9_cutInt_4 : decode cX9_cutInt 4 = .ok (.istore_n 2, 1) := o61 ac_cX9_cutInt_0 4 rfl
theorem dX9_cutInt_5 : decode cX9_cutInt 5 = .ok (.lconst 0, 1) := o9 ac_cX9_cutInt_0 5 rfl
theorem dX9_cutInt_6 : decode cX9_cutInt 6 = .ok (.lstore_n 3, 1) := o66 ac_cX9_cutInt_0 6 rfl
theorem dX9_cutInt_7 : decode cX9_cutInt 7 = .ok (.aload_n 0, 1) := o42 ac_cX9_cutInt_0 7 rfl
theorem dX9_cutInt_8 : decode cX9_cutInt 8 = .ok (.getfield 29, 3) := o180 ac_cX9_cutInt_0 8 0 29 rfl
theorem dX9_cutInt_11 : decode cX9_cutInt 11 = .ok (.aload_n 0, 1) := o42 ac_cX9_cutInt_0 11 rfl
theorem dX9_cutInt_12 : decode cX9_cutInt 12 = .ok (.getfield 25, 3) := o180 ac_cX9_cutInt_0 12 0 25 rfl
theorem dX9_cutInt_15 : decode cX9_cutInt 15 = .ok (.if_icmp .ge 51, 3) := o162p ac_cX9_cutInt_0 15 0 51 rfl rfl
def kb_cX9_cutInt_16 : List Nat := [0, 51, 42, 180, 0, 9, 42, 180, 0, 29, 46, 184, 0, 46, 153, 0, 36, 33, 20, 0]
theorem ac_cX9_cutInt_16 : AL cX9_cutInt 16 kb_cX9_cutInt_16 := AL.of (m := 20) (by decide +kernel)
theorem dX9_cutInt_18 : decode cX9_cutInt 18 = .ok (.aload_n 0, 1) := o42 ac_cX9_cutInt_16 2 rfl
theorem dX9_cutInt_19 : decode cX9_cutInt 19 = .ok (.getfield 9, 3) := o180 ac_cX9_cutInt_16 3 0 9 rfl
theorem dX9_cutInt_22 : decode cX9_cutInt 22 = .ok (.aload_n 0, 1) := o42 ac_cX9_cutInt_16 6 rfl
theorem dX9_cutInt_23 : decode cX9_cutInt 23 = .ok (.getfield 29, 3) := o180 ac_cX9_cutInt_16 7 0 29 rfl
theorem dX9_cutInt_26 : decode cX9_cutInt 26 = .ok (.iaload, 1) := o46 ac_cX9_cutInt_16 10 rfl
theorem dX9_cutInt_27 : decode cX9_cutInt 27 = .ok (.invokestatic 46, 3) := o184 ac_cX9_cutInt_16 11 0 46 rfl
theorem dX9_cutInt_30 : decode cX9_cutInt 30 = .ok (.ifCond .eq 36, 3) := o153p ac_cX9_cutInt_16 14 0 36 rfl rfl
def kb_cX9_cutInt_32 : List Nat := [36, 33, 20, 0, 65, 105, 42, 180, 0, 9, 42, 180, 0, 29, 46, 16, 48, 100, 133, 97]
theorem ac_cX9_cutInt_32 : AL cX9_cutInt 32 kb_cX9_cutInt_32 := AL.of (m := 20) (by decide +kernel)
theorem dX9_cutInt_33 : decode cX9_cutInt 33 = .ok (.lload_n 3, 1) := o33 ac_cX9_cutInt_32 1 rfl
theorem dX9_cutInt_34 : decode cX9_cutInt 34 = .ok (.ldc2_w 65, 3) := o20 ac_cX9_cutInt_32 2 0 65 rfl
theorem dX9_cutInt_37 : decode cX9_cutInt 37 = .ok (.lmul, 1) := o105 ac_cX9_cutInt_32 5 rfl
theorem dX9_cutInt_38 : decode cX9_cutInt 38 = .ok (.aload_n 0, 1) := o42 ac_cX9_cutInt_32 6 rfl
theorem dX9_cutInt_39 : decode cX9_cutInt 39 = .ok (.getfield 9, 3) := o180 ac_cX9_cutInt_32 7 0 9 rfl
theorem dX9_cutInt_42 : decode cX9_cutInt 42 = .ok (.aload_n 0, 1) := o42 ac_cX9_cutInt_32 10 rfl
theorem dX9_cutInt_43 : decode cX9_cutInt 43 = .ok (.getfield 29, 3) := o180 ac_cX9_cutInt_32 11 0 29 rfl
theorem dX9_cutInt_46 : decode cX9_cutInt 46 = .ok (.iaload, 1) := o46 ac_cX9_cutInt_32 14 rfl
theorem dX9_cutInt_47 : decode cX9_cutInt 47 = .ok (.bipush 48, 2) := o16p ac_cX9_cutInt_32 15 48 rfl rfl
def kb_cX9_cutInt_48 : List Nat := [48, 100, 133, 97, 66, 42, 89, 180, 0, 29, 4, 96, 181, 0, 29, 167, 255, 200, 42, 180]
theorem ac_cX9_cutInt_48 : AL cX9_cutInt 48 kb_cX9_cutInt_48 := AL.of (m := 20) (by decide +kernel)
theorem dX9_cutInt_49 : decode cX9_cutInt 49 = .ok (.isub, 1) := o100 ac_cX9_cutInt_48 1 rfl
theorem dX9_cutInt_50 : decode cX9_cutInt 50 = .ok (.i2l, 1) := o133 ac_cX9_cutInt_48 2 rfl
theorem dX9_cutInt_51 : decode cX9_cutInt 51 = .ok (.ladd, 1) := o97 ac_cX9_cutInt_48 3 rfl
theorem dX9_cutInt_52 : decode cX9_cutInt 52 = .ok (.lstore_n 3, 1) := o66 ac_cX9_cutInt_48 4 rfl
theorem dX9_cutInt_53 : decode cX9_cutInt 53 = .ok (.aload_n 0, 1) := o42 ac_cX9_cutInt_48 5 rfl
theorem dX9_cutInt_54 : decode cX9_cutInt 54 = .ok (.dup, 1) := o89 ac_cX9_cutInt_48 6 rfl
theorem dX9_cutInt_55 : decode cX9_cutInt 55 = .ok (.getfield 29, 3) := o180 ac_cX9_cutInt_48 7 0 29 rfl
theorem dX9_cutInt_58 : decode cX9_cutInt 58 = .ok (.iconst 1, 1) := o4 ac_cX9_cutInt_48 10 rfl
theorem dX9_cutInt_59 : decode cX9_cutInt 59 = .ok (.iadd, 1) := o96 ac_cX9_cutInt_48 11 rfl
theorem dX9_cutInt_60 : decode cX9_cutInt 60 = .ok (.putfield 29, 3) := o181 ac_cX9_cutInt_48 12 0 29 rfl
theorem dX9_cutInt_63 : decode cX9_cutInt 63 = .ok (.goto (-56), 3) := o167n ac_cX9_cutInt_48 15 255 200 55 rfl rfl rfl
def kb_cX9_cutInt_64 : List Nat := [255, 200, 42, 180, 0, 21, 27, 33, 80, 42, 180, 0, 29, 28, 100, 7, 163, 0, 8, 16]
theorem ac_cX9_cutInt_64 : AL cX9_cutInt 64 kb_cX9_cutInt_64 := AL.of (m := 20) (by decide +kernel)
theorem dX9_cutInt_66 : decode cX9_cutInt 66 = .ok (.aload_n 0, 1) := o42 ac_cX9_cutInt_64 2 rfl
theorem dX9_cutInt_67 : decode cX9_cutInt 67 = .ok (.getfield 21, 3) := o180 ac_cX9_cutInt_64 3 0 21 rfl
theorem dX9_cutInt_70 : decode cX9_cutInt 70 = .ok (.iload_n 1, 1) := o27 ac_cX9_cutInt_64 6 rfl
theorem dX9_cutInt_71 : decode cX9_cutInt 71 = .ok (.lload_n 3, 1) := o33 ac_cX9_cutInt_64 7 rfl
theorem dX9_cutInt_72 : decode cX9_cutInt 72 = .ok (.lastore, 1) := o80 ac_cX9_cutInt_64 8 rfl
theorem dX9_cutInt_73 : decode cX9_cutInt 73 = .ok (.aload_n 0, 1) := o42 ac_cX9_cutInt_64 9 rfl
theorem dX9_cutInt_74 : decode cX9_cutInt 74 = .ok (.getfield 29, 3) := o180 ac_cX9_cutInt_64 10 0 29 rfl
theorem dX9_cutInt_77 : decode cX9_cutInt 77 = .ok (.iload_n 2, 1) := o28 ac_cX9_cutInt_64 13 rfl
theorem dX9_cutInt_78 : decode cX9_cutInt 78 = .ok (.isub, 1) := o100 ac_cX9_cutInt_64 14 rfl
theorem dX9_cutInt_79 : decode cX9_cutInt 79 = .ok (.iconst 4, 1) := o7 ac_cX9_cutInt_64 15 rfl
def kb_cX9_cutInt_80 : List Nat := [163, 0, 8, 16, 21, 167, 0, 5, 16, 23, 172]
theorem ac_cX9_cutInt_80 : AL cX9_cutInt 80 kb_cX9_cutInt_80 := AL.of (m := 11) (by decide +kernel)
theorem dX9_cutInt_80 : decode cX9_cutInt 80 = .ok (.if_icmp .gt 8, 3) := o163p ac_cX9_cutInt_80 0 0 8 rfl rfl
theorem dX9_cutInt_83 : decode cX9_cutInt 83 = .ok (.bipush 21, 2) := o16p ac_cX9_cutInt_80 3 21 rfl rfl
theorem dX9_cutInt_85 : decode cX9_cutInt 85 = .ok (.goto 5, 3) := o167p ac_cX9_cutInt_80 5 0 5 rfl rfl
theorem dX9_cutInt_88 : decode cX9_cutInt 88 = .ok (.bipush 23, 2) := o16p ac_cX9_cutInt_80 8 23 rfl rfl
theorem dX9_cutInt_90 : decode cX9_cutInt 90 = .ok (.ireturn, 1) := o172 ac_cX9_cutInt_80 10 rfl
def kb_cX9_cutWord_0 : List Nat := [42, 180, 0, 29, 61, 9, 66, 42, 180, 0, 29, 42, 180, 0, 25, 162, 0, 53, 42, 180]
theorem ac_cX9_cutWord_0 : AL cX9_cutWord 0 kb_cX9_cutWord_0 := AL.of (m := 20) (by decide +kernel)
theorem dX9_cutWord_0 : decode cX9_cutWord 0 = .ok (.aload_n 0, 1) := o42 ac_cX9_cutWord_0 0 rfl
theorem dX9_cutWord_1 : decode cX9_cutWord 1 = .ok (.getfield 29, 3) := o180 ac_cX9_cutWord_0 1 0 29 rfl
theorem dX9_cutWord_4 : decode cX9_cutWord 4 = .ok (.istore_n 2, 1) := o61 ac_cX9_cutWord_0 4 rfl
theorem dX9_cutWord_5 : decode cX9_cutWord 5 = .ok (.lconst 0, 1) := o9 ac_cX9_cutWord_0 5 rfl
theorem dX9_cutWord_6 : decode cX9_cutWord 6 = .ok (.lstore_n 3, 1) := o66 ac_cX9_cutWord_0 6 rfl
theorem dX9_cutWord_7 : decode cX9_cutWord 7 = .ok (.aload_n 0, 1) := o42 ac_cX9_cutWord_0 7 rfl
theorem dX9_cutWord_8 : decode cX9_cutWord 8 = .ok (.getfield 29, 3) := o180 ac_cX9_cutWord_0 8 0 29 rfl
theorem dX9_cutWord_11 : decode cX9_cutWord 11 = .ok (.aload_n 0, 1) := o42 ac_cX9_cutWord_0 11 rfl
theorem dX9_cutWord_12 : decode cX9_cutWord 12 = .ok (.getfield 25, 3) := o180 ac_cX9_cutWord_0 12 0 25 rfl
theorem dX9_cutWord_15 : decode cX9_cutWord 15 = .ok (.if_icmp .ge 53, 3) := o162p ac_cX9_cutWord_0 15 0 53 rfl rfl
def kb_cX9_cutWord_16 : List Nat := [0, 53, 42, 180, 0, 9, 42, 180, 0, 29, 46, 184, 0, 40, 153, 0, 38, 33, 20, 0]
theorem ac_cX9_cutWord_16 : AL cX9_cutWord 16 kb_cX9_cutWord_16 := AL.of (m := 20) (by decide +kernel)
theorem dX9_cutWord_18 : decode cX9_cutWord 18 = .ok (.aload_n 0, 1) := o42 ac_cX9_cutWord_16 2 rfl
theorem dX9_cutWord_19 : decode cX9_cutWord 19 = .ok (.getfield 9, 3) := o180 ac_cX9_cutWord_16 3 0 9 rfl
theorem dX9_cutWord_22 : decode cX9_cutWord 22 = .ok (.aload_n 0, 1) := o42 ac_cX9_cutWord_16 6 rfl
theorem dX9_cutWord_23 : decode cX9_cutWord 23 = .ok (.getfield 29, 3) := o180 ac_cX9_cutWord_16 7 0 29 rfl
theorem dX9_cutWord_26 : decode cX9_cutWord 26 = .ok (.iaload, 1) := o46 ac_cX9_cutWord_16 10 rfl
theorem dX9_cutWord_27 : decode cX9_cutWord 27 = .ok (.invokestatic 40, 3) := o184 ac_cX9_cutWord_16 11 0 40 rfl
theorem dX9_cutWord_30 : decode cX9_cutWord 30 = .ok (.ifCond .eq 38, 3) := o153p ac_cX9_cutWord_16 14 0 38 rfl rfl
def kb_cX9_cutWord_32 : List Nat := [38, 33, 20, 0, 59, 105, 42, 180, 0, 9, 42, 180, 0, 29, 46, 16, 97, 100, 4, 96]
theorem ac_cX9_cutWord_32 : AL cX9_cutWord 32 kb_cX9_cutWord_32 := AL.of (m := 20) (by decide +kernel)
theorem dX9_cutWord_33 : decode cX9_cutWord 33 = .ok (.lload_n 3, 1) := o33 ac_cX9_cutWord_32 1 rfl
theorem dX9_cutWord_34 : decode cX9_cutWord 34 = .ok (.ldc2_w 59, 3) := o20 ac_cX9_cutWord_32 2 0 59 rfl
theorem dX9_cutWord_37 : decode cX9_cutWord 37 = .ok (.lmul, 1) := o105 ac_cX9_cutWord_32 5 rfl
theorem dX9_cutWord_38 : decode cX9_cutWord 38 = .ok (.aload_n 0, 1) := o42 ac_cX9_cutWord_32 6 rfl
theorem dX9_cutWord_39 : decode cX9_cutWord 39 = .ok (.getfield 9, 3) := o180 ac_cX9_cutWord_32 7 0 9 rfl
theorem dX9_cutWord_42 : decode cX9_cutWord 42 = .ok (.aload_n 0, 1) := o42 ac_cX9_cutWord_32 10 rfl
theorem dX9_cutWord_43 : decode cX9_cutWord 43 = .ok (.getfield 29, 3) := o180 ac_cX9_cutWord_32 11 0 29 rfl
theorem dX9_cutWord_46 : decode cX9_cutWord 46 = .ok (.iaload, 1) := o46 ac_cX9_cutWord_32 14 rfl
theorem dX9_cutWord_47 : decode cX9_cutWord 47 = .ok (.bipush 97, 2) := o16p ac_cX9_cutWord_32 15 97 rfl rfl
def kb_cX9_cutWord_48 : List Nat := [97, 100, 4, 96, 133, 97, 66, 42, 89, 180, 0, 29, 4, 96, 181, 0, 29, 167, 255, 198]
theorem ac_cX9_cutWord_48 : AL cX9_cutWord 48 kb_cX9_cutWord_48 := AL.of (m := 20) (by decide +kernel)
theorem dX9_cutWord_49 : decode cX9_cutWord 49 = .ok (.isub, 1) := o100 ac_cX9_cutWord_48 1 rfl
theorem dX9_cutWord_50 : decode cX9_cutWord 50 = .ok (.iconst 1, 1) := o4 ac_cX9_cutWord_48 2 rfl
theorem dX9_cutWord_51 : decode cX9_cutWord 51 = .ok (.iadd, 1) := o96 ac_cX9_cutWord_48 3 rfl
theorem dX9_cutWord_52 : decode cX9_cutWord 52 = .ok (.i2l, 1) := o133 ac_cX9_cutWord_48 4 rfl
theorem dX9_cutWord_53 : decode cX9_cutWord 53 = .ok (.ladd, 1) := o97 ac_cX9_cutWord_48 5 rfl
theorem dX9_cutWord_54 : decode cX9_cutWord 54 = .ok (.lstore_n 3, 1) := o66 ac_cX9_cutWord_48 6 rfl
theorem dX9_cutWord_55 : decode cX9_cutWord 55 = .ok (.aload_n 0, 1) := o42 ac_cX9_cutWord_48 7 rfl
theorem dX9_cutWord_56 : decode cX9_cutWord 56 = .ok (.dup, 1) := o89 ac_cX9_cutWord_48 8 rfl
theorem dX9_cutWord_57 : decode cX9_cutWord 57 = .ok (.getfield 29, 3) := o180 ac_cX9_cutWord_48 9 0 29 rfl
theorem dX9_cutWord_60 : decode cX9_cutWord 60 = .ok (.iconst 1, 1) := o4 ac_cX9_cutWord_48 12 rfl
theorem dX9_cutWord_61 : decode cX9_cutWord 61 = .ok (.iadd, 1) := o96 ac_cX9_cutWord_48 13 rfl
theorem dX9_cutWord_62 : decode cX9_cutWord 62 = .ok (.putfield 29, 3) := o181 ac_cX9_cutWord_48 14 0 29 rfl
def kb_cX9_cutWord_64 : List Nat := [29, 167, 255, 198, 42, 180, 0, 21, 27, 33, 80, 42, 28, 42, 180, 0, 29, 28, 100, 182]
theorem ac_cX9_cutWord_64 : AL cX9_cutWord 64 kb_cX9_cutWord_64 := AL.of (m := 20) (by decide +kernel)
theorem dX9_cutWord_65 : decode cX9_cutWord 65 = .ok (.goto (-58), 3) := o167n ac_cX9_cutWord_64 1 255 198 57 rfl rfl rfl
theorem dX9_cutWord_68 : decode cX9_cutWord 68 = .ok (.aload_n 0, 1) := o42 ac_cX9_cutWord_64 4 rfl
theorem dX9_cutWord_69 : decode cX9_cutWord 69 = .ok (.getfield 21, 3) := o180 ac_cX9_cutWord_64 5 0 21 rfl
theorem dX9_cutWord_72 : decode cX9_cutWord 72 = .ok (.iload_n 1, 1) := o27 ac_cX9_cutWord_64 8 rfl
theorem dX9_cutWord_73 : decode cX9_cutWord 73 = .ok (.lload_n 3, 1) := o33 ac_cX9_cutWord_64 9 rfl
theorem dX9_cutWord_74 : decode cX9_cutWord 74 = .ok (.lastore, 1) := o80 ac_cX9_cutWord_64 10 rfl
theorem dX9_cutWord_75 : decode cX9_cutWord 75 = .ok (.aload_n 0, 1) := o42 ac_cX9_cutWord_64 11 rfl
theorem dX9_cutWord_76 : decode cX9_cutWord 76 = .ok (.iload_n 2, 1) := o28 ac_cX9_cutWord_64 12 rfl
theorem dX9_cutWord_77 : decode cX9_cutWord 77 = .ok (.aload_n 0, 1) := o42 ac_cX9_cutWord_64 13 rfl
theorem dX9_cutWord_78 : decode cX9_cutWord 78 = .ok (.getfield 29, 3) := o180 ac_cX9_cutWord_64 14 0 29 rfl
def kb_cX9_cutWord_80 : List Nat := [29, 28, 100, 182, 0, 61, 54, 5, 21, 5, 2, 159, 0, 6, 21, 5, 172, 42, 180, 0]
theorem ac_cX9_cutWord_80 : AL cX9_cutWord 80 kb_cX9_cutWord_80 := AL.of (m := 20) (by decide +kernel)
theorem dX9_cutWord_81 : decode cX9_cutWord 81 = .ok (.iload_n 2, 1) := o28 ac_cX9_cutWord_80 1 rfl
theorem dX9_cutWord_82 : decode cX9_cutWord 82 = .ok (.isub, 1) := o100 ac_cX9_cutWord_80 2 rfl
theorem dX9_cutWord_83 : decode cX9_cutWord 83 = .ok (.invokevirtual 61, 3) := o182 ac_cX9_cutWord_80 3 0 61 rfl
theorem dX9_cutWord_86 : decode cX9_cutWord 86 = .ok (.istore 5, 2) := o54 ac_cX9_cutWord_80 6 5 rfl
theorem dX9_cutWord_88 : decode cX9_cutWord 88 = .ok (.iload 5, 2) := o21 ac_cX9_cutWord_80 8 5 rfl
theorem dX9_cutWord_90 : decode cX9_cutWord 90 = .ok (.iconst (-1), 1) := o2 ac_cX9_cutWord_80 10 rfl
theorem dX9_cutWord_91 : decode cX9_cutWord 91 = .ok (.if_icmp .eq 6, 3) := o159p ac_cX9_cutWord_80 11 0 6 rfl rfl
theorem dX9_cutWord_94 : decode cX9_cutWord 94 = .ok (.iload 5, 2) := o21 ac_cX9_cutWord_80 14 5 rfl
def kb_cX9_cutWord_96 : List Nat := [172, 42, 180, 0, 29, 28, 100, 16, 8, 163, 0, 8, 16, 20, 167, 0, 5, 16, 23, 172]
theorem ac_cX9_cutWord_96 : AL cX9_cutWord 96 kb_cX9_cutWord_96 := AL.of (m := 20) (by decide +kernel)
theorem dX9_cutWord_96 : decode cX9_cutWord 96 = .ok (.ireturn, 1) := o172 ac_cX9_cutWord_96 0 rfl
theorem dX9_cutWord_97 : decode cX9_cutWord 97 = .ok (.aload_n 0, 1) := o42 ac_cX9_cutWord_96 1 rfl
theorem dX9_cutWord_98 : decode cX9_cutWord 98 = .ok (.getfield 29, 3) := o180 ac_cX9_cutWord_96 2 0 29 rfl
theorem dX9_cutWord_101 : decode cX9_cutWord 101 = .ok (.iload_n 2, 1) := o28 ac_cX9_cutWord_96 5 rfl
theorem dX9_cutWord_102 : decode cX9_cutWord 102 = .ok (.isub, 1) := o100 ac_cX9_cutWord_96 6 rfl
theorem dX9_cutWord_103 : decode cX9_cutWord 103 = .ok (.bipush 8, 2) := o16p ac_cX9_cutWord_96 7 8 rfl rfl
theorem dX9_cutWord_105 : decode cX9_cutWord 105 = .ok (.if_icmp .gt 8, 3) := o163p ac_cX9_cutWord_96 9 0 8 rfl rfl
theorem dX9_cutWord_108 : decode cX9_cutWord 108 = .ok (.bipush 20, 2) := o16p ac_cX9_cutWord_96 12 20 rfl rfl
theorem dX9_cutWord_110 : decode cX9_cutWord 110 = .ok (.goto 5, 3) := o167p ac_cX9_cutWord_96 14 0 5 rfl rfl
def kb_cX9_cutWord_112 : List Nat := [5, 16, 23, 172]
theorem ac_cX9_cutWord_112 : AL cX9_cutWord 112 kb_cX9_cutWord_112 := AL.of (m := 4) (by decide +kernel)
theorem dX9_cutWord_113 : decode cX9_cutWord 113 = .ok (.bipush 23, 2) := o16p ac_cX9_cutWord_112 1 23 rfl rfl
theorem dX9_cutWord_115 : decode cX9_cutWord 115 = .ok (.ireturn, 1) := o172 ac_cX9_cutWord_112 3 rfl
theorem dX9_cutOne_14 : decode cX9_cutOne 14 = .ok (.aload_n 0, 1) := o42 ac_cX9_cutOne_0 14 rfl
theorem dX9_cutOne_15 : decode cX9_cutOne 15 = .ok (.getfield 9, 3) := o180 ac_cX9_cutOne_0 15 0 9 rfl
def kb_cX9_cutOne_16 : List Nat := [0, 9, 42, 180, 0, 29, 46, 184, 0, 40, 153, 0, 9, 42, 27, 182, 0, 43, 172, 42]
theorem ac_cX9_cutOne_16 : AL cX9_cutOne 16 kb_cX9_cutOne_16 := AL.of (m := 20) (by decide +kernel)
theorem dX9_cutOne_18 : decode cX9_cutOne 18 = .ok (.aload_n 0, 1) := o42 ac_cX9_cutOne_16 2 rfl
theorem dX9_cutOne_19 : decode cX9_cutOne 19 = .ok (.getfield 29, 3) := o180 ac_cX9_cutOne_16 3 0 29 rfl
theorem dX9_cutOne_22 : decode cX9_cutOne 22 = .ok (.iaload, 1) := o46 ac_cX9_cutOne_16 6 rfl
theorem dX9_cutOne_23 : decode cX9_cutOne 23 = .ok (.invokestatic 40, 3) := o184 ac_cX9_cutOne_16 7 0 40 rfl
theorem dX9_cutOne_26 : decode cX9_cutOne 26 = .ok (.ifCond .eq 9, 3) := o153p ac_cX9_cutOne_16 10 0 9 rfl rfl
theorem dX9_cutOne_29 : decode cX9_cutOne 29 = .ok (.aload_n 0, 1) := o42 ac_cX9_cutOne_16 13 rfl
theorem dX9_cutOne_30 : decode cX9_cutOne 30 = .ok (.iload_n 1, 1) := o27 ac_cX9_cutOne_16 14 rfl
theorem dX9_cutOne_31 : decode cX9_cutOne 31 = .ok (.invokevirtual 43, 3) := o182 ac_cX9_cutOne_16 15 0 43 rfl
def kb_cX9_cutOne_32 : List Nat := [0, 43, 172, 42, 180, 0, 9, 42, 180, 0, 29, 46, 184, 0, 46, 153, 0, 9, 42, 27]
theorem ac_cX9_cutOne_32 : AL cX9_cutOne 32 kb_cX9_cutOne_32 := AL.of (m := 20) (by decide +kernel)
theorem dX9_cutOne_34 : decode cX9_cutOne 34 = .ok (.ireturn, 1) := o172 ac_cX9_cutOne_32 2 rfl
theorem dX9_cutOne_35 : decode cX9_cutOne 35 = .ok (.aload_n 0, 1) := o42 ac_cX9_cutOne_32 3 rfl
theorem dX9_cutOne_36 : decode cX9_cutOne 36 = .ok (.getfield 9, 3) := o180 ac_cX9_cutOne_32 4 0 9 rfl
theorem dX9_cutOne_39 : decode cX9_cutOne 39 = .ok (.aload_n 0, 1) := o42 ac_cX9_cutOne_32 7 rfl
theorem dX9_cutOne_40 : decode cX9_cutOne 40 = .ok (.getfield 29, 3) := o180 ac_cX9_cutOne_32 8 0 29 rfl
theorem dX9_cutOne_43 : decode cX9_cutOne 43 = .ok (.iaload, 1) := o46 ac_cX9_cutOne_32 11 rfl
theorem dX9_cutOne_44 : decode cX9_cutOne 44 = .ok (.invokestatic 46, 3) := o184 ac_cX9_cutOne_32 12 0 46 rfl
theorem dX9_cutOne_47 : decode cX9_cutOne 47 = .ok (.ifCond .eq 9, 3) := o153p ac_cX9_cutOne_32 15 0 9 rfl rfl
def kb_cX9_cutOne_48 : List Nat := [0, 9, 42, 27, 182, 0, 49, 172, 42, 180, 0, 9, 42, 180, 0, 29, 46, 61, 42, 89]
theorem ac_cX9_cutOne_48 : AL cX9_cutOne 48 kb_cX9_cutOne_48 := AL.of (m := 20) (by decide +kernel)
theorem dX9_cutOne_50 : decode cX9_cutOne 50 = .ok (.aload_n 0, 1) := o42 ac_cX9_cutOne_48 2 rfl
theorem dX9_cutOne_51 : decode cX9_cutOne 51 = .ok (.iload_n 1, 1) := o27 ac_cX9_cutOne_48 3 rfl
theorem dX9_cutOne_52 : decode cX9_cutOne 52 = .ok (.invokevirtual 49, 3) := o182 ac_cX9_cutOne_48 4 0 49 rfl
theorem dX9_cutOne_55 : decode cX9_cutOne 55 = .ok (.ireturn, 1) := o172 ac_cX9_cutOne_48 7 rfl
theorem dX9_cutOne_56 : decode cX9_cutOne 56 = .ok (.aload_n 0, 1) := o42 ac_cX9_cutOne_48 8 rfl
theorem dX9_cutOne_57 : decode cX9_cutOne 57 = .ok (.getfield 9, 3) := o180 ac_cX9_cutOne_48 9 0 9 rfl
theorem dX9_cutOne_60 : decode cX9_cutOne 60 = .ok (.aload_n 0, 1) := o42 ac_cX9_cutOne_48 12 rfl
theorem dX9_cutOne_61 : decode cX9_cutOne 61 = .ok (.getfield 29, 3) := o180 ac_cX9_cutOne_48 13 0 29 rfl
def kb_cX9_cutOne_64 : List Nat := [46, 61, 42, 89, 180, 0, 29, 4, 96, 181, 0, 29, 18, 52, 28, 146, 182, 0, 54, 155]
theorem ac_cX9_cutOne_64 : AL cX9_cutOne 64 kb_cX9_cutOne_64 := AL.of (m := 20) (by decide +kernel)
theorem dX9_cutOne_64 : decode cX9_cutOne 64 = .ok (.iaload, 1) := o46 ac_cX9_cutOne_64 0 rfl
theorem dX9_cutOne_65 : decode cX9_cutOne 65 = .ok (.istore_n 2, 1) := o61 ac_cX9_cutOne_64 1 rfl
theorem dX9_cutOne_66 : decode cX9_cutOne 66 = .ok (.aload_n 0, 1) := o42 ac_cX9_cutOne_64 2 rfl
theorem dX9_cutOne_67 : decode cX9_cutOne 67 = .ok (.dup, 1) := o89 ac_cX9_cutOne_64 3 rfl
theorem dX9_cutOne_68 : decode cX9_cutOne 68 = .ok (.getfield 29, 3) := o180 ac_cX9_cutOne_64 4 0 29 rfl
theorem dX9_cutOne_71 : decode cX9_cutOne 71 = .ok (.iconst 1, 1) := o4 ac_cX9_cutOne_64 7 rfl
theorem dX9_cutOne_72 : decode cX9_cutOne 72 = .ok (.iadd, 1) := o96 ac_cX9_cutOne_64 8 rfl
theorem dX9_cutOne_73 : decode cX9_cutOne 73 = .ok (.putfield 29, 3) := o181 ac_cX9_cutOne_64 9 0 29 rfl
theorem dX9_cutOne_76 : decode cX9_cutOne 76 = .ok (.ldc 52, 2) := o18 ac_cX9_cutOne_64 12 52 rfl
theorem dX9_cutOne_78 : decode cX9_cutOne 78 = .ok (.iload_n 2, 1) := o28 ac_cX9_cutOne_64 14 rfl
theorem dX9_cutOne_79 : decode cX9_cutOne 79 = .ok (.i2c, 1) := o146 ac_cX9_cutOne_64 15 rfl
def kb_cX9_cutOne_80 : List Nat := [182, 0, 54, 155, 0, 7, 28, 167, 0, 5, 16, 23, 172]
theorem ac_cX9_cutOne_80 : AL cX9_cutOne 80 kb_cX9_cutOne_80 := AL.of (m := 13) (by decide +kernel)
theorem dX9_cutOne_80 : decode cX9_cutOne 80 = .ok (.invokevirtual 54, 3) := o182 ac_cX9_cutOne_80 0 0 54 rfl
theorem dX9_cutOne_83 : decode cX9_cutOne 83 = .ok (.ifCond .lt 7, 3) := o155p ac_cX9_cutOne_80 3 0 7 rfl rfl
theorem dX9_cutOne_86 : decode cX9_cutOne 86 = .ok (.iload_n 2, 1) := o28 ac_cX9_cutOne_80 6 rfl
theorem dX9_cutOne_87 : decode cX9_cutOne 87 = .ok (.goto 5, 3) := o167p ac_cX9_cutOne_80 7 0 5 rfl rfl
theorem dX9_cutOne_90 : decode cX9_cutOne 90 = .ok (.bipush 23, 2) := o16p ac_cX9_cutOne_80 10 23 rfl rfl
theorem dX9_cutOne_92 : decode cX9_cutOne 92 = .ok (.ireturn, 1) := o172 ac_cX9_cutOne_80 12 rfl
theorem dX9_cut_39 : decode cX9_cut 39 = .ok (.aload_n 0, 1) := o42 ac_cX9_cut_32 7 rfl
theorem dX9_cut_40 : decode cX9_cut 40 = .ok (.getfield 9, 3) := o180 ac_cX9_cut_32 8 0 9 rfl
theorem dX9_cut_43 : decode cX9_cut 43 = .ok (.aload_n 0, 1) := o42 ac_cX9_cut_32 11 rfl
theorem dX9_cut_44 : decode cX9_cut 44 = .ok (.getfield 29, 3) := o180 ac_cX9_cut_32 12 0 29 rfl
theorem dX9_cut_47 : decode cX9_cut 47 = .ok (.iaload, 1) := o46 ac_cX9_cut_32 15 rfl
def kb_cX9_cut_48 : List Nat := [184, 0, 32, 153, 0, 16, 42, 89, 180, 0, 29, 4, 96, 181, 0, 29, 167, 255, 220, 42]
theorem ac_cX9_cut_48 : AL cX9_cut 48 kb_cX9_cut_48 := AL.of (m := 20) (by decide +kernel)
theorem dX9_cut_48 : decode cX9_cut 48 = .ok (.invokestatic 32, 3) := o184 ac_cX9_cut_48 0 0 32 rfl
theorem dX9_cut_51 : decode cX9_cut 51 = .ok (.ifCond .eq 16, 3) := o153p ac_cX9_cut_48 3 0 16 rfl rfl
theorem dX9_cut_54 : decode cX9_cut 54 = .ok (.aload_n 0, 1) := o42 ac_cX9_cut_48 6 rfl
theorem dX9_cut_55 : decode cX9_cut 55 = .ok (.dup, 1) := o89 ac_cX9_cut_48 7 rfl
theorem dX9_cut_56 : decode cX9_cut 56 = .ok (.getfield 29, 3) := o180 ac_cX9_cut_48 8 0 29 rfl
theorem dX9_cut_59 : decode cX9_cut 59 = .ok (.iconst 1, 1) := o4 ac_cX9_cut_48 11 rfl
theorem dX9_cut_60 : decode cX9_cut 60 = .ok (.iadd, 1) := o96 ac_cX9_cut_48 12 rfl
theorem dX9_cut_61 : decode cX9_cut 61 = .ok (.putfield 29, 3) := o181 ac_cX9_cut_48 13 0 29 rfl
theorem dX9_cut_64 : decode cX9_cut 64 = .ok (.goto (-36), 3) := o167n ac_cX9_cut_64 0 255 220 35 rfl rfl rfl
/-- what cutting one token changes: the tape's place, and the value at n -/
def TT (n : Nat) (σ σ' : HS) : Prop := ony [2, 6] σ σ' ∧ σ'.1 2 1 = σ.1 2 1 ∧ ∀ j, j ≠ n → σ'.2.1 6 j = σ.2.1 6 j
theorem TT.rf {n : Nat} {σ : HS} : TT n σ σ := ⟨ony.rf, rfl, fun _ _ => rfl⟩
theorem TT.tr {n : Nat} {σ σ1 σ2 : HS} (h : TT n σ σ1) (h2 : TT n σ1 σ2) : TT n σ σ2 := ⟨h.1.tr h2.1, h2.2.1.trans h.2.1, fun j hj => (h2.2.2 j hj).trans (h.2.2 j hj)⟩
theorem TT.at {n : Nat} {σ σ1 : HS} {v : Int32} (h : TT n σ σ1) : TT n σ (hI σ1 2 5 v) := ⟨h.1.I (by decide), (hI_n (by decide)).trans h.2.1, h.2.2⟩
theorem TT.val {n : Nat} {σ σ1 : HS} {v : Int64} (h : TT n σ σ1) : TT n σ (hL σ1 6 n v) := ⟨h.1.L (by decide), h.2.1, fun j hj => by
  have e : (hL σ1 6 n v).2.1 6 = vp_updL (σ1.2.1 6) n v := va_up_self σ1.2.1 6 _
  rw [e, pk_uLn hj]
  exact h.2.2 j hj⟩
def VB (e : Int) (w : Int64) : Prop := 0 ≤ e ∧ (e = 0 → w.toInt = 0) ∧ (e = 1 → 0 ≤ w.toInt ∧ w.toInt ≤ 9) ∧ (e = 2 → 0 ≤ w.toInt ∧ w.toInt ≤ 99) ∧ (e = 3 → 0 ≤ w.toInt ∧ w.toInt ≤ 999) ∧ (e = 4 → 0 ≤ w.toInt ∧ w.toInt ≤ 9999)
theorem i64_step {w : Int64} {z : Int32} (h : 0 ≤ w.toInt ∧ w.toInt ≤ 999) (hz : 0 ≤ z.toInt ∧ z.toInt ≤ 9) : (w * 10 + z.toInt64).toInt = w.toInt * 10 + z.toInt := by
  have e10 : (10 : Int64).toInt = 10 := by decide
  have e1 : (w * 10).toInt = w.toInt * 10 := by
    rw [Int64.toInt_mul, e10]
    rw [Int.bmod_eq_of_le] <;> omega
  rw [Int64.toInt_add, e1, Int32.toInt_toInt64]
  rw [Int.bmod_eq_of_le] <;> omega
theorem VB.step {e : Int} {w : Int64} {z : Int32} (h : VB e w) (hz : 0 ≤ z.toInt ∧ z.toInt ≤ 9) : VB (e + 1) (w * 10 + z.toInt64) := by
  obtain ⟨h0, h1, h2, h3, h4, h5⟩ := h
  refine ⟨by omega, fun q => by omega, fun q => ?_, fun q => ?_, fun q => ?_, fun q => ?_⟩
  · have a := h1 (by omega)
    rw [i64_step (by omega) hz]; omega
  · have a := h2 (by omega)
    rw [i64_step (by omega) hz]; omega
  · have a := h3 (by omega)
    rw [i64_step (by omega) hz]; omega
  · have a := h4 (by omega)
    rw [i64_step (by omega) hz]; omega
/-! read -/
theorem dX6_readInto_71 : decode cX6_readInto 71 = .ok (.iload_n 3, 1) := o29 ac_cX6_readInto_64 7 rfl
theorem dX6_readInto_72 : decode cX6_readInto 72 = .ok (.sipush 400, 3) := o17p ac_cX6_readInto_64 8 1 144 rfl rfl
theorem dX6_readInto_75 : decode cX6_readInto 75 = .ok (.if_icmp .gt 15, 3) := o163p ac_cX6_readInto_64 11 0 15 rfl rfl
theorem dX6_readInto_78 : decode cX6_readInto 78 = .ok (.aload_n 0, 1) := o42 ac_cX6_readInto_64 14 rfl
theorem dX6_readInto_79 : decode cX6_readInto 79 = .ok (.aload_n 1, 1) := o43 ac_cX6_readInto_64 15 rfl
theorem dX6_readInto_80 : decode cX6_readInto 80 = .ok (.invokevirtual 56, 3) := o182 ac_cX6_readInto_80 0 0 56 rfl
theorem dX6_readInto_83 : decode cX6_readInto 83 = .ok (.istore_n 2, 1) := o61 ac_cX6_readInto_80 3 rfl
theorem dX6_readInto_84 : decode cX6_readInto 84 = .ok (.iinc 3 1, 3) := o132p ac_cX6_readInto_80 4 3 1 rfl rfl
theorem dX6_readInto_87 : decode cX6_readInto 87 = .ok (.goto (-29), 3) := o167n ac_cX6_readInto_80 7 255 227 28 rfl rfl rfl
theorem dX6_readInto_104 : decode cX6_readInto 104 = .ok (.aload_n 0, 1) := o42 ac_cX6_readInto_96 8 rfl
theorem dX6_readInto_105 : decode cX6_readInto 105 = .ok (.aload_n 0, 1) := o42 ac_cX6_readInto_96 9 rfl
theorem dX6_readInto_106 : decode cX6_readInto 106 = .ok (.getfield 37, 3) := o180 ac_cX6_readInto_96 10 0 37 rfl
theorem dX6_readInto_109 : decode cX6_readInto 109 = .ok (.putfield 34, 3) := o181 ac_cX6_readInto_96 13 0 34 rfl
theorem dX6_readInto_112 : decode cX6_readInto 112 = .ok (.aload_n 0, 1) := o42 ac_cX6_readInto_112 0 rfl
theorem dX6_readInto_113 : decode cX6_readInto 113 = .ok (.aload_n 0, 1) := o42 ac_cX6_readInto_112 1 rfl
theorem dX6_readInto_114 : decode cX6_readInto 114 = .ok (.getfield 40, 3) := o180 ac_cX6_readInto_112 2 0 40 rfl
theorem dX6_readInto_117 : decode cX6_readInto 117 = .ok (.putfield 18, 3) := o181 ac_cX6_readInto_112 5 0 18 rfl
/-! the reference's invariant: bounds of fields and of arrays' elements -/
def bdFm : List (Nat × Nat × Int × Int) := [(236, 2, 0, 2000), (236, 4, 0, 2000), (236, 10, 0, 402), (236, 11, 0, 400), (236, 12, 0, 7), (236, 13, 0, 2), (236, 18, 0, 1), (236, 19, 0, 1), (236, 20, 0, 12), (236, 43, 0, 40), (236, 51, -2, 6), (236, 54, 0, 40), (236, 57, 0, 16), (236, 60, 0, 20)]
def bdAm : List (Nat × Int × Int) := [(239, 0, 39), (241, 0, 9999), (245, 0, 7), (249, 0, 5), (250, 0, 8), (251, 0, 9999), (269, 0, 9999), (272, 0, 40), (274, -2, 6)]
def GIm (σ : HS) : Prop := (∀ q ∈ bdFm, q.2.2.1 ≤ (σ.1 q.1 q.2.1).toInt ∧ (σ.1 q.1 q.2.1).toInt ≤ q.2.2.2) ∧ (∀ q ∈ bdAm, ∀ j : Nat, q.2.1 ≤ (σ.1 q.1 j).toInt ∧ (σ.1 q.1 j).toInt ≤ q.2.2)
theorem GIm.I {σ : HS} {i k : Nat} {v : Int32} (h : GIm σ) (hF : ∀ q ∈ bdFm, q.1 = i → q.2.1 = k → q.2.2.1 ≤ v.toInt ∧ v.toInt ≤ q.2.2.2) (hA : ∀ q ∈ bdAm, q.1 = i → q.2.1 ≤ v.toInt ∧ v.toInt ≤ q.2.2) : GIm (hI σ i k v) := by
  refine ⟨fun q hq => ?_, fun q hq j => ?_⟩
  · rcases hI_at (σ := σ) (i := i) (k := k) (v := v) q.1 q.2.1 with ⟨e1, e2, e3⟩ | e3
    · rw [e3]; exact hF q hq e1 e2
    · rw [e3]; exact h.1 q hq
  · rcases hI_at (σ := σ) (i := i) (k := k) (v := v) q.1 j with ⟨e1, e2, e3⟩ | e3
    · rw [e3]; exact hA q hq e1
    · rw [e3]; exact h.2 q hq j
theorem GIm.L {σ : HS} {i k : Nat} {v : Int64} (h : GIm σ) (_ : i ≠ 6) : GIm (hL σ i k v) := h
/-- may place k of cell i have been written -/
def wr (L : List Nat) (i k : Nat) : Bool := if i = 236 then L.contains (1000 + k) else if i = 267 then (if k = 21 ∨ k = 26 ∨ k = 27 then L.contains (2000 + k) else L.contains 267) else L.contains i
def onm (L : List Nat) (σ σ1 : HS) : Prop := (∀ i k, wr L i k = false → σ1.1 i k = σ.1 i k) ∧ (∀ i, L.contains i = false → σ1.2.1 i = σ.2.1 i) ∧ σ1.2.2 = σ.2.2
theorem wr_c {L L1 : List Nat} (hL : ∀ q, q ∈ L → q ∈ L1) (n : Nat) (hn : L1.contains n = false) : L.contains n = false := by
  by_cases e : L.contains n = true
  · have h1 := hL n (by simpa using e)
    have h2 : L1.contains n = true := by simpa using h1
    rw [h2] at hn
    exact absurd hn (by decide)
  · simpa using e
theorem wr_mono {L L1 : List Nat} (hL : ∀ q, q ∈ L → q ∈ L1) {i k : Nat} (h : wr L1 i k = false) : wr L i k = false := by
  unfold wr at h ⊢
  by_cases h1 : i = 236
  · rw [if_pos h1] at h ⊢
    exact wr_c hL _ h
  · rw [if_neg h1] at h ⊢
    by_cases h2 : i = 267
    · rw [if_pos h2] at h ⊢
      by_cases h3 : k = 21 ∨ k = 26 ∨ k = 27
      · rw [if_pos h3] at h ⊢
        exact wr_c hL _ h
      · rw [if_neg h3] at h ⊢
        exact wr_c hL _ h
    · rw [if_neg h2] at h ⊢
      exact wr_c hL _ h
theorem onm.rf {L : List Nat} {σ : HS} : onm L σ σ := ⟨fun _ _ _ => rfl, fun _ _ => rfl, rfl⟩
theorem onm.tr {L : List Nat} {σ σ1 σ2 : HS} (h : onm L σ σ1) (h2 : onm L σ1 σ2) : onm L σ σ2 := ⟨fun i k hw => (h2.1 i k hw).trans (h.1 i k hw), fun i hi => (h2.2.1 i hi).trans (h.2.1 i hi), h2.2.2.trans h.2.2⟩
theorem onm.mono {L L1 : List Nat} {σ σ1 : HS} (h : onm L σ σ1) (hL : ∀ q, q ∈ L → q ∈ L1) : onm L1 σ σ1 := ⟨fun i k hw => h.1 i k (wr_mono hL hw), fun i hi => h.2.1 i (wr_c hL i hi), h.2.2⟩
theorem onm.W {L : List Nat} {σ σ1 : HS} {i k : Nat} {v : Int32} (h : onm L σ σ1) (hw : wr L i k = true) : onm L σ (hI σ1 i k v) := by
  refine ⟨fun a j hn => ?_, h.2.1, h.2.2⟩
  rcases hI_at (σ := σ1) (i := i) (k := k) (v := v) a j with ⟨e1, e2, _⟩ | e3
  · subst e1
    subst e2
    rw [hw] at hn
    exact absurd hn (by decide)
  · exact e3.trans (h.1 a j hn)
theorem onm.F {L : List Nat} {σ σ1 : HS} {k : Nat} {v : Int32} (h : onm L σ σ1) (hi : L.contains (1000 + k) = true) : onm L σ (hI σ1 236 k v) := h.W (by unfold wr; rw [if_pos rfl]; exact hi)
def aok (L : List Nat) (i : Nat) : Bool := L.contains i && (i != 236) && (i != 267)
theorem aok_w {L : List Nat} {i k : Nat} (h : aok L i = true) : wr L i k = true := by
  unfold aok at h
  simp only [Bool.and_eq_true, bne_iff_ne, ne_eq] at h
  unfold wr
  rw [if_neg h.1.2, if_neg h.2]
  exact h.1.1
theorem onm.I {L : List Nat} {σ σ1 : HS} {i k : Nat} {v : Int32} (h : onm L σ σ1) (hi : aok L i = true) : onm L σ (hI σ1 i k v) := h.W (aok_w hi)
theorem onm.L {L : List Nat} {σ σ1 : HS} {i k : Nat} {v : Int64} (h : onm L σ σ1) (hi : L.contains i = true) : onm L σ (hL σ1 i k v) := by
  refine ⟨h.1, fun a ha => ?_, h.2.2⟩
  have e : a ≠ i := fun e => by rw [e, hi] at ha; exact absurd ha (by decide)
  exact (va_up_ne σ1.2.1 _ e).trans (h.2.1 a ha)
theorem onm.a {L : List Nat} {σ σ1 : HS} (h : onm L σ σ1) {i : Nat} (hi : (!(L.contains i) && (i != 236) && (i != 267)) = true) : σ1.1 i = σ.1 i := by
  simp only [Bool.and_eq_true, bne_iff_ne, ne_eq, Bool.not_eq_true'] at hi
  exact funext fun k => h.1 i k (by unfold wr; rw [if_neg hi.1.2, if_neg hi.2]; exact hi.1.1)
/-- how many patterns the text in force has -/
def plm (σ : HS) : Int := (σ.1 249 (σ.1 236 18).toInt.toNat).toInt
def rw3 (B P : Int) (a21 a26 a27 : Int32) : Prop := a26.toInt < P ∧ 0 ≤ a27.toInt ∧ a27.toInt ≤ a21.toInt ∧ a21.toInt ≤ B
/-- how many numbers lie on the pile -/
def dep (cd : Nat → Int32) (u : Nat) : Nat → Int
  | 0 => 0
  | n + 1 => dep cd u n + (if (cd (u + n)).toInt < 2 then 1 else -1)
def SGm (cd ci : Nat → Int32) (u v : Int32) : Prop := (0 ≤ u.toInt ∧ u.toInt ≤ 840) ∧ v.toInt ≤ 840 ∧ v.toInt - u.toInt ≤ 400 ∧ ∀ c : Nat, u.toInt ≤ c → (c : Int) < v.toInt → 0 ≤ (cd c).toInt ∧ (cd c).toInt ≤ 5 ∧ ((cd c).toInt = 1 → 0 ≤ (ci c).toInt ∧ (ci c).toInt ≤ 8) ∧ (2 ≤ (cd c).toInt → 2 ≤ dep cd u.toInt.toNat (c - u.toInt.toNat))
def BRq (ht tf tm tt te cd ci : Nat → Int32) (q : Nat) : Prop := ((ht q).toInt ≠ 0 → SGm cd ci (tf q) (tm q) ∧ SGm cd ci (tm q) (tt q)) ∧ SGm cd ci (tt q) (te q)
def RGq (n : Nat) (h a m t e : Int32) (q : Nat) : Prop := 130 * n ≤ q ∧ q < 130 * n + 130 ∧ (h.toInt ≠ 0 → 420 * (n : Int) ≤ a.toInt ∧ m.toInt ≤ 420 * (n : Int) + 420 ∧ 420 * (n : Int) ≤ m.toInt ∧ t.toInt ≤ 420 * (n : Int) + 420) ∧ 420 * (n : Int) ≤ t.toInt ∧ e.toInt ≤ 420 * (n : Int) + 420
def LWq (n : Nat) (lf ll ht tf tm tt te cd ci : Nat → Int32) : Prop := ∀ k, k < 4 → (0 ≤ (lf (4 * n + k)).toInt ∧ (lf (4 * n + k)).toInt ≤ 260) ∧ (ll (4 * n + k)).toInt ≤ 260 ∧ ∀ q : Nat, (lf (4 * n + k)).toInt ≤ q → (q : Int) < (ll (4 * n + k)).toInt → BRq ht tf tm tt te cd ci q ∧ RGq n (ht q) (tf q) (tm q) (tt q) (te q) q
def RKq (b : Int) (lv un : Int32) (pt lg nw hs ih hr : Nat → Int32) (r21 r26 r27 : Int32) : Prop := b ≤ 40000 ∧ rw3 (b + 300) (pt lv.toInt.toNat).toInt r21 r26 r27 ∧ rw3 b (pt lv.toInt.toNat).toInt (nw 21) (nw 26) (nw 27) ∧ (∀ u : Nat, (u : Int) < un.toInt → rw3 b (pt lv.toInt.toNat).toInt (hs (29 * u + 21)) (hs (29 * u + 26)) (hs (29 * u + 27))) ∧ (∀ s, s < 3 → (ih s).toInt ≠ 0 → rw3 b (pt lv.toInt.toNat).toInt (hr (29 * s + 21)) (hr (29 * s + 26)) (hr (29 * s + 27))) ∧ (∀ p : Nat, (p : Int) < (pt lv.toInt.toNat).toInt → 1 ≤ (lg (5 * lv.toInt.toNat + p)).toInt)
/-- rows, rows kept, patterns and laws of the text in force -/
def RKm (b : Int) (σ : HS) : Prop := RKq b (σ.1 236 18) (σ.1 236 54) (σ.1 249) (σ.1 250) (σ.1 266) (σ.1 268) (σ.1 275) (σ.1 276) (σ.1 267 21) (σ.1 267 26) (σ.1 267 27) ∧ LWq (σ.1 236 18).toInt.toNat (σ.1 254) (σ.1 255) (σ.1 256) (σ.1 257) (σ.1 258) (σ.1 259) (σ.1 260) (σ.1 261) (σ.1 262)
theorem RKm.mono {b c : Int} {σ : HS} (h : RKm b σ) (hc : b ≤ c) (h4 : c ≤ 40000) : RKm c σ := by
  obtain ⟨⟨h1, h2, h3, h5, h6, h7⟩, h8⟩ := h
  have m : ∀ {B B1 P : Int} {x y z : Int32}, B ≤ B1 → rw3 B P x y z → rw3 B1 P x y z := fun hB q => ⟨q.1, q.2.1, q.2.2.1, by have := q.2.2.2; omega⟩
  exact ⟨⟨h4, m (by omega) h2, m hc h3, fun u hu => m hc (h5 u hu), fun s hs e => m hc (h6 s hs e), h7⟩, h8⟩
theorem RKm.nw {b : Int} {σ : HS} (h : RKm b σ) : rw3 b (plm σ) (σ.1 266 21) (σ.1 266 26) (σ.1 266 27) := h.1.2.2.1
theorem RKm.rw {b : Int} {σ : HS} (h : RKm b σ) : rw3 (b + 300) (plm σ) (σ.1 267 21) (σ.1 267 26) (σ.1 267 27) := h.1.2.1
theorem rw3.mono {B B1 P : Int} {x y z : Int32} (q : rw3 B P x y z) (hB : B ≤ B1) : rw3 B1 P x y z := ⟨q.1, q.2.1, q.2.2.1, by have := q.2.2.2; omega⟩
theorem rw3.eq {B P : Int} {x y z x1 y1 z1 : Int32} (q : rw3 B P x y z) (hx : x1 = x) (hy : y1 = y) (hz : z1 = z) : rw3 B P x1 y1 z1 := by subst hx; subst hy; subst hz; exact q
def HB (b P : Int) (f : Nat → Int32) (n : Int) : Prop := ∀ u : Nat, (u : Int) < n → rw3 b P (f (29 * u + 21)) (f (29 * u + 26)) (f (29 * u + 27))
theorem HB.add {b P : Int} {f g : Nat → Int32} {n k : Int} {a : Nat} (h : HB b P f n) (ha : (a : Int) = 29 * n) (hk : 29 ≤ k) (e : ∀ q : Nat, (q : Int) < k → f (a + q) = g q) (hg : rw3 b P (g 21) (g 26) (g 27)) : HB b P f (n + 1) := by
  intro u hu
  by_cases e1 : (u : Int) < n
  · exact h u e1
  · rw [show 29 * u = a by omega]
    exact hg.eq (e 21 (by omega)) (e 26 (by omega)) (e 27 (by omega))
def byt (σ : HS) (x : Int32) : Int32 := if x.toInt < (σ.1 236 4).toInt then (σ.1 238 x.toInt.toNat) &&& 255 else 0
theorem dX12_byteAt_8 : decode cX12_byteAt 8 = .ok (.aload_n 0, 1) := o42 ac_cX12_byteAt_0 8 rfl
theorem dX12_byteAt_9 : decode cX12_byteAt 9 = .ok (.getfield 17, 3) := o180 ac_cX12_byteAt_0 9 0 17 rfl
theorem dX12_byteAt_12 : decode cX12_byteAt 12 = .ok (.iload_n 1, 1) := o27 ac_cX12_byteAt_0 12 rfl
theorem dX12_byteAt_13 : decode cX12_byteAt 13 = .ok (.baload, 1) := o51 ac_cX12_byteAt_0 13 rfl
theorem dX12_byteAt_14 : decode cX12_byteAt 14 = .ok (.sipush 255, 3) := o17p ac_cX12_byteAt_0 14 0 255 rfl rfl
theorem dX12_byteAt_17 : decode cX12_byteAt 17 = .ok (.iand, 1) := o126 ac_cX12_byteAt_16 1 rfl
theorem dX12_byteAt_18 : decode cX12_byteAt 18 = .ok (.goto 4, 3) := o167p ac_cX12_byteAt_16 2 0 4 rfl rfl
def kb_cX12_told_0 : List Nat := [27, 4, 160, 0, 7, 26, 167, 0, 12, 26, 156, 0, 7, 3, 167, 0, 4, 4, 172]
theorem ac_cX12_told_0 : AL cX12_told 0 kb_cX12_told_0 := AL.of (m := 19) (by decide +kernel)
theorem dX12_told_0 : decode cX12_told 0 = .ok (.iload_n 1, 1) := o27 ac_cX12_told_0 0 rfl
theorem dX12_told_1 : decode cX12_told 1 = .ok (.iconst 1, 1) := o4 ac_cX12_told_0 1 rfl
theorem dX12_told_2 : decode cX12_told 2 = .ok (.if_icmp .ne 7, 3) := o160p ac_cX12_told_0 2 0 7 rfl rfl
theorem dX12_told_5 : decode cX12_told 5 = .ok (.iload_n 0, 1) := o26 ac_cX12_told_0 5 rfl
theorem dX12_told_6 : decode cX12_told 6 = .ok (.goto 12, 3) := o167p ac_cX12_told_0 6 0 12 rfl rfl
theorem dX12_told_9 : decode cX12_told 9 = .ok (.iload_n 0, 1) := o26 ac_cX12_told_0 9 rfl
theorem dX12_told_10 : decode cX12_told 10 = .ok (.ifCond .ge 7, 3) := o156p ac_cX12_told_0 10 0 7 rfl rfl
theorem dX12_told_13 : decode cX12_told 13 = .ok (.iconst 0, 1) := o3 ac_cX12_told_0 13 rfl
theorem dX12_told_14 : decode cX12_told 14 = .ok (.goto 4, 3) := o167p ac_cX12_told_0 14 0 4 rfl rfl
def kb_cX12_told_16 : List Nat := [4, 4, 172]
theorem ac_cX12_told_16 : AL cX12_told 16 kb_cX12_told_16 := AL.of (m := 3) (by decide +kernel)
theorem dX12_told_17 : decode cX12_told 17 = .ok (.iconst 1, 1) := o4 ac_cX12_told_16 1 rfl
theorem dX12_told_18 : decode cX12_told 18 = .ok (.ireturn, 1) := o172 ac_cX12_told_16 2 rfl
def kb_cX12_mixed_0 : List Nat := [26, 27, 130, 19, 1, 58, 104, 17, 48, 57, 96, 61, 28, 28, 16, 15, 124, 130, 172]
theorem ac_cX12_mixed_0 : AL cX12_mixed 0 kb_cX12_mixed_0 := AL.of (m := 19) (by decide +kernel)
theorem dX12_mixed_0 : decode cX12_mixed 0 = .ok (.iload_n 0, 1) := o26 ac_cX12_mixed_0 0 rfl
theorem dX12_mixed_1 : decode cX12_mixed 1 = .ok (.iload_n 1, 1) := o27 ac_cX12_mixed_0 1 rfl
theorem dX12_mixed_2 : decode cX12_mixed 2 = .ok (.ixor, 1) := o130 ac_cX12_mixed_0 2 rfl
theorem dX12_mixed_3 : decode cX12_mixed 3 = .ok (.ldc_w 314, 3) := o19 ac_cX12_mixed_0 3 1 58 rfl
theorem dX12_mixed_6 : decode cX12_mixed 6 = .ok (.imul, 1) := o104 ac_cX12_mixed_0 6 rfl
theorem dX12_mixed_7 : decode cX12_mixed 7 = .ok (.sipush 12345, 3) := o17p ac_cX12_mixed_0 7 48 57 rfl rfl
theorem dX12_mixed_10 : decode cX12_mixed 10 = .ok (.iadd, 1) := o96 ac_cX12_mixed_0 10 rfl
theorem dX12_mixed_11 : decode cX12_mixed 11 = .ok (.istore_n 2, 1) := o61 ac_cX12_mixed_0 11 rfl
theorem dX12_mixed_12 : decode cX12_mixed 12 = .ok (.iload_n 2, 1) := o28 ac_cX12_mixed_0 12 rfl
theorem dX12_mixed_13 : decode cX12_mixed 13 = .ok (.iload_n 2, 1) := o28 ac_cX12_mixed_0 13 rfl
theorem dX12_mixed_14 : decode cX12_mixed 14 = .ok (.bipush 15, 2) := o16p ac_cX12_mixed_0 14 15 rfl rfl
def kb_cX12_mixed_16 : List Nat := [124, 130, 172]
theorem ac_cX12_mixed_16 : AL cX12_mixed 16 kb_cX12_mixed_16 := AL.of (m := 3) (by decide +kernel)
theorem dX12_mixed_16 : decode cX12_mixed 16 = .ok (.iushr, 1) := o124 ac_cX12_mixed_16 0 rfl
theorem dX12_mixed_17 : decode cX12_mixed 17 = .ok (.ixor, 1) := o130 ac_cX12_mixed_16 1 rfl
theorem dX12_mixed_18 : decode cX12_mixed 18 = .ok (.ireturn, 1) := o172 ac_cX12_mixed_16 2 rfl
theorem dX12_held_9 : decode cX12_held 9 = .ok (.iload_n 0, 1) := o26 ac_cX12_held_0 9 rfl
theorem dX12_held_10 : decode cX12_held 10 = .ok (.iload_n 2, 1) := o28 ac_cX12_held_0 10 rfl
theorem dX12_held_11 : decode cX12_held 11 = .ok (.if_icmp .le 7, 3) := o164p ac_cX12_held_0 11 0 7 rfl rfl
theorem dX12_held_14 : decode cX12_held 14 = .ok (.iload_n 2, 1) := o28 ac_cX12_held_0 14 rfl
theorem dX12_held_15 : decode cX12_held 15 = .ok (.goto 4, 3) := o167p ac_cX12_held_0 15 0 4 rfl rfl
theorem dX12_held_18 : decode cX12_held 18 = .ok (.iload_n 0, 1) := o26 ac_cX12_held_16 2 rfl
def kb_cX12_thingsSo_16 : List Nat := [25, 42, 180, 0, 110, 29, 46, 27, 160, 0, 9, 28, 4, 29, 120, 128, 61, 132, 3, 1]
theorem ac_cX12_thingsSo_16 : AL cX12_thingsSo 16 kb_cX12_thingsSo_16 := AL.of (m := 20) (by decide +kernel)
theorem dX12_thingsSo_17 : decode cX12_thingsSo 17 = .ok (.aload_n 0, 1) := o42 ac_cX12_thingsSo_16 1 rfl
theorem dX12_thingsSo_18 : decode cX12_thingsSo 18 = .ok (.getfield 110, 3) := o180 ac_cX12_thingsSo_16 2 0 110 rfl
theorem dX12_thingsSo_21 : decode cX12_thingsSo 21 = .ok (.iload_n 3, 1) := o29 ac_cX12_thingsSo_16 5 rfl
theorem dX12_thingsSo_22 : decode cX12_thingsSo 22 = .ok (.iaload, 1) := o46 ac_cX12_thingsSo_16 6 rfl
theorem dX12_thingsSo_23 : decode cX12_thingsSo 23 = .ok (.iload_n 1, 1) := o27 ac_cX12_thingsSo_16 7 rfl
theorem dX12_thingsSo_24 : decode cX12_thingsSo 24 = .ok (.if_icmp .ne 9, 3) := o160p ac_cX12_thingsSo_16 8 0 9 rfl rfl
theorem dX12_thingsSo_27 : decode cX12_thingsSo 27 = .ok (.iload_n 2, 1) := o28 ac_cX12_thingsSo_16 11 rfl
theorem dX12_thingsSo_28 : decode cX12_thingsSo 28 = .ok (.iconst 1, 1) := o4 ac_cX12_thingsSo_16 12 rfl
theorem dX12_thingsSo_29 : decode cX12_thingsSo 29 = .ok (.iload_n 3, 1) := o29 ac_cX12_thingsSo_16 13 rfl
theorem dX12_thingsSo_30 : decode cX12_thingsSo 30 = .ok (.ishl, 1) := o120 ac_cX12_thingsSo_16 14 rfl
theorem dX12_thingsSo_31 : decode cX12_thingsSo 31 = .ok (.ior, 1) := o128 ac_cX12_thingsSo_16 15 rfl
theorem dX12_thingsSo_32 : decode cX12_thingsSo 32 = .ok (.istore_n 2, 1) := o61 ac_cX12_thingsSo_32 0 rfl
theorem dX12_thingsSo_33 : decode cX12_thingsSo 33 = .ok (.iinc 3 1, 3) := o132p ac_cX12_thingsSo_32 1 3 1 rfl rfl
theorem dX12_thingsSo_36 : decode cX12_thingsSo 36 = .ok (.goto (-32), 3) := o167n ac_cX12_thingsSo_32 4 255 224 31 rfl rfl rfl
def kb_cX12_weightsOf_16 : List Nat := [35, 27, 29, 122, 4, 126, 4, 160, 0, 20, 28, 42, 180, 0, 46, 16, 7, 42, 180, 0]
theorem ac_cX12_weightsOf_16 : AL cX12_weightsOf 16 kb_cX12_weightsOf_16 := AL.of (m := 20) (by decide +kernel)
theorem dX12_weightsOf_17 : decode cX12_weightsOf 17 = .ok (.iload_n 1, 1) := o27 ac_cX12_weightsOf_16 1 rfl
theorem dX12_weightsOf_18 : decode cX12_weightsOf 18 = .ok (.iload_n 3, 1) := o29 ac_cX12_weightsOf_16 2 rfl
theorem dX12_weightsOf_19 : decode cX12_weightsOf 19 = .ok (.ishr, 1) := o122 ac_cX12_weightsOf_16 3 rfl
theorem dX12_weightsOf_20 : decode cX12_weightsOf 20 = .ok (.iconst 1, 1) := o4 ac_cX12_weightsOf_16 4 rfl
theorem dX12_weightsOf_21 : decode cX12_weightsOf 21 = .ok (.iand, 1) := o126 ac_cX12_weightsOf_16 5 rfl
theorem dX12_weightsOf_22 : decode cX12_weightsOf 22 = .ok (.iconst 1, 1) := o4 ac_cX12_weightsOf_16 6 rfl
theorem dX12_weightsOf_23 : decode cX12_weightsOf 23 = .ok (.if_icmp .ne 20, 3) := o160p ac_cX12_weightsOf_16 7 0 20 rfl rfl
theorem dX12_weightsOf_26 : decode cX12_weightsOf 26 = .ok (.iload_n 2, 1) := o28 ac_cX12_weightsOf_16 10 rfl
theorem dX12_weightsOf_27 : decode cX12_weightsOf 27 = .ok (.aload_n 0, 1) := o42 ac_cX12_weightsOf_16 11 rfl
theorem dX12_weightsOf_28 : decode cX12_weightsOf 28 = .ok (.getfield 46, 3) := o180 ac_cX12_weightsOf_16 12 0 46 rfl
theorem dX12_weightsOf_31 : decode cX12_weightsOf 31 = .ok (.bipush 7, 2) := o16p ac_cX12_weightsOf_16 15 7 rfl rfl
def kb_cX12_weightsOf_32 : List Nat := [7, 42, 180, 0, 221, 104, 29, 96, 46, 96, 61, 132, 3, 1, 167, 255, 214, 28, 172]
theorem ac_cX12_weightsOf_32 : AL cX12_weightsOf 32 kb_cX12_weightsOf_32 := AL.of (m := 19) (by decide +kernel)
theorem dX12_weightsOf_33 : decode cX12_weightsOf 33 = .ok (.aload_n 0, 1) := o42 ac_cX12_weightsOf_32 1 rfl
theorem dX12_weightsOf_34 : decode cX12_weightsOf 34 = .ok (.getfield 221, 3) := o180 ac_cX12_weightsOf_32 2 0 221 rfl
theorem dX12_weightsOf_37 : decode cX12_weightsOf 37 = .ok (.imul, 1) := o104 ac_cX12_weightsOf_32 5 rfl
theorem dX12_weightsOf_38 : decode cX12_weightsOf 38 = .ok (.iload_n 3, 1) := o29 ac_cX12_weightsOf_32 6 rfl
theorem dX12_weightsOf_39 : decode cX12_weightsOf 39 = .ok (.iadd, 1) := o96 ac_cX12_weightsOf_32 7 rfl
theorem dX12_weightsOf_40 : decode cX12_weightsOf 40 = .ok (.iaload, 1) := o46 ac_cX12_weightsOf_32 8 rfl
theorem dX12_weightsOf_41 : decode cX12_weightsOf 41 = .ok (.iadd, 1) := o96 ac_cX12_weightsOf_32 9 rfl
theorem dX12_weightsOf_42 : decode cX12_weightsOf 42 = .ok (.istore_n 2, 1) := o61 ac_cX12_weightsOf_32 10 rfl
theorem dX12_weightsOf_43 : decode cX12_weightsOf 43 = .ok (.iinc 3 1, 3) := o132p ac_cX12_weightsOf_32 11 3 1 rfl rfl
theorem dX12_weightsOf_46 : decode cX12_weightsOf 46 = .ok (.goto (-42), 3) := o167n ac_cX12_weightsOf_32 14 255 214 41 rfl rfl rfl
def kb_cX12_doesLand_0 : List Nat := [42, 180, 0, 110, 27, 46, 154, 0, 20, 42, 180, 0, 110, 16, 7, 27, 96, 46, 28, 160]
theorem ac_cX12_doesLand_0 : AL cX12_doesLand 0 kb_cX12_doesLand_0 := AL.of (m := 20) (by decide +kernel)
theorem dX12_doesLand_0 : decode cX12_doesLand 0 = .ok (.aload_n 0, 1) := o42 ac_cX12_doesLand_0 0 rfl
theorem dX12_doesLand_1 : decode cX12_doesLand 1 = .ok (.getfield 110, 3) := o180 ac_cX12_doesLand_0 1 0 110 rfl
theorem dX12_doesLand_4 : decode cX12_doesLand 4 = .ok (.iload_n 1, 1) := o27 ac_cX12_doesLand_0 4 rfl
theorem dX12_doesLand_5 : decode cX12_doesLand 5 = .ok (.iaload, 1) := o46 ac_cX12_doesLand_0 5 rfl
theorem dX12_doesLand_6 : decode cX12_doesLand 6 = .ok (.ifCond .ne 20, 3) := o154p ac_cX12_doesLand_0 6 0 20 rfl rfl
theorem dX12_doesLand_9 : decode cX12_doesLand 9 = .ok (.aload_n 0, 1) := o42 ac_cX12_doesLand_0 9 rfl
theorem dX12_doesLand_10 : decode cX12_doesLand 10 = .ok (.getfield 110, 3) := o180 ac_cX12_doesLand_0 10 0 110 rfl
theorem dX12_doesLand_13 : decode cX12_doesLand 13 = .ok (.bipush 7, 2) := o16p ac_cX12_doesLand_0 13 7 rfl rfl
theorem dX12_doesLand_15 : decode cX12_doesLand 15 = .ok (.iload_n 1, 1) := o27 ac_cX12_doesLand_0 15 rfl
def kb_cX12_doesLand_16 : List Nat := [96, 46, 28, 160, 0, 7, 4, 167, 0, 4, 3, 172]
theorem ac_cX12_doesLand_16 : AL cX12_doesLand 16 kb_cX12_doesLand_16 := AL.of (m := 12) (by decide +kernel)
theorem dX12_doesLand_16 : decode cX12_doesLand 16 = .ok (.iadd, 1) := o96 ac_cX12_doesLand_16 0 rfl
theorem dX12_doesLand_17 : decode cX12_doesLand 17 = .ok (.iaload, 1) := o46 ac_cX12_doesLand_16 1 rfl
theorem dX12_doesLand_18 : decode cX12_doesLand 18 = .ok (.iload_n 2, 1) := o28 ac_cX12_doesLand_16 2 rfl
theorem dX12_doesLand_19 : decode cX12_doesLand 19 = .ok (.if_icmp .ne 7, 3) := o160p ac_cX12_doesLand_16 3 0 7 rfl rfl
theorem dX12_doesLand_22 : decode cX12_doesLand 22 = .ok (.iconst 1, 1) := o4 ac_cX12_doesLand_16 6 rfl
theorem dX12_doesLand_23 : decode cX12_doesLand 23 = .ok (.goto 4, 3) := o167p ac_cX12_doesLand_16 7 0 4 rfl rfl
theorem dX12_doesLand_26 : decode cX12_doesLand 26 = .ok (.iconst 0, 1) := o3 ac_cX12_doesLand_16 10 rfl
theorem dX12_doesLand_27 : decode cX12_doesLand 27 = .ok (.ireturn, 1) := o172 ac_cX12_doesLand_16 11 rfl
def kb_cX12_landsAt_16 : List Nat := [21, 42, 29, 27, 182, 1, 68, 153, 0, 6, 132, 2, 1, 132, 3, 1, 167, 255, 228, 28]
theorem ac_cX12_landsAt_16 : AL cX12_landsAt 16 kb_cX12_landsAt_16 := AL.of (m := 20) (by decide +kernel)
theorem dX12_landsAt_17 : decode cX12_landsAt 17 = .ok (.aload_n 0, 1) := o42 ac_cX12_landsAt_16 1 rfl
theorem dX12_landsAt_18 : decode cX12_landsAt 18 = .ok (.iload_n 3, 1) := o29 ac_cX12_landsAt_16 2 rfl
theorem dX12_landsAt_19 : decode cX12_landsAt 19 = .ok (.iload_n 1, 1) := o27 ac_cX12_landsAt_16 3 rfl
theorem dX12_landsAt_20 : decode cX12_landsAt 20 = .ok (.invokevirtual 324, 3) := o182 ac_cX12_landsAt_16 4 1 68 rfl
theorem dX12_landsAt_23 : decode cX12_landsAt 23 = .ok (.ifCond .eq 6, 3) := o153p ac_cX12_landsAt_16 7 0 6 rfl rfl
theorem dX12_landsAt_26 : decode cX12_landsAt 26 = .ok (.iinc 2 1, 3) := o132p ac_cX12_landsAt_16 10 2 1 rfl rfl
theorem dX12_landsAt_29 : decode cX12_landsAt 29 = .ok (.iinc 3 1, 3) := o132p ac_cX12_landsAt_16 13 3 1 rfl rfl
theorem dX12_landsAt_32 : decode cX12_landsAt 32 = .ok (.goto (-28), 3) := o167n ac_cX12_landsAt_32 0 255 228 27 rfl rfl rfl
theorem dX12_catchesNow_15 : decode cX12_catchesNow 15 = .ok (.aload_n 0, 1) := o42 ac_cX12_catchesNow_0 15 rfl
def kb_cX12_catchesNow_16 : List Nat := [27, 3, 182, 1, 68, 153, 0, 5, 27, 172, 132, 1, 1, 167, 255, 229, 16, 254, 172]
theorem ac_cX12_catchesNow_16 : AL cX12_catchesNow 16 kb_cX12_catchesNow_16 := AL.of (m := 19) (by decide +kernel)
theorem dX12_catchesNow_16 : decode cX12_catchesNow 16 = .ok (.iload_n 1, 1) := o27 ac_cX12_catchesNow_16 0 rfl
theorem dX12_catchesNow_17 : decode cX12_catchesNow 17 = .ok (.iconst 0, 1) := o3 ac_cX12_catchesNow_16 1 rfl
theorem dX12_catchesNow_18 : decode cX12_catchesNow 18 = .ok (.invokevirtual 324, 3) := o182 ac_cX12_catchesNow_16 2 1 68 rfl
theorem dX12_catchesNow_21 : decode cX12_catchesNow 21 = .ok (.ifCond .eq 5, 3) := o153p ac_cX12_catchesNow_16 5 0 5 rfl rfl
theorem dX12_catchesNow_24 : decode cX12_catchesNow 24 = .ok (.iload_n 1, 1) := o27 ac_cX12_catchesNow_16 8 rfl
theorem dX12_catchesNow_25 : decode cX12_catchesNow 25 = .ok (.ireturn, 1) := o172 ac_cX12_catchesNow_16 9 rfl
theorem dX12_catchesNow_26 : decode cX12_catchesNow 26 = .ok (.iinc 1 1, 3) := o132p ac_cX12_catchesNow_16 10 1 1 rfl rfl
theorem dX12_catchesNow_29 : decode cX12_catchesNow 29 = .ok (.goto (-27), 3) := o167n ac_cX12_catchesNow_16 13 255 229 26 rfl rfl rfl
def kb_cX12_lotNow_0 : List Nat := [42, 180, 1, 49, 16, 125, 184, 1, 59, 7, 42, 180, 0, 110, 16, 21, 46, 104, 184, 1]
theorem ac_cX12_lotNow_0 : AL cX12_lotNow 0 kb_cX12_lotNow_0 := AL.of (m := 20) (by decide +kernel)
theorem dX12_lotNow_0 : decode cX12_lotNow 0 = .ok (.aload_n 0, 1) := o42 ac_cX12_lotNow_0 0 rfl
theorem dX12_lotNow_1 : decode cX12_lotNow 1 = .ok (.getfield 305, 3) := o180 ac_cX12_lotNow_0 1 1 49 rfl
theorem dX12_lotNow_4 : decode cX12_lotNow 4 = .ok (.bipush 125, 2) := o16p ac_cX12_lotNow_0 4 125 rfl rfl
theorem dX12_lotNow_6 : decode cX12_lotNow 6 = .ok (.invokestatic 315, 3) := o184 ac_cX12_lotNow_0 6 1 59 rfl
theorem dX12_lotNow_9 : decode cX12_lotNow 9 = .ok (.iconst 4, 1) := o7 ac_cX12_lotNow_0 9 rfl
theorem dX12_lotNow_10 : decode cX12_lotNow 10 = .ok (.aload_n 0, 1) := o42 ac_cX12_lotNow_0 10 rfl
theorem dX12_lotNow_11 : decode cX12_lotNow 11 = .ok (.getfield 110, 3) := o180 ac_cX12_lotNow_0 11 0 110 rfl
theorem dX12_lotNow_14 : decode cX12_lotNow 14 = .ok (.bipush 21, 2) := o16p ac_cX12_lotNow_0 14 21 rfl rfl
def kb_cX12_lotNow_16 : List Nat := [46, 104, 184, 1, 59, 4, 124, 16, 100, 112, 172]
theorem ac_cX12_lotNow_16 : AL cX12_lotNow 16 kb_cX12_lotNow_16 := AL.of (m := 11) (by decide +kernel)
theorem dX12_lotNow_16 : decode cX12_lotNow 16 = .ok (.iaload, 1) := o46 ac_cX12_lotNow_16 0 rfl
theorem dX12_lotNow_17 : decode cX12_lotNow 17 = .ok (.imul, 1) := o104 ac_cX12_lotNow_16 1 rfl
theorem dX12_lotNow_18 : decode cX12_lotNow 18 = .ok (.invokestatic 315, 3) := o184 ac_cX12_lotNow_16 2 1 59 rfl
theorem dX12_lotNow_21 : decode cX12_lotNow 21 = .ok (.iconst 1, 1) := o4 ac_cX12_lotNow_16 5 rfl
theorem dX12_lotNow_22 : decode cX12_lotNow 22 = .ok (.iushr, 1) := o124 ac_cX12_lotNow_16 6 rfl
theorem dX12_lotNow_23 : decode cX12_lotNow 23 = .ok (.bipush 100, 2) := o16p ac_cX12_lotNow_16 7 100 rfl rfl
theorem dX12_lotNow_25 : decode cX12_lotNow 25 = .ok (.irem, 1) := o112 ac_cX12_lotNow_16 9 rfl
theorem dX12_lotNow_26 : decode cX12_lotNow 26 = .ok (.ireturn, 1) := o172 ac_cX12_lotNow_16 10 rfl
def kb_cX12_lengthOf_0 : List Nat := [42, 180, 0, 58, 8, 42, 180, 0, 221, 104, 27, 96, 46, 172]
theorem ac_cX12_lengthOf_0 : AL cX12_lengthOf 0 kb_cX12_lengthOf_0 := AL.of (m := 14) (by decide +kernel)
theorem dX12_lengthOf_0 : decode cX12_lengthOf 0 = .ok (.aload_n 0, 1) := o42 ac_cX12_lengthOf_0 0 rfl
theorem dX12_lengthOf_1 : decode cX12_lengthOf 1 = .ok (.getfield 58, 3) := o180 ac_cX12_lengthOf_0 1 0 58 rfl
theorem dX12_lengthOf_4 : decode cX12_lengthOf 4 = .ok (.iconst 5, 1) := o8 ac_cX12_lengthOf_0 4 rfl
theorem dX12_lengthOf_5 : decode cX12_lengthOf 5 = .ok (.aload_n 0, 1) := o42 ac_cX12_lengthOf_0 5 rfl
theorem dX12_lengthOf_6 : decode cX12_lengthOf 6 = .ok (.getfield 221, 3) := o180 ac_cX12_lengthOf_0 6 0 221 rfl
theorem dX12_lengthOf_9 : decode cX12_lengthOf 9 = .ok (.imul, 1) := o104 ac_cX12_lengthOf_0 9 rfl
theorem dX12_lengthOf_10 : decode cX12_lengthOf 10 = .ok (.iload_n 1, 1) := o27 ac_cX12_lengthOf_0 10 rfl
theorem dX12_lengthOf_11 : decode cX12_lengthOf 11 = .ok (.iadd, 1) := o96 ac_cX12_lengthOf_0 11 rfl
theorem dX12_lengthOf_12 : decode cX12_lengthOf 12 = .ok (.iaload, 1) := o46 ac_cX12_lengthOf_0 12 rfl
theorem dX12_lengthOf_13 : decode cX12_lengthOf 13 = .ok (.ireturn, 1) := o172 ac_cX12_lengthOf_0 13 rfl
def kb_cX12_heightAt_0 : List Nat := [42, 180, 0, 61, 16, 8, 8, 42, 180, 0, 221, 104, 27, 96, 104, 28, 42, 27, 182, 1]
theorem ac_cX12_heightAt_0 : AL cX12_heightAt 0 kb_cX12_heightAt_0 := AL.of (m := 20) (by decide +kernel)
theorem dX12_heightAt_0 : decode cX12_heightAt 0 = .ok (.aload_n 0, 1) := o42 ac_cX12_heightAt_0 0 rfl
theorem dX12_heightAt_1 : decode cX12_heightAt 1 = .ok (.getfield 61, 3) := o180 ac_cX12_heightAt_0 1 0 61 rfl
theorem dX12_heightAt_4 : decode cX12_heightAt 4 = .ok (.bipush 8, 2) := o16p ac_cX12_heightAt_0 4 8 rfl rfl
theorem dX12_heightAt_6 : decode cX12_heightAt 6 = .ok (.iconst 5, 1) := o8 ac_cX12_heightAt_0 6 rfl
theorem dX12_heightAt_7 : decode cX12_heightAt 7 = .ok (.aload_n 0, 1) := o42 ac_cX12_heightAt_0 7 rfl
theorem dX12_heightAt_8 : decode cX12_heightAt 8 = .ok (.getfield 221, 3) := o180 ac_cX12_heightAt_0 8 0 221 rfl
theorem dX12_heightAt_11 : decode cX12_heightAt 11 = .ok (.imul, 1) := o104 ac_cX12_heightAt_0 11 rfl
theorem dX12_heightAt_12 : decode cX12_heightAt 12 = .ok (.iload_n 1, 1) := o27 ac_cX12_heightAt_0 12 rfl
theorem dX12_heightAt_13 : decode cX12_heightAt 13 = .ok (.iadd, 1) := o96 ac_cX12_heightAt_0 13 rfl
theorem dX12_heightAt_14 : decode cX12_heightAt 14 = .ok (.imul, 1) := o104 ac_cX12_heightAt_0 14 rfl
theorem dX12_heightAt_15 : decode cX12_heightAt 15 = .ok (.iload_n 2, 1) := o28 ac_cX12_heightAt_0 15 rfl
def kb_cX12_heightAt_16 : List Nat := [42, 27, 182, 1, 62, 112, 96, 46, 172]
theorem ac_cX12_heightAt_16 : AL cX12_heightAt 16 kb_cX12_heightAt_16 := AL.of (m := 9) (by decide +kernel)
theorem dX12_heightAt_16 : decode cX12_heightAt 16 = .ok (.aload_n 0, 1) := o42 ac_cX12_heightAt_16 0 rfl
theorem dX12_heightAt_17 : decode cX12_heightAt 17 = .ok (.iload_n 1, 1) := o27 ac_cX12_heightAt_16 1 rfl
theorem dX12_heightAt_18 : decode cX12_heightAt 18 = .ok (.invokevirtual 318, 3) := o182 ac_cX12_heightAt_16 2 1 62 rfl
theorem dX12_heightAt_21 : decode cX12_heightAt 21 = .ok (.irem, 1) := o112 ac_cX12_heightAt_16 5 rfl
theorem dX12_heightAt_22 : decode cX12_heightAt 22 = .ok (.iadd, 1) := o96 ac_cX12_heightAt_16 6 rfl
theorem dX12_heightAt_23 : decode cX12_heightAt 23 = .ok (.iaload, 1) := o46 ac_cX12_heightAt_16 7 rfl
theorem dX12_heightAt_24 : decode cX12_heightAt 24 = .ok (.ireturn, 1) := o172 ac_cX12_heightAt_16 8 rfl
theorem dX12_heightNow_10 : decode cX12_heightNow 10 = .ok (.aload_n 0, 1) := o42 ac_cX12_heightNow_0 10 rfl
theorem dX12_heightNow_11 : decode cX12_heightNow 11 = .ok (.getfield 110, 3) := o180 ac_cX12_heightNow_0 11 0 110 rfl
theorem dX12_heightNow_14 : decode cX12_heightNow 14 = .ok (.bipush 28, 2) := o16p ac_cX12_heightNow_0 14 28 rfl rfl
theorem dX12_heightNow_16 : decode cX12_heightNow 16 = .ok (.iaload, 1) := o46 ac_cX12_heightNow_16 0 rfl
theorem dX12_heightNow_17 : decode cX12_heightNow 17 = .ok (.ireturn, 1) := o172 ac_cX12_heightNow_16 1 rfl
def kb_cX12_heightNow_32 : List Nat := [42, 42, 180, 0, 110, 16, 26, 46, 42, 180, 0, 110, 16, 21, 46, 42, 180, 0, 110, 16]
theorem ac_cX12_heightNow_32 : AL cX12_heightNow 32 kb_cX12_heightNow_32 := AL.of (m := 20) (by decide +kernel)
theorem dX12_heightNow_32 : decode cX12_heightNow 32 = .ok (.aload_n 0, 1) := o42 ac_cX12_heightNow_32 0 rfl
theorem dX12_heightNow_33 : decode cX12_heightNow 33 = .ok (.aload_n 0, 1) := o42 ac_cX12_heightNow_32 1 rfl
theorem dX12_heightNow_34 : decode cX12_heightNow 34 = .ok (.getfield 110, 3) := o180 ac_cX12_heightNow_32 2 0 110 rfl
theorem dX12_heightNow_37 : decode cX12_heightNow 37 = .ok (.bipush 26, 2) := o16p ac_cX12_heightNow_32 5 26 rfl rfl
theorem dX12_heightNow_39 : decode cX12_heightNow 39 = .ok (.iaload, 1) := o46 ac_cX12_heightNow_32 7 rfl
theorem dX12_heightNow_40 : decode cX12_heightNow 40 = .ok (.aload_n 0, 1) := o42 ac_cX12_heightNow_32 8 rfl
theorem dX12_heightNow_41 : decode cX12_heightNow 41 = .ok (.getfield 110, 3) := o180 ac_cX12_heightNow_32 9 0 110 rfl
theorem dX12_heightNow_44 : decode cX12_heightNow 44 = .ok (.bipush 21, 2) := o16p ac_cX12_heightNow_32 12 21 rfl rfl
theorem dX12_heightNow_46 : decode cX12_heightNow 46 = .ok (.iaload, 1) := o46 ac_cX12_heightNow_32 14 rfl
theorem dX12_heightNow_47 : decode cX12_heightNow 47 = .ok (.aload_n 0, 1) := o42 ac_cX12_heightNow_32 15 rfl
theorem dX12_heightNow_48 : decode cX12_heightNow 48 = .ok (.getfield 110, 3) := o180 ac_cX12_heightNow_48 0 0 110 rfl
theorem dX12_heightNow_51 : decode cX12_heightNow 51 = .ok (.bipush 27, 2) := o16p ac_cX12_heightNow_48 3 27 rfl rfl
theorem dX12_heightNow_53 : decode cX12_heightNow 53 = .ok (.iaload, 1) := o46 ac_cX12_heightNow_48 5 rfl
theorem dX12_heightNow_54 : decode cX12_heightNow 54 = .ok (.isub, 1) := o100 ac_cX12_heightNow_48 6 rfl
theorem dX12_heightNow_55 : decode cX12_heightNow 55 = .ok (.invokevirtual 321, 3) := o182 ac_cX12_heightNow_48 7 1 65 rfl
def kb_cX12_looksAt_0 : List Nat := [42, 180, 0, 101, 3, 42, 180, 0, 46, 16, 7, 42, 180, 0, 221, 104, 27, 96, 46, 79]
theorem ac_cX12_looksAt_0 : AL cX12_looksAt 0 kb_cX12_looksAt_0 := AL.of (m := 20) (by decide +kernel)
theorem dX12_looksAt_0 : decode cX12_looksAt 0 = .ok (.aload_n 0, 1) := o42 ac_cX12_looksAt_0 0 rfl
theorem dX12_looksAt_1 : decode cX12_looksAt 1 = .ok (.getfield 101, 3) := o180 ac_cX12_looksAt_0 1 0 101 rfl
theorem dX12_looksAt_4 : decode cX12_looksAt 4 = .ok (.iconst 0, 1) := o3 ac_cX12_looksAt_0 4 rfl
theorem dX12_looksAt_5 : decode cX12_looksAt 5 = .ok (.aload_n 0, 1) := o42 ac_cX12_looksAt_0 5 rfl
theorem dX12_looksAt_6 : decode cX12_looksAt 6 = .ok (.getfield 46, 3) := o180 ac_cX12_looksAt_0 6 0 46 rfl
theorem dX12_looksAt_9 : decode cX12_looksAt 9 = .ok (.bipush 7, 2) := o16p ac_cX12_looksAt_0 9 7 rfl rfl
theorem dX12_looksAt_11 : decode cX12_looksAt 11 = .ok (.aload_n 0, 1) := o42 ac_cX12_looksAt_0 11 rfl
theorem dX12_looksAt_12 : decode cX12_looksAt 12 = .ok (.getfield 221, 3) := o180 ac_cX12_looksAt_0 12 0 221 rfl
theorem dX12_looksAt_15 : decode cX12_looksAt 15 = .ok (.imul, 1) := o104 ac_cX12_looksAt_0 15 rfl
def kb_cX12_looksAt_16 : List Nat := [27, 96, 46, 79, 42, 180, 0, 101, 4, 42, 180, 0, 49, 16, 7, 42, 180, 0, 221, 104]
theorem ac_cX12_looksAt_16 : AL cX12_looksAt 16 kb_cX12_looksAt_16 := AL.of (m := 20) (by decide +kernel)
theorem dX12_looksAt_16 : decode cX12_looksAt 16 = .ok (.iload_n 1, 1) := o27 ac_cX12_looksAt_16 0 rfl
theorem dX12_looksAt_17 : decode cX12_looksAt 17 = .ok (.iadd, 1) := o96 ac_cX12_looksAt_16 1 rfl
theorem dX12_looksAt_18 : decode cX12_looksAt 18 = .ok (.iaload, 1) := o46 ac_cX12_looksAt_16 2 rfl
theorem dX12_looksAt_19 : decode cX12_looksAt 19 = .ok (.iastore, 1) := o79 ac_cX12_looksAt_16 3 rfl
theorem dX12_looksAt_20 : decode cX12_looksAt 20 = .ok (.aload_n 0, 1) := o42 ac_cX12_looksAt_16 4 rfl
theorem dX12_looksAt_21 : decode cX12_looksAt 21 = .ok (.getfield 101, 3) := o180 ac_cX12_looksAt_16 5 0 101 rfl
theorem dX12_looksAt_24 : decode cX12_looksAt 24 = .ok (.iconst 1, 1) := o4 ac_cX12_looksAt_16 8 rfl
theorem dX12_looksAt_25 : decode cX12_looksAt 25 = .ok (.aload_n 0, 1) := o42 ac_cX12_looksAt_16 9 rfl
theorem dX12_looksAt_26 : decode cX12_looksAt 26 = .ok (.getfield 49, 3) := o180 ac_cX12_looksAt_16 10 0 49 rfl
theorem dX12_looksAt_29 : decode cX12_looksAt 29 = .ok (.bipush 7, 2) := o16p ac_cX12_looksAt_16 13 7 rfl rfl
theorem dX12_looksAt_31 : decode cX12_looksAt 31 = .ok (.aload_n 0, 1) := o42 ac_cX12_looksAt_16 15 rfl
def kb_cX12_looksAt_32 : List Nat := [180, 0, 221, 104, 27, 96, 46, 79, 42, 180, 0, 101, 5, 28, 79, 42, 180, 0, 101, 6]
theorem ac_cX12_looksAt_32 : AL cX12_looksAt 32 kb_cX12_looksAt_32 := AL.of (m := 20) (by decide +kernel)
theorem dX12_looksAt_32 : decode cX12_looksAt 32 = .ok (.getfield 221, 3) := o180 ac_cX12_looksAt_32 0 0 221 rfl
theorem dX12_looksAt_35 : decode cX12_looksAt 35 = .ok (.imul, 1) := o104 ac_cX12_looksAt_32 3 rfl
theorem dX12_looksAt_36 : decode cX12_looksAt 36 = .ok (.iload_n 1, 1) := o27 ac_cX12_looksAt_32 4 rfl
theorem dX12_looksAt_37 : decode cX12_looksAt 37 = .ok (.iadd, 1) := o96 ac_cX12_looksAt_32 5 rfl
theorem dX12_looksAt_38 : decode cX12_looksAt 38 = .ok (.iaload, 1) := o46 ac_cX12_looksAt_32 6 rfl
theorem dX12_looksAt_39 : decode cX12_looksAt 39 = .ok (.iastore, 1) := o79 ac_cX12_looksAt_32 7 rfl
theorem dX12_looksAt_40 : decode cX12_looksAt 40 = .ok (.aload_n 0, 1) := o42 ac_cX12_looksAt_32 8 rfl
theorem dX12_looksAt_41 : decode cX12_looksAt 41 = .ok (.getfield 101, 3) := o180 ac_cX12_looksAt_32 9 0 101 rfl
theorem dX12_looksAt_44 : decode cX12_looksAt 44 = .ok (.iconst 2, 1) := o5 ac_cX12_looksAt_32 12 rfl
theorem dX12_looksAt_45 : decode cX12_looksAt 45 = .ok (.iload_n 2, 1) := o28 ac_cX12_looksAt_32 13 rfl
theorem dX12_looksAt_46 : decode cX12_looksAt 46 = .ok (.iastore, 1) := o79 ac_cX12_looksAt_32 14 rfl
theorem dX12_looksAt_47 : decode cX12_looksAt 47 = .ok (.aload_n 0, 1) := o42 ac_cX12_looksAt_32 15 rfl
def kb_cX12_looksAt_48 : List Nat := [180, 0, 101, 6, 42, 180, 0, 110, 16, 21, 46, 79, 42, 180, 0, 101, 7, 42, 180, 0]
theorem ac_cX12_looksAt_48 : AL cX12_looksAt 48 kb_cX12_looksAt_48 := AL.of (m := 20) (by decide +kernel)
theorem dX12_looksAt_48 : decode cX12_looksAt 48 = .ok (.getfield 101, 3) := o180 ac_cX12_looksAt_48 0 0 101 rfl
theorem dX12_looksAt_51 : decode cX12_looksAt 51 = .ok (.iconst 3, 1) := o6 ac_cX12_looksAt_48 3 rfl
theorem dX12_looksAt_52 : decode cX12_looksAt 52 = .ok (.aload_n 0, 1) := o42 ac_cX12_looksAt_48 4 rfl
theorem dX12_looksAt_53 : decode cX12_looksAt 53 = .ok (.getfield 110, 3) := o180 ac_cX12_looksAt_48 5 0 110 rfl
theorem dX12_looksAt_56 : decode cX12_looksAt 56 = .ok (.bipush 21, 2) := o16p ac_cX12_looksAt_48 8 21 rfl rfl
theorem dX12_looksAt_58 : decode cX12_looksAt 58 = .ok (.iaload, 1) := o46 ac_cX12_looksAt_48 10 rfl
theorem dX12_looksAt_59 : decode cX12_looksAt 59 = .ok (.iastore, 1) := o79 ac_cX12_looksAt_48 11 rfl
theorem dX12_looksAt_60 : decode cX12_looksAt 60 = .ok (.aload_n 0, 1) := o42 ac_cX12_looksAt_48 12 rfl
theorem dX12_looksAt_61 : decode cX12_looksAt 61 = .ok (.getfield 101, 3) := o180 ac_cX12_looksAt_48 13 0 101 rfl
def kb_cX12_looksAt_64 : List Nat := [7, 42, 180, 0, 110, 16, 22, 46, 79, 42, 180, 0, 101, 8, 29, 79, 42, 180, 0, 101]
theorem ac_cX12_looksAt_64 : AL cX12_looksAt 64 kb_cX12_looksAt_64 := AL.of (m := 20) (by decide +kernel)
theorem dX12_looksAt_64 : decode cX12_looksAt 64 = .ok (.iconst 4, 1) := o7 ac_cX12_looksAt_64 0 rfl
theorem dX12_looksAt_65 : decode cX12_looksAt 65 = .ok (.aload_n 0, 1) := o42 ac_cX12_looksAt_64 1 rfl
theorem dX12_looksAt_66 : decode cX12_looksAt 66 = .ok (.getfield 110, 3) := o180 ac_cX12_looksAt_64 2 0 110 rfl
theorem dX12_looksAt_69 : decode cX12_looksAt 69 = .ok (.bipush 22, 2) := o16p ac_cX12_looksAt_64 5 22 rfl rfl
theorem dX12_looksAt_71 : decode cX12_looksAt 71 = .ok (.iaload, 1) := o46 ac_cX12_looksAt_64 7 rfl
theorem dX12_looksAt_72 : decode cX12_looksAt 72 = .ok (.iastore, 1) := o79 ac_cX12_looksAt_64 8 rfl
theorem dX12_looksAt_73 : decode cX12_looksAt 73 = .ok (.aload_n 0, 1) := o42 ac_cX12_looksAt_64 9 rfl
theorem dX12_looksAt_74 : decode cX12_looksAt 74 = .ok (.getfield 101, 3) := o180 ac_cX12_looksAt_64 10 0 101 rfl
theorem dX12_looksAt_77 : decode cX12_looksAt 77 = .ok (.iconst 5, 1) := o8 ac_cX12_looksAt_64 13 rfl
theorem dX12_looksAt_78 : decode cX12_looksAt 78 = .ok (.iload_n 3, 1) := o29 ac_cX12_looksAt_64 14 rfl
theorem dX12_looksAt_79 : decode cX12_looksAt 79 = .ok (.iastore, 1) := o79 ac_cX12_looksAt_64 15 rfl
def kb_cX12_looksAt_80 : List Nat := [42, 180, 0, 101, 16, 6, 27, 79, 42, 180, 0, 101, 16, 7, 42, 180, 0, 110, 16, 24]
theorem ac_cX12_looksAt_80 : AL cX12_looksAt 80 kb_cX12_looksAt_80 := AL.of (m := 20) (by decide +kernel)
theorem dX12_looksAt_80 : decode cX12_looksAt 80 = .ok (.aload_n 0, 1) := o42 ac_cX12_looksAt_80 0 rfl
theorem dX12_looksAt_81 : decode cX12_looksAt 81 = .ok (.getfield 101, 3) := o180 ac_cX12_looksAt_80 1 0 101 rfl
theorem dX12_looksAt_84 : decode cX12_looksAt 84 = .ok (.bipush 6, 2) := o16p ac_cX12_looksAt_80 4 6 rfl rfl
theorem dX12_looksAt_86 : decode cX12_looksAt 86 = .ok (.iload_n 1, 1) := o27 ac_cX12_looksAt_80 6 rfl
theorem dX12_looksAt_87 : decode cX12_looksAt 87 = .ok (.iastore, 1) := o79 ac_cX12_looksAt_80 7 rfl
theorem dX12_looksAt_88 : decode cX12_looksAt 88 = .ok (.aload_n 0, 1) := o42 ac_cX12_looksAt_80 8 rfl
theorem dX12_looksAt_89 : decode cX12_looksAt 89 = .ok (.getfield 101, 3) := o180 ac_cX12_looksAt_80 9 0 101 rfl
theorem dX12_looksAt_92 : decode cX12_looksAt 92 = .ok (.bipush 7, 2) := o16p ac_cX12_looksAt_80 12 7 rfl rfl
theorem dX12_looksAt_94 : decode cX12_looksAt 94 = .ok (.aload_n 0, 1) := o42 ac_cX12_looksAt_80 14 rfl
theorem dX12_looksAt_95 : decode cX12_looksAt 95 = .ok (.getfield 110, 3) := o180 ac_cX12_looksAt_80 15 0 110 rfl
def kb_cX12_looksAt_96 : List Nat := [0, 110, 16, 24, 46, 79, 42, 180, 0, 101, 16, 8, 42, 180, 0, 110, 16, 21, 46, 5]
theorem ac_cX12_looksAt_96 : AL cX12_looksAt 96 kb_cX12_looksAt_96 := AL.of (m := 20) (by decide +kernel)
theorem dX12_looksAt_98 : decode cX12_looksAt 98 = .ok (.bipush 24, 2) := o16p ac_cX12_looksAt_96 2 24 rfl rfl
theorem dX12_looksAt_100 : decode cX12_looksAt 100 = .ok (.iaload, 1) := o46 ac_cX12_looksAt_96 4 rfl
theorem dX12_looksAt_101 : decode cX12_looksAt 101 = .ok (.iastore, 1) := o79 ac_cX12_looksAt_96 5 rfl
theorem dX12_looksAt_102 : decode cX12_looksAt 102 = .ok (.aload_n 0, 1) := o42 ac_cX12_looksAt_96 6 rfl
theorem dX12_looksAt_103 : decode cX12_looksAt 103 = .ok (.getfield 101, 3) := o180 ac_cX12_looksAt_96 7 0 101 rfl
theorem dX12_looksAt_106 : decode cX12_looksAt 106 = .ok (.bipush 8, 2) := o16p ac_cX12_looksAt_96 10 8 rfl rfl
theorem dX12_looksAt_108 : decode cX12_looksAt 108 = .ok (.aload_n 0, 1) := o42 ac_cX12_looksAt_96 12 rfl
theorem dX12_looksAt_109 : decode cX12_looksAt 109 = .ok (.getfield 110, 3) := o180 ac_cX12_looksAt_96 13 0 110 rfl
def kb_cX12_looksAt_112 : List Nat := [16, 21, 46, 5, 112, 79, 177]
theorem ac_cX12_looksAt_112 : AL cX12_looksAt 112 kb_cX12_looksAt_112 := AL.of (m := 7) (by decide +kernel)
theorem dX12_looksAt_112 : decode cX12_looksAt 112 = .ok (.bipush 21, 2) := o16p ac_cX12_looksAt_112 0 21 rfl rfl
theorem dX12_looksAt_114 : decode cX12_looksAt 114 = .ok (.iaload, 1) := o46 ac_cX12_looksAt_112 2 rfl
theorem dX12_looksAt_115 : decode cX12_looksAt 115 = .ok (.iconst 2, 1) := o5 ac_cX12_looksAt_112 3 rfl
theorem dX12_looksAt_116 : decode cX12_looksAt 116 = .ok (.irem, 1) := o112 ac_cX12_looksAt_112 4 rfl
theorem dX12_looksAt_117 : decode cX12_looksAt 117 = .ok (.iastore, 1) := o79 ac_cX12_looksAt_112 5 rfl
theorem dX12_looksAt_118 : decode cX12_looksAt 118 = .ok (.return_, 1) := o177 ac_cX12_looksAt_112 6 rfl
def kb_cX12_termOf_0 : List Nat := [3, 62, 27, 54, 4, 21, 4, 28, 162, 0, 157, 42, 180, 0, 92, 21, 4, 46, 54, 5]
theorem ac_cX12_termOf_0 : AL cX12_termOf 0 kb_cX12_termOf_0 := AL.of (m := 20) (by decide +kernel)
theorem dX12_termOf_0 : decode cX12_termOf 0 = .ok (.iconst 0, 1) := o3 ac_cX12_termOf_0 0 rfl
theorem dX12_termOf_1 : decode cX12_termOf 1 = .ok (.istore_n 3, 1) := o62 ac_cX12_termOf_0 1 rfl
theorem dX12_termOf_2 : decode cX12_termOf 2 = .ok (.iload_n 1, 1) := o27 ac_cX12_termOf_0 2 rfl
theorem dX12_termOf_3 : decode cX12_termOf 3 = .ok (.istore 4, 2) := o54 ac_cX12_termOf_0 3 4 rfl
theorem dX12_termOf_5 : decode cX12_termOf 5 = .ok (.iload 4, 2) := o21 ac_cX12_termOf_0 5 4 rfl
theorem dX12_termOf_7 : decode cX12_termOf 7 = .ok (.iload_n 2, 1) := o28 ac_cX12_termOf_0 7 rfl
theorem dX12_termOf_8 : decode cX12_termOf 8 = .ok (.if_icmp .ge 157, 3) := o162p ac_cX12_termOf_0 8 0 157 rfl rfl
theorem dX12_termOf_11 : decode cX12_termOf 11 = .ok (.aload_n 0, 1) := o42 ac_cX12_termOf_0 11 rfl
theorem dX12_termOf_12 : decode cX12_termOf 12 = .ok (.getfield 92, 3) := o180 ac_cX12_termOf_0 12 0 92 rfl
theorem dX12_termOf_15 : decode cX12_termOf 15 = .ok (.iload 4, 2) := o21 ac_cX12_termOf_0 15 4 rfl
def kb_cX12_termOf_16 : List Nat := [4, 46, 54, 5, 21, 5, 5, 162, 0, 42, 42, 180, 0, 104, 29, 21, 5, 154, 0, 13]
theorem ac_cX12_termOf_16 : AL cX12_termOf 16 kb_cX12_termOf_16 := AL.of (m := 20) (by decide +kernel)
theorem dX12_termOf_17 : decode cX12_termOf 17 = .ok (.iaload, 1) := o46 ac_cX12_termOf_16 1 rfl
theorem dX12_termOf_18 : decode cX12_termOf 18 = .ok (.istore 5, 2) := o54 ac_cX12_termOf_16 2 5 rfl
theorem dX12_termOf_20 : decode cX12_termOf 20 = .ok (.iload 5, 2) := o21 ac_cX12_termOf_16 4 5 rfl
theorem dX12_termOf_22 : decode cX12_termOf 22 = .ok (.iconst 2, 1) := o5 ac_cX12_termOf_16 6 rfl
theorem dX12_termOf_23 : decode cX12_termOf 23 = .ok (.if_icmp .ge 42, 3) := o162p ac_cX12_termOf_16 7 0 42 rfl rfl
theorem dX12_termOf_26 : decode cX12_termOf 26 = .ok (.aload_n 0, 1) := o42 ac_cX12_termOf_16 10 rfl
theorem dX12_termOf_27 : decode cX12_termOf 27 = .ok (.getfield 104, 3) := o180 ac_cX12_termOf_16 11 0 104 rfl
theorem dX12_termOf_30 : decode cX12_termOf 30 = .ok (.iload_n 3, 1) := o29 ac_cX12_termOf_16 14 rfl
theorem dX12_termOf_31 : decode cX12_termOf 31 = .ok (.iload 5, 2) := o21 ac_cX12_termOf_16 15 5 rfl
def kb_cX12_termOf_32 : List Nat := [5, 154, 0, 13, 42, 180, 0, 95, 21, 4, 46, 167, 0, 15, 42, 180, 0, 101, 42, 180]
theorem ac_cX12_termOf_32 : AL cX12_termOf 32 kb_cX12_termOf_32 := AL.of (m := 20) (by decide +kernel)
theorem dX12_termOf_33 : decode cX12_termOf 33 = .ok (.ifCond .ne 13, 3) := o154p ac_cX12_termOf_32 1 0 13 rfl rfl
theorem dX12_termOf_36 : decode cX12_termOf 36 = .ok (.aload_n 0, 1) := o42 ac_cX12_termOf_32 4 rfl
theorem dX12_termOf_37 : decode cX12_termOf 37 = .ok (.getfield 95, 3) := o180 ac_cX12_termOf_32 5 0 95 rfl
theorem dX12_termOf_40 : decode cX12_termOf 40 = .ok (.iload 4, 2) := o21 ac_cX12_termOf_32 8 4 rfl
theorem dX12_termOf_42 : decode cX12_termOf 42 = .ok (.iaload, 1) := o46 ac_cX12_termOf_32 10 rfl
theorem dX12_termOf_43 : decode cX12_termOf 43 = .ok (.goto 15, 3) := o167p ac_cX12_termOf_32 11 0 15 rfl rfl
theorem dX12_termOf_46 : decode cX12_termOf 46 = .ok (.aload_n 0, 1) := o42 ac_cX12_termOf_32 14 rfl
theorem dX12_termOf_47 : decode cX12_termOf 47 = .ok (.getfield 101, 3) := o180 ac_cX12_termOf_32 15 0 101 rfl
def kb_cX12_termOf_48 : List Nat := [0, 101, 42, 180, 0, 95, 21, 4, 46, 46, 79, 132, 3, 1, 167, 0, 97, 132, 3, 255]
theorem ac_cX12_termOf_48 : AL cX12_termOf 48 kb_cX12_termOf_48 := AL.of (m := 20) (by decide +kernel)
theorem dX12_termOf_50 : decode cX12_termOf 50 = .ok (.aload_n 0, 1) := o42 ac_cX12_termOf_48 2 rfl
theorem dX12_termOf_51 : decode cX12_termOf 51 = .ok (.getfield 95, 3) := o180 ac_cX12_termOf_48 3 0 95 rfl
theorem dX12_termOf_54 : decode cX12_termOf 54 = .ok (.iload 4, 2) := o21 ac_cX12_termOf_48 6 4 rfl
theorem dX12_termOf_56 : decode cX12_termOf 56 = .ok (.iaload, 1) := o46 ac_cX12_termOf_48 8 rfl
theorem dX12_termOf_57 : decode cX12_termOf 57 = .ok (.iaload, 1) := o46 ac_cX12_termOf_48 9 rfl
theorem dX12_termOf_58 : decode cX12_termOf 58 = .ok (.iastore, 1) := o79 ac_cX12_termOf_48 10 rfl
theorem dX12_termOf_59 : decode cX12_termOf 59 = .ok (.iinc 3 1, 3) := o132p ac_cX12_termOf_48 11 3 1 rfl rfl
theorem dX12_termOf_62 : decode cX12_termOf 62 = .ok (.goto 97, 3) := o167p ac_cX12_termOf_48 14 0 97 rfl rfl
def kb_cX12_termOf_64 : List Nat := [97, 132, 3, 255, 42, 180, 0, 104, 29, 4, 100, 46, 54, 6, 42, 180, 0, 104, 29, 46]
theorem ac_cX12_termOf_64 : AL cX12_termOf 64 kb_cX12_termOf_64 := AL.of (m := 20) (by decide +kernel)
theorem dX12_termOf_65 : decode cX12_termOf 65 = .ok (.iinc 3 (-1), 3) := o132n ac_cX12_termOf_64 1 3 255 0 rfl rfl rfl
theorem dX12_termOf_68 : decode cX12_termOf 68 = .ok (.aload_n 0, 1) := o42 ac_cX12_termOf_64 4 rfl
theorem dX12_termOf_69 : decode cX12_termOf 69 = .ok (.getfield 104, 3) := o180 ac_cX12_termOf_64 5 0 104 rfl
theorem dX12_termOf_72 : decode cX12_termOf 72 = .ok (.iload_n 3, 1) := o29 ac_cX12_termOf_64 8 rfl
theorem dX12_termOf_73 : decode cX12_termOf 73 = .ok (.iconst 1, 1) := o4 ac_cX12_termOf_64 9 rfl
theorem dX12_termOf_74 : decode cX12_termOf 74 = .ok (.isub, 1) := o100 ac_cX12_termOf_64 10 rfl
theorem dX12_termOf_75 : decode cX12_termOf 75 = .ok (.iaload, 1) := o46 ac_cX12_termOf_64 11 rfl
theorem dX12_termOf_76 : decode cX12_termOf 76 = .ok (.istore 6, 2) := o54 ac_cX12_termOf_64 12 6 rfl
theorem dX12_termOf_78 : decode cX12_termOf 78 = .ok (.aload_n 0, 1) := o42 ac_cX12_termOf_64 14 rfl
theorem dX12_termOf_79 : decode cX12_termOf 79 = .ok (.getfield 104, 3) := o180 ac_cX12_termOf_64 15 0 104 rfl
def kb_cX12_termOf_80 : List Nat := [0, 104, 29, 46, 54, 7, 21, 5, 8, 160, 0, 15, 21, 7, 154, 0, 10, 42, 4, 181]
theorem ac_cX12_termOf_80 : AL cX12_termOf 80 kb_cX12_termOf_80 := AL.of (m := 20) (by decide +kernel)
theorem dX12_termOf_82 : decode cX12_termOf 82 = .ok (.iload_n 3, 1) := o29 ac_cX12_termOf_80 2 rfl
theorem dX12_termOf_83 : decode cX12_termOf 83 = .ok (.iaload, 1) := o46 ac_cX12_termOf_80 3 rfl
theorem dX12_termOf_84 : decode cX12_termOf 84 = .ok (.istore 7, 2) := o54 ac_cX12_termOf_80 4 7 rfl
theorem dX12_termOf_86 : decode cX12_termOf 86 = .ok (.iload 5, 2) := o21 ac_cX12_termOf_80 6 5 rfl
theorem dX12_termOf_88 : decode cX12_termOf 88 = .ok (.iconst 5, 1) := o8 ac_cX12_termOf_80 8 rfl
theorem dX12_termOf_89 : decode cX12_termOf 89 = .ok (.if_icmp .ne 15, 3) := o160p ac_cX12_termOf_80 9 0 15 rfl rfl
theorem dX12_termOf_92 : decode cX12_termOf 92 = .ok (.iload 7, 2) := o21 ac_cX12_termOf_80 12 7 rfl
theorem dX12_termOf_94 : decode cX12_termOf 94 = .ok (.ifCond .ne 10, 3) := o154p ac_cX12_termOf_80 14 0 10 rfl rfl
def kb_cX12_termOf_96 : List Nat := [10, 42, 4, 181, 1, 41, 3, 172, 42, 180, 0, 104, 29, 4, 100, 21, 5, 5, 160, 0]
theorem ac_cX12_termOf_96 : AL cX12_termOf 96 kb_cX12_termOf_96 := AL.of (m := 20) (by decide +kernel)
theorem dX12_termOf_97 : decode cX12_termOf 97 = .ok (.aload_n 0, 1) := o42 ac_cX12_termOf_96 1 rfl
theorem dX12_termOf_98 : decode cX12_termOf 98 = .ok (.iconst 1, 1) := o4 ac_cX12_termOf_96 2 rfl
theorem dX12_termOf_99 : decode cX12_termOf 99 = .ok (.putfield 297, 3) := o181 ac_cX12_termOf_96 3 1 41 rfl
theorem dX12_termOf_102 : decode cX12_termOf 102 = .ok (.iconst 0, 1) := o3 ac_cX12_termOf_96 6 rfl
theorem dX12_termOf_103 : decode cX12_termOf 103 = .ok (.ireturn, 1) := o172 ac_cX12_termOf_96 7 rfl
theorem dX12_termOf_104 : decode cX12_termOf 104 = .ok (.aload_n 0, 1) := o42 ac_cX12_termOf_96 8 rfl
theorem dX12_termOf_105 : decode cX12_termOf 105 = .ok (.getfield 104, 3) := o180 ac_cX12_termOf_96 9 0 104 rfl
theorem dX12_termOf_108 : decode cX12_termOf 108 = .ok (.iload_n 3, 1) := o29 ac_cX12_termOf_96 12 rfl
theorem dX12_termOf_109 : decode cX12_termOf 109 = .ok (.iconst 1, 1) := o4 ac_cX12_termOf_96 13 rfl
theorem dX12_termOf_110 : decode cX12_termOf 110 = .ok (.isub, 1) := o100 ac_cX12_termOf_96 14 rfl
theorem dX12_termOf_111 : decode cX12_termOf 111 = .ok (.iload 5, 2) := o21 ac_cX12_termOf_96 15 5 rfl
def kb_cX12_termOf_112 : List Nat := [5, 5, 160, 0, 11, 21, 6, 21, 7, 96, 167, 0, 36, 21, 5, 6, 160, 0, 11, 21]
theorem ac_cX12_termOf_112 : AL cX12_termOf 112 kb_cX12_termOf_112 := AL.of (m := 20) (by decide +kernel)
theorem dX12_termOf_113 : decode cX12_termOf 113 = .ok (.iconst 2, 1) := o5 ac_cX12_termOf_112 1 rfl
theorem dX12_termOf_114 : decode cX12_termOf 114 = .ok (.if_icmp .ne 11, 3) := o160p ac_cX12_termOf_112 2 0 11 rfl rfl
theorem dX12_termOf_117 : decode cX12_termOf 117 = .ok (.iload 6, 2) := o21 ac_cX12_termOf_112 5 6 rfl
theorem dX12_termOf_119 : decode cX12_termOf 119 = .ok (.iload 7, 2) := o21 ac_cX12_termOf_112 7 7 rfl
theorem dX12_termOf_121 : decode cX12_termOf 121 = .ok (.iadd, 1) := o96 ac_cX12_termOf_112 9 rfl
theorem dX12_termOf_122 : decode cX12_termOf 122 = .ok (.goto 36, 3) := o167p ac_cX12_termOf_112 10 0 36 rfl rfl
theorem dX12_termOf_125 : decode cX12_termOf 125 = .ok (.iload 5, 2) := o21 ac_cX12_termOf_112 13 5 rfl
theorem dX12_termOf_127 : decode cX12_termOf 127 = .ok (.iconst 3, 1) := o6 ac_cX12_termOf_112 15 rfl
def kb_cX12_termOf_128 : List Nat := [160, 0, 11, 21, 6, 21, 7, 100, 167, 0, 22, 21, 5, 7, 160, 0, 11, 21, 6, 21]
theorem ac_cX12_termOf_128 : AL cX12_termOf 128 kb_cX12_termOf_128 := AL.of (m := 20) (by decide +kernel)
theorem dX12_termOf_128 : decode cX12_termOf 128 = .ok (.if_icmp .ne 11, 3) := o160p ac_cX12_termOf_128 0 0 11 rfl rfl
theorem dX12_termOf_131 : decode cX12_termOf 131 = .ok (.iload 6, 2) := o21 ac_cX12_termOf_128 3 6 rfl
theorem dX12_termOf_133 : decode cX12_termOf 133 = .ok (.iload 7, 2) := o21 ac_cX12_termOf_128 5 7 rfl
theorem dX12_termOf_135 : decode cX12_termOf 135 = .ok (.isub, 1) := o100 ac_cX12_termOf_128 7 rfl
theorem dX12_termOf_136 : decode cX12_termOf 136 = .ok (.goto 22, 3) := o167p ac_cX12_termOf_128 8 0 22 rfl rfl
theorem dX12_termOf_139 : decode cX12_termOf 139 = .ok (.iload 5, 2) := o21 ac_cX12_termOf_128 11 5 rfl
theorem dX12_termOf_141 : decode cX12_termOf 141 = .ok (.iconst 4, 1) := o7 ac_cX12_termOf_128 13 rfl
theorem dX12_termOf_142 : decode cX12_termOf 142 = .ok (.if_icmp .ne 11, 3) := o160p ac_cX12_termOf_128 14 0 11 rfl rfl
def kb_cX12_termOf_144 : List Nat := [11, 21, 6, 21, 7, 104, 167, 0, 8, 21, 6, 21, 7, 108, 79, 132, 4, 1, 167, 255]
theorem ac_cX12_termOf_144 : AL cX12_termOf 144 kb_cX12_termOf_144 := AL.of (m := 20) (by decide +kernel)
theorem dX12_termOf_145 : decode cX12_termOf 145 = .ok (.iload 6, 2) := o21 ac_cX12_termOf_144 1 6 rfl
theorem dX12_termOf_147 : decode cX12_termOf 147 = .ok (.iload 7, 2) := o21 ac_cX12_termOf_144 3 7 rfl
theorem dX12_termOf_149 : decode cX12_termOf 149 = .ok (.imul, 1) := o104 ac_cX12_termOf_144 5 rfl
theorem dX12_termOf_150 : decode cX12_termOf 150 = .ok (.goto 8, 3) := o167p ac_cX12_termOf_144 6 0 8 rfl rfl
theorem dX12_termOf_153 : decode cX12_termOf 153 = .ok (.iload 6, 2) := o21 ac_cX12_termOf_144 9 6 rfl
theorem dX12_termOf_155 : decode cX12_termOf 155 = .ok (.iload 7, 2) := o21 ac_cX12_termOf_144 11 7 rfl
theorem dX12_termOf_157 : decode cX12_termOf 157 = .ok (.idiv, 1) := o108 ac_cX12_termOf_144 13 rfl
theorem dX12_termOf_158 : decode cX12_termOf 158 = .ok (.iastore, 1) := o79 ac_cX12_termOf_144 14 rfl
theorem dX12_termOf_159 : decode cX12_termOf 159 = .ok (.iinc 4 1, 3) := o132p ac_cX12_termOf_144 15 4 1 rfl rfl
def kb_cX12_termOf_160 : List Nat := [4, 1, 167, 255, 99, 42, 180, 0, 104, 3, 46, 172]
theorem ac_cX12_termOf_160 : AL cX12_termOf 160 kb_cX12_termOf_160 := AL.of (m := 12) (by decide +kernel)
theorem dX12_termOf_162 : decode cX12_termOf 162 = .ok (.goto (-157), 3) := o167n ac_cX12_termOf_160 2 255 99 156 rfl rfl rfl
theorem dX12_termOf_165 : decode cX12_termOf 165 = .ok (.aload_n 0, 1) := o42 ac_cX12_termOf_160 5 rfl
theorem dX12_termOf_166 : decode cX12_termOf 166 = .ok (.getfield 104, 3) := o180 ac_cX12_termOf_160 6 0 104 rfl
theorem dX12_termOf_169 : decode cX12_termOf 169 = .ok (.iconst 0, 1) := o3 ac_cX12_termOf_160 9 rfl
theorem dX12_termOf_170 : decode cX12_termOf 170 = .ok (.iaload, 1) := o46 ac_cX12_termOf_160 10 rfl
theorem dX12_termOf_171 : decode cX12_termOf 171 = .ok (.ireturn, 1) := o172 ac_cX12_termOf_160 11 rfl
def kb_cX12_lawTells_0 : List Nat := [7, 42, 180, 0, 221, 104, 27, 96, 62, 42, 180, 0, 70, 29, 46, 42, 180, 0, 73, 29]
theorem ac_cX12_lawTells_0 : AL cX12_lawTells 0 kb_cX12_lawTells_0 := AL.of (m := 20) (by decide +kernel)
theorem dX12_lawTells_0 : decode cX12_lawTells 0 = .ok (.iconst 4, 1) := o7 ac_cX12_lawTells_0 0 rfl
theorem dX12_lawTells_1 : decode cX12_lawTells 1 = .ok (.aload_n 0, 1) := o42 ac_cX12_lawTells_0 1 rfl
theorem dX12_lawTells_2 : decode cX12_lawTells 2 = .ok (.getfield 221, 3) := o180 ac_cX12_lawTells_0 2 0 221 rfl
theorem dX12_lawTells_5 : decode cX12_lawTells 5 = .ok (.imul, 1) := o104 ac_cX12_lawTells_0 5 rfl
theorem dX12_lawTells_6 : decode cX12_lawTells 6 = .ok (.iload_n 1, 1) := o27 ac_cX12_lawTells_0 6 rfl
theorem dX12_lawTells_7 : decode cX12_lawTells 7 = .ok (.iadd, 1) := o96 ac_cX12_lawTells_0 7 rfl
theorem dX12_lawTells_8 : decode cX12_lawTells 8 = .ok (.istore_n 3, 1) := o62 ac_cX12_lawTells_0 8 rfl
theorem dX12_lawTells_9 : decode cX12_lawTells 9 = .ok (.aload_n 0, 1) := o42 ac_cX12_lawTells_0 9 rfl
theorem dX12_lawTells_10 : decode cX12_lawTells 10 = .ok (.getfield 70, 3) := o180 ac_cX12_lawTells_0 10 0 70 rfl
theorem dX12_lawTells_13 : decode cX12_lawTells 13 = .ok (.iload_n 3, 1) := o29 ac_cX12_lawTells_0 13 rfl
theorem dX12_lawTells_14 : decode cX12_lawTells 14 = .ok (.iaload, 1) := o46 ac_cX12_lawTells_0 14 rfl
theorem dX12_lawTells_15 : decode cX12_lawTells 15 = .ok (.aload_n 0, 1) := o42 ac_cX12_lawTells_0 15 rfl
def kb_cX12_lawTells_16 : List Nat := [180, 0, 73, 29, 46, 160, 0, 5, 28, 172, 42, 3, 181, 1, 41, 42, 180, 0, 70, 29]
theorem ac_cX12_lawTells_16 : AL cX12_lawTells 16 kb_cX12_lawTells_16 := AL.of (m := 20) (by decide +kernel)
theorem dX12_lawTells_16 : decode cX12_lawTells 16 = .ok (.getfield 73, 3) := o180 ac_cX12_lawTells_16 0 0 73 rfl
theorem dX12_lawTells_19 : decode cX12_lawTells 19 = .ok (.iload_n 3, 1) := o29 ac_cX12_lawTells_16 3 rfl
theorem dX12_lawTells_20 : decode cX12_lawTells 20 = .ok (.iaload, 1) := o46 ac_cX12_lawTells_16 4 rfl
theorem dX12_lawTells_21 : decode cX12_lawTells 21 = .ok (.if_icmp .ne 5, 3) := o160p ac_cX12_lawTells_16 5 0 5 rfl rfl
theorem dX12_lawTells_24 : decode cX12_lawTells 24 = .ok (.iload_n 2, 1) := o28 ac_cX12_lawTells_16 8 rfl
theorem dX12_lawTells_25 : decode cX12_lawTells 25 = .ok (.ireturn, 1) := o172 ac_cX12_lawTells_16 9 rfl
theorem dX12_lawTells_26 : decode cX12_lawTells 26 = .ok (.aload_n 0, 1) := o42 ac_cX12_lawTells_16 10 rfl
theorem dX12_lawTells_27 : decode cX12_lawTells 27 = .ok (.iconst 0, 1) := o3 ac_cX12_lawTells_16 11 rfl
theorem dX12_lawTells_28 : decode cX12_lawTells 28 = .ok (.putfield 297, 3) := o181 ac_cX12_lawTells_16 12 1 41 rfl
theorem dX12_lawTells_31 : decode cX12_lawTells 31 = .ok (.aload_n 0, 1) := o42 ac_cX12_lawTells_16 15 rfl
def kb_cX12_lawTells_32 : List Nat := [180, 0, 70, 29, 46, 54, 4, 21, 4, 42, 180, 0, 73, 29, 46, 162, 0, 112, 42, 180]
theorem ac_cX12_lawTells_32 : AL cX12_lawTells 32 kb_cX12_lawTells_32 := AL.of (m := 20) (by decide +kernel)
theorem dX12_lawTells_32 : decode cX12_lawTells 32 = .ok (.getfield 70, 3) := o180 ac_cX12_lawTells_32 0 0 70 rfl
theorem dX12_lawTells_35 : decode cX12_lawTells 35 = .ok (.iload_n 3, 1) := o29 ac_cX12_lawTells_32 3 rfl
theorem dX12_lawTells_36 : decode cX12_lawTells 36 = .ok (.iaload, 1) := o46 ac_cX12_lawTells_32 4 rfl
theorem dX12_lawTells_37 : decode cX12_lawTells 37 = .ok (.istore 4, 2) := o54 ac_cX12_lawTells_32 5 4 rfl
theorem dX12_lawTells_39 : decode cX12_lawTells 39 = .ok (.iload 4, 2) := o21 ac_cX12_lawTells_32 7 4 rfl
theorem dX12_lawTells_41 : decode cX12_lawTells 41 = .ok (.aload_n 0, 1) := o42 ac_cX12_lawTells_32 9 rfl
theorem dX12_lawTells_42 : decode cX12_lawTells 42 = .ok (.getfield 73, 3) := o180 ac_cX12_lawTells_32 10 0 73 rfl
theorem dX12_lawTells_45 : decode cX12_lawTells 45 = .ok (.iload_n 3, 1) := o29 ac_cX12_lawTells_32 13 rfl
theorem dX12_lawTells_46 : decode cX12_lawTells 46 = .ok (.iaload, 1) := o46 ac_cX12_lawTells_32 14 rfl
theorem dX12_lawTells_47 : decode cX12_lawTells 47 = .ok (.if_icmp .ge 112, 3) := o162p ac_cX12_lawTells_32 15 0 112 rfl rfl
def kb_cX12_lawTells_48 : List Nat := [0, 112, 42, 180, 0, 76, 21, 4, 51, 153, 0, 62, 42, 42, 180, 0, 80, 21, 4, 46]
theorem ac_cX12_lawTells_48 : AL cX12_lawTells 48 kb_cX12_lawTells_48 := AL.of (m := 20) (by decide +kernel)
theorem dX12_lawTells_50 : decode cX12_lawTells 50 = .ok (.aload_n 0, 1) := o42 ac_cX12_lawTells_48 2 rfl
theorem dX12_lawTells_51 : decode cX12_lawTells 51 = .ok (.getfield 76, 3) := o180 ac_cX12_lawTells_48 3 0 76 rfl
theorem dX12_lawTells_54 : decode cX12_lawTells 54 = .ok (.iload 4, 2) := o21 ac_cX12_lawTells_48 6 4 rfl
theorem dX12_lawTells_56 : decode cX12_lawTells 56 = .ok (.baload, 1) := o51 ac_cX12_lawTells_48 8 rfl
theorem dX12_lawTells_57 : decode cX12_lawTells 57 = .ok (.ifCond .eq 62, 3) := o153p ac_cX12_lawTells_48 9 0 62 rfl rfl
theorem dX12_lawTells_60 : decode cX12_lawTells 60 = .ok (.aload_n 0, 1) := o42 ac_cX12_lawTells_48 12 rfl
theorem dX12_lawTells_61 : decode cX12_lawTells 61 = .ok (.aload_n 0, 1) := o42 ac_cX12_lawTells_48 13 rfl
theorem dX12_lawTells_62 : decode cX12_lawTells 62 = .ok (.getfield 80, 3) := o180 ac_cX12_lawTells_48 14 0 80 rfl
def kb_cX12_lawTells_64 : List Nat := [80, 21, 4, 46, 42, 180, 0, 83, 21, 4, 46, 182, 1, 72, 54, 5, 42, 42, 180, 0]
theorem ac_cX12_lawTells_64 : AL cX12_lawTells 64 kb_cX12_lawTells_64 := AL.of (m := 20) (by decide +kernel)
theorem dX12_lawTells_65 : decode cX12_lawTells 65 = .ok (.iload 4, 2) := o21 ac_cX12_lawTells_64 1 4 rfl
theorem dX12_lawTells_67 : decode cX12_lawTells 67 = .ok (.iaload, 1) := o46 ac_cX12_lawTells_64 3 rfl
theorem dX12_lawTells_68 : decode cX12_lawTells 68 = .ok (.aload_n 0, 1) := o42 ac_cX12_lawTells_64 4 rfl
theorem dX12_lawTells_69 : decode cX12_lawTells 69 = .ok (.getfield 83, 3) := o180 ac_cX12_lawTells_64 5 0 83 rfl
theorem dX12_lawTells_72 : decode cX12_lawTells 72 = .ok (.iload 4, 2) := o21 ac_cX12_lawTells_64 8 4 rfl
theorem dX12_lawTells_74 : decode cX12_lawTells 74 = .ok (.iaload, 1) := o46 ac_cX12_lawTells_64 10 rfl
theorem dX12_lawTells_75 : decode cX12_lawTells 75 = .ok (.invokevirtual 328, 3) := o182 ac_cX12_lawTells_64 11 1 72 rfl
theorem dX12_lawTells_78 : decode cX12_lawTells 78 = .ok (.istore 5, 2) := o54 ac_cX12_lawTells_64 14 5 rfl
def kb_cX12_lawTells_80 : List Nat := [42, 42, 180, 0, 83, 21, 4, 46, 42, 180, 0, 86, 21, 4, 46, 182, 1, 72, 54, 6]
theorem ac_cX12_lawTells_80 : AL cX12_lawTells 80 kb_cX12_lawTells_80 := AL.of (m := 20) (by decide +kernel)
theorem dX12_lawTells_80 : decode cX12_lawTells 80 = .ok (.aload_n 0, 1) := o42 ac_cX12_lawTells_80 0 rfl
theorem dX12_lawTells_81 : decode cX12_lawTells 81 = .ok (.aload_n 0, 1) := o42 ac_cX12_lawTells_80 1 rfl
theorem dX12_lawTells_82 : decode cX12_lawTells 82 = .ok (.getfield 83, 3) := o180 ac_cX12_lawTells_80 2 0 83 rfl
theorem dX12_lawTells_85 : decode cX12_lawTells 85 = .ok (.iload 4, 2) := o21 ac_cX12_lawTells_80 5 4 rfl
theorem dX12_lawTells_87 : decode cX12_lawTells 87 = .ok (.iaload, 1) := o46 ac_cX12_lawTells_80 7 rfl
theorem dX12_lawTells_88 : decode cX12_lawTells 88 = .ok (.aload_n 0, 1) := o42 ac_cX12_lawTells_80 8 rfl
theorem dX12_lawTells_89 : decode cX12_lawTells 89 = .ok (.getfield 86, 3) := o180 ac_cX12_lawTells_80 9 0 86 rfl
theorem dX12_lawTells_92 : decode cX12_lawTells 92 = .ok (.iload 4, 2) := o21 ac_cX12_lawTells_80 12 4 rfl
theorem dX12_lawTells_94 : decode cX12_lawTells 94 = .ok (.iaload, 1) := o46 ac_cX12_lawTells_80 14 rfl
theorem dX12_lawTells_95 : decode cX12_lawTells 95 = .ok (.invokevirtual 328, 3) := o182 ac_cX12_lawTells_80 15 1 72 rfl
def kb_cX12_lawTells_96 : List Nat := [1, 72, 54, 6, 42, 180, 1, 41, 153, 0, 5, 3, 172, 21, 5, 21, 6, 161, 0, 6]
theorem ac_cX12_lawTells_96 : AL cX12_lawTells 96 kb_cX12_lawTells_96 := AL.of (m := 20) (by decide +kernel)
theorem dX12_lawTells_98 : decode cX12_lawTells 98 = .ok (.istore 6, 2) := o54 ac_cX12_lawTells_96 2 6 rfl
theorem dX12_lawTells_100 : decode cX12_lawTells 100 = .ok (.aload_n 0, 1) := o42 ac_cX12_lawTells_96 4 rfl
theorem dX12_lawTells_101 : decode cX12_lawTells 101 = .ok (.getfield 297, 3) := o180 ac_cX12_lawTells_96 5 1 41 rfl
theorem dX12_lawTells_104 : decode cX12_lawTells 104 = .ok (.ifCond .eq 5, 3) := o153p ac_cX12_lawTells_96 8 0 5 rfl rfl
theorem dX12_lawTells_107 : decode cX12_lawTells 107 = .ok (.iconst 0, 1) := o3 ac_cX12_lawTells_96 11 rfl
theorem dX12_lawTells_108 : decode cX12_lawTells 108 = .ok (.ireturn, 1) := o172 ac_cX12_lawTells_96 12 rfl
theorem dX12_lawTells_109 : decode cX12_lawTells 109 = .ok (.iload 5, 2) := o21 ac_cX12_lawTells_96 13 5 rfl
theorem dX12_lawTells_111 : decode cX12_lawTells 111 = .ok (.iload 6, 2) := o21 ac_cX12_lawTells_96 15 6 rfl
def kb_cX12_lawTells_112 : List Nat := [6, 161, 0, 6, 167, 0, 37, 42, 42, 180, 0, 86, 21, 4, 46, 42, 180, 0, 89, 21]
theorem ac_cX12_lawTells_112 : AL cX12_lawTells 112 kb_cX12_lawTells_112 := AL.of (m := 20) (by decide +kernel)
theorem dX12_lawTells_113 : decode cX12_lawTells 113 = .ok (.if_icmp .lt 6, 3) := o161p ac_cX12_lawTells_112 1 0 6 rfl rfl
theorem dX12_lawTells_116 : decode cX12_lawTells 116 = .ok (.goto 37, 3) := o167p ac_cX12_lawTells_112 4 0 37 rfl rfl
theorem dX12_lawTells_119 : decode cX12_lawTells 119 = .ok (.aload_n 0, 1) := o42 ac_cX12_lawTells_112 7 rfl
theorem dX12_lawTells_120 : decode cX12_lawTells 120 = .ok (.aload_n 0, 1) := o42 ac_cX12_lawTells_112 8 rfl
theorem dX12_lawTells_121 : decode cX12_lawTells 121 = .ok (.getfield 86, 3) := o180 ac_cX12_lawTells_112 9 0 86 rfl
theorem dX12_lawTells_124 : decode cX12_lawTells 124 = .ok (.iload 4, 2) := o21 ac_cX12_lawTells_112 12 4 rfl
theorem dX12_lawTells_126 : decode cX12_lawTells 126 = .ok (.iaload, 1) := o46 ac_cX12_lawTells_112 14 rfl
theorem dX12_lawTells_127 : decode cX12_lawTells 127 = .ok (.aload_n 0, 1) := o42 ac_cX12_lawTells_112 15 rfl
def kb_cX12_lawTells_128 : List Nat := [180, 0, 89, 21, 4, 46, 182, 1, 72, 54, 5, 42, 180, 1, 41, 153, 0, 7, 3, 167]
theorem ac_cX12_lawTells_128 : AL cX12_lawTells 128 kb_cX12_lawTells_128 := AL.of (m := 20) (by decide +kernel)
theorem dX12_lawTells_128 : decode cX12_lawTells 128 = .ok (.getfield 89, 3) := o180 ac_cX12_lawTells_128 0 0 89 rfl
theorem dX12_lawTells_131 : decode cX12_lawTells 131 = .ok (.iload 4, 2) := o21 ac_cX12_lawTells_128 3 4 rfl
theorem dX12_lawTells_133 : decode cX12_lawTells 133 = .ok (.iaload, 1) := o46 ac_cX12_lawTells_128 5 rfl
theorem dX12_lawTells_134 : decode cX12_lawTells 134 = .ok (.invokevirtual 328, 3) := o182 ac_cX12_lawTells_128 6 1 72 rfl
theorem dX12_lawTells_137 : decode cX12_lawTells 137 = .ok (.istore 5, 2) := o54 ac_cX12_lawTells_128 9 5 rfl
theorem dX12_lawTells_139 : decode cX12_lawTells 139 = .ok (.aload_n 0, 1) := o42 ac_cX12_lawTells_128 11 rfl
theorem dX12_lawTells_140 : decode cX12_lawTells 140 = .ok (.getfield 297, 3) := o180 ac_cX12_lawTells_128 12 1 41 rfl
theorem dX12_lawTells_143 : decode cX12_lawTells 143 = .ok (.ifCond .eq 7, 3) := o153p ac_cX12_lawTells_128 15 0 7 rfl rfl
def kb_cX12_lawTells_144 : List Nat := [0, 7, 3, 167, 0, 5, 21, 5, 172, 132, 4, 1, 167, 255, 139, 3, 172]
theorem ac_cX12_lawTells_144 : AL cX12_lawTells 144 kb_cX12_lawTells_144 := AL.of (m := 17) (by decide +kernel)
theorem dX12_lawTells_146 : decode cX12_lawTells 146 = .ok (.iconst 0, 1) := o3 ac_cX12_lawTells_144 2 rfl
theorem dX12_lawTells_147 : decode cX12_lawTells 147 = .ok (.goto 5, 3) := o167p ac_cX12_lawTells_144 3 0 5 rfl rfl
theorem dX12_lawTells_150 : decode cX12_lawTells 150 = .ok (.iload 5, 2) := o21 ac_cX12_lawTells_144 6 5 rfl
theorem dX12_lawTells_152 : decode cX12_lawTells 152 = .ok (.ireturn, 1) := o172 ac_cX12_lawTells_144 8 rfl
theorem dX12_lawTells_153 : decode cX12_lawTells 153 = .ok (.iinc 4 1, 3) := o132p ac_cX12_lawTells_144 9 4 1 rfl rfl
theorem dX12_lawTells_156 : decode cX12_lawTells 156 = .ok (.goto (-117), 3) := o167n ac_cX12_lawTells_144 12 255 139 116 rfl rfl rfl
theorem dX12_lawTells_159 : decode cX12_lawTells 159 = .ok (.iconst 0, 1) := o3 ac_cX12_lawTells_144 15 rfl
def kb_cX12_lawTells_160 : List Nat := [172]
theorem ac_cX12_lawTells_160 : AL cX12_lawTells 160 kb_cX12_lawTells_160 := AL.of (m := 1) (by decide +kernel)
theorem dX12_lawTells_160 : decode cX12_lawTells 160 = .ok (.ireturn, 1) := o172 ac_cX12_lawTells_160 0 rfl
def kb_cX12_tiresBy_0 : List Nat := [42, 27, 28, 29, 182, 1, 75, 42, 3, 3, 182, 1, 79, 3, 16, 99, 184, 1, 82, 172]
theorem ac_cX12_tiresBy_0 : AL cX12_tiresBy 0 kb_cX12_tiresBy_0 := AL.of (m := 20) (by decide +kernel)
theorem dX12_tiresBy_0 : decode cX12_tiresBy 0 = .ok (.aload_n 0, 1) := o42 ac_cX12_tiresBy_0 0 rfl
theorem dX12_tiresBy_1 : decode cX12_tiresBy 1 = .ok (.iload_n 1, 1) := o27 ac_cX12_tiresBy_0 1 rfl
theorem dX12_tiresBy_2 : decode cX12_tiresBy 2 = .ok (.iload_n 2, 1) := o28 ac_cX12_tiresBy_0 2 rfl
theorem dX12_tiresBy_3 : decode cX12_tiresBy 3 = .ok (.iload_n 3, 1) := o29 ac_cX12_tiresBy_0 3 rfl
theorem dX12_tiresBy_4 : decode cX12_tiresBy 4 = .ok (.invokevirtual 331, 3) := o182 ac_cX12_tiresBy_0 4 1 75 rfl
theorem dX12_tiresBy_7 : decode cX12_tiresBy 7 = .ok (.aload_n 0, 1) := o42 ac_cX12_tiresBy_0 7 rfl
theorem dX12_tiresBy_8 : decode cX12_tiresBy 8 = .ok (.iconst 0, 1) := o3 ac_cX12_tiresBy_0 8 rfl
theorem dX12_tiresBy_9 : decode cX12_tiresBy 9 = .ok (.iconst 0, 1) := o3 ac_cX12_tiresBy_0 9 rfl
theorem dX12_tiresBy_10 : decode cX12_tiresBy 10 = .ok (.invokevirtual 335, 3) := o182 ac_cX12_tiresBy_0 10 1 79 rfl
theorem dX12_tiresBy_13 : decode cX12_tiresBy 13 = .ok (.iconst 0, 1) := o3 ac_cX12_tiresBy_0 13 rfl
theorem dX12_tiresBy_14 : decode cX12_tiresBy 14 = .ok (.bipush 99, 2) := o16p ac_cX12_tiresBy_0 14 99 rfl rfl
def kb_cX12_tiresBy_16 : List Nat := [184, 1, 82, 172]
theorem ac_cX12_tiresBy_16 : AL cX12_tiresBy 16 kb_cX12_tiresBy_16 := AL.of (m := 4) (by decide +kernel)
theorem dX12_tiresBy_16 : decode cX12_tiresBy 16 = .ok (.invokestatic 338, 3) := o184 ac_cX12_tiresBy_16 0 1 82 rfl
theorem dX12_tiresBy_19 : decode cX12_tiresBy 19 = .ok (.ireturn, 1) := o172 ac_cX12_tiresBy_16 3 rfl
def kb_cX12_dropsBy_0 : List Nat := [42, 27, 28, 29, 182, 1, 75, 42, 4, 3, 182, 1, 79, 3, 16, 100, 184, 1, 82, 172]
theorem ac_cX12_dropsBy_0 : AL cX12_dropsBy 0 kb_cX12_dropsBy_0 := AL.of (m := 20) (by decide +kernel)
theorem dX12_dropsBy_0 : decode cX12_dropsBy 0 = .ok (.aload_n 0, 1) := o42 ac_cX12_dropsBy_0 0 rfl
theorem dX12_dropsBy_1 : decode cX12_dropsBy 1 = .ok (.iload_n 1, 1) := o27 ac_cX12_dropsBy_0 1 rfl
theorem dX12_dropsBy_2 : decode cX12_dropsBy 2 = .ok (.iload_n 2, 1) := o28 ac_cX12_dropsBy_0 2 rfl
theorem dX12_dropsBy_3 : decode cX12_dropsBy 3 = .ok (.iload_n 3, 1) := o29 ac_cX12_dropsBy_0 3 rfl
theorem dX12_dropsBy_4 : decode cX12_dropsBy 4 = .ok (.invokevirtual 331, 3) := o182 ac_cX12_dropsBy_0 4 1 75 rfl
theorem dX12_dropsBy_7 : decode cX12_dropsBy 7 = .ok (.aload_n 0, 1) := o42 ac_cX12_dropsBy_0 7 rfl
theorem dX12_dropsBy_8 : decode cX12_dropsBy 8 = .ok (.iconst 1, 1) := o4 ac_cX12_dropsBy_0 8 rfl
theorem dX12_dropsBy_9 : decode cX12_dropsBy 9 = .ok (.iconst 0, 1) := o3 ac_cX12_dropsBy_0 9 rfl
theorem dX12_dropsBy_10 : decode cX12_dropsBy 10 = .ok (.invokevirtual 335, 3) := o182 ac_cX12_dropsBy_0 10 1 79 rfl
theorem dX12_dropsBy_13 : decode cX12_dropsBy 13 = .ok (.iconst 0, 1) := o3 ac_cX12_dropsBy_0 13 rfl
theorem dX12_dropsBy_14 : decode cX12_dropsBy 14 = .ok (.bipush 100, 2) := o16p ac_cX12_dropsBy_0 14 100 rfl rfl
def kb_cX12_dropsBy_16 : List Nat := [184, 1, 82, 172]
theorem ac_cX12_dropsBy_16 : AL cX12_dropsBy 16 kb_cX12_dropsBy_16 := AL.of (m := 4) (by decide +kernel)
theorem dX12_dropsBy_16 : decode cX12_dropsBy 16 = .ok (.invokestatic 338, 3) := o184 ac_cX12_dropsBy_16 0 1 82 rfl
theorem dX12_dropsBy_19 : decode cX12_dropsBy 19 = .ok (.ireturn, 1) := o172 ac_cX12_dropsBy_16 3 rfl
def kb_cX12_forceOf_0 : List Nat := [42, 27, 3, 28, 182, 1, 75, 42, 5, 42, 180, 0, 101, 4, 46, 182, 1, 79, 16, 157]
theorem ac_cX12_forceOf_0 : AL cX12_forceOf 0 kb_cX12_forceOf_0 := AL.of (m := 20) (by decide +kernel)
theorem dX12_forceOf_0 : decode cX12_forceOf 0 = .ok (.aload_n 0, 1) := o42 ac_cX12_forceOf_0 0 rfl
theorem dX12_forceOf_1 : decode cX12_forceOf 1 = .ok (.iload_n 1, 1) := o27 ac_cX12_forceOf_0 1 rfl
theorem dX12_forceOf_2 : decode cX12_forceOf 2 = .ok (.iconst 0, 1) := o3 ac_cX12_forceOf_0 2 rfl
theorem dX12_forceOf_3 : decode cX12_forceOf 3 = .ok (.iload_n 2, 1) := o28 ac_cX12_forceOf_0 3 rfl
theorem dX12_forceOf_4 : decode cX12_forceOf 4 = .ok (.invokevirtual 331, 3) := o182 ac_cX12_forceOf_0 4 1 75 rfl
theorem dX12_forceOf_7 : decode cX12_forceOf 7 = .ok (.aload_n 0, 1) := o42 ac_cX12_forceOf_0 7 rfl
theorem dX12_forceOf_8 : decode cX12_forceOf 8 = .ok (.iconst 2, 1) := o5 ac_cX12_forceOf_0 8 rfl
theorem dX12_forceOf_9 : decode cX12_forceOf 9 = .ok (.aload_n 0, 1) := o42 ac_cX12_forceOf_0 9 rfl
theorem dX12_forceOf_10 : decode cX12_forceOf 10 = .ok (.getfield 101, 3) := o180 ac_cX12_forceOf_0 10 0 101 rfl
theorem dX12_forceOf_13 : decode cX12_forceOf 13 = .ok (.iconst 1, 1) := o4 ac_cX12_forceOf_0 13 rfl
theorem dX12_forceOf_14 : decode cX12_forceOf 14 = .ok (.iaload, 1) := o46 ac_cX12_forceOf_0 14 rfl
theorem dX12_forceOf_15 : decode cX12_forceOf 15 = .ok (.invokevirtual 335, 3) := o182 ac_cX12_forceOf_0 15 1 79 rfl
def kb_cX12_forceOf_16 : List Nat := [1, 79, 16, 157, 16, 99, 184, 1, 82, 172]
theorem ac_cX12_forceOf_16 : AL cX12_forceOf 16 kb_cX12_forceOf_16 := AL.of (m := 10) (by decide +kernel)
theorem dX12_forceOf_18 : decode cX12_forceOf 18 = .ok (.bipush (-99), 2) := o16n ac_cX12_forceOf_16 2 157 98 rfl rfl rfl
theorem dX12_forceOf_20 : decode cX12_forceOf 20 = .ok (.bipush 99, 2) := o16p ac_cX12_forceOf_16 4 99 rfl rfl
theorem dX12_forceOf_22 : decode cX12_forceOf 22 = .ok (.invokestatic 338, 3) := o184 ac_cX12_forceOf_16 6 1 82 rfl
theorem dX12_forceOf_25 : decode cX12_forceOf 25 = .ok (.ireturn, 1) := o172 ac_cX12_forceOf_16 9 rfl
def kb_cX12_paysOf_0 : List Nat := [42, 27, 3, 28, 182, 1, 75, 42, 6, 3, 182, 1, 79, 3, 16, 99, 184, 1, 82, 172]
theorem ac_cX12_paysOf_0 : AL cX12_paysOf 0 kb_cX12_paysOf_0 := AL.of (m := 20) (by decide +kernel)
theorem dX12_paysOf_0 : decode cX12_paysOf 0 = .ok (.aload_n 0, 1) := o42 ac_cX12_paysOf_0 0 rfl
theorem dX12_paysOf_1 : decode cX12_paysOf 1 = .ok (.iload_n 1, 1) := o27 ac_cX12_paysOf_0 1 rfl
theorem dX12_paysOf_2 : decode cX12_paysOf 2 = .ok (.iconst 0, 1) := o3 ac_cX12_paysOf_0 2 rfl
theorem dX12_paysOf_3 : decode cX12_paysOf 3 = .ok (.iload_n 2, 1) := o28 ac_cX12_paysOf_0 3 rfl
theorem dX12_paysOf_4 : decode cX12_paysOf 4 = .ok (.invokevirtual 331, 3) := o182 ac_cX12_paysOf_0 4 1 75 rfl
theorem dX12_paysOf_7 : decode cX12_paysOf 7 = .ok (.aload_n 0, 1) := o42 ac_cX12_paysOf_0 7 rfl
theorem dX12_paysOf_8 : decode cX12_paysOf 8 = .ok (.iconst 3, 1) := o6 ac_cX12_paysOf_0 8 rfl
theorem dX12_paysOf_9 : decode cX12_paysOf 9 = .ok (.iconst 0, 1) := o3 ac_cX12_paysOf_0 9 rfl
theorem dX12_paysOf_10 : decode cX12_paysOf 10 = .ok (.invokevirtual 335, 3) := o182 ac_cX12_paysOf_0 10 1 79 rfl
theorem dX12_paysOf_13 : decode cX12_paysOf 13 = .ok (.iconst 0, 1) := o3 ac_cX12_paysOf_0 13 rfl
theorem dX12_paysOf_14 : decode cX12_paysOf 14 = .ok (.bipush 99, 2) := o16p ac_cX12_paysOf_0 14 99 rfl rfl
def kb_cX12_paysOf_16 : List Nat := [184, 1, 82, 172]
theorem ac_cX12_paysOf_16 : AL cX12_paysOf 16 kb_cX12_paysOf_16 := AL.of (m := 4) (by decide +kernel)
theorem dX12_paysOf_16 : decode cX12_paysOf 16 = .ok (.invokestatic 338, 3) := o184 ac_cX12_paysOf_16 0 1 82 rfl
theorem dX12_paysOf_19 : decode cX12_paysOf 19 = .ok (.ireturn, 1) := o172 ac_cX12_paysOf_16 3 rfl
def kb_cX12_dropsOthers_0 : List Nat := [3, 60, 27, 42, 180, 0, 43, 42, 180, 0, 221, 46, 162, 0, 52, 27, 42, 180, 1, 85]
theorem ac_cX12_dropsOthers_0 : AL cX12_dropsOthers 0 kb_cX12_dropsOthers_0 := AL.of (m := 20) (by decide +kernel)
theorem dX12_dropsOthers_0 : decode cX12_dropsOthers 0 = .ok (.iconst 0, 1) := o3 ac_cX12_dropsOthers_0 0 rfl
theorem dX12_dropsOthers_1 : decode cX12_dropsOthers 1 = .ok (.istore_n 1, 1) := o60 ac_cX12_dropsOthers_0 1 rfl
theorem dX12_dropsOthers_2 : decode cX12_dropsOthers 2 = .ok (.iload_n 1, 1) := o27 ac_cX12_dropsOthers_0 2 rfl
theorem dX12_dropsOthers_3 : decode cX12_dropsOthers 3 = .ok (.aload_n 0, 1) := o42 ac_cX12_dropsOthers_0 3 rfl
theorem dX12_dropsOthers_4 : decode cX12_dropsOthers 4 = .ok (.getfield 43, 3) := o180 ac_cX12_dropsOthers_0 4 0 43 rfl
theorem dX12_dropsOthers_7 : decode cX12_dropsOthers 7 = .ok (.aload_n 0, 1) := o42 ac_cX12_dropsOthers_0 7 rfl
theorem dX12_dropsOthers_8 : decode cX12_dropsOthers 8 = .ok (.getfield 221, 3) := o180 ac_cX12_dropsOthers_0 8 0 221 rfl
theorem dX12_dropsOthers_11 : decode cX12_dropsOthers 11 = .ok (.iaload, 1) := o46 ac_cX12_dropsOthers_0 11 rfl
theorem dX12_dropsOthers_12 : decode cX12_dropsOthers 12 = .ok (.if_icmp .ge 52, 3) := o162p ac_cX12_dropsOthers_0 12 0 52 rfl rfl
theorem dX12_dropsOthers_15 : decode cX12_dropsOthers 15 = .ok (.iload_n 1, 1) := o27 ac_cX12_dropsOthers_0 15 rfl
def kb_cX12_dropsOthers_16 : List Nat := [42, 180, 1, 85, 159, 0, 38, 42, 27, 3, 182, 1, 68, 154, 0, 6, 167, 0, 26, 42]
theorem ac_cX12_dropsOthers_16 : AL cX12_dropsOthers 16 kb_cX12_dropsOthers_16 := AL.of (m := 20) (by decide +kernel)
theorem dX12_dropsOthers_16 : decode cX12_dropsOthers 16 = .ok (.aload_n 0, 1) := o42 ac_cX12_dropsOthers_16 0 rfl
theorem dX12_dropsOthers_17 : decode cX12_dropsOthers 17 = .ok (.getfield 341, 3) := o180 ac_cX12_dropsOthers_16 1 1 85 rfl
theorem dX12_dropsOthers_20 : decode cX12_dropsOthers 20 = .ok (.if_icmp .eq 38, 3) := o159p ac_cX12_dropsOthers_16 4 0 38 rfl rfl
theorem dX12_dropsOthers_23 : decode cX12_dropsOthers 23 = .ok (.aload_n 0, 1) := o42 ac_cX12_dropsOthers_16 7 rfl
theorem dX12_dropsOthers_24 : decode cX12_dropsOthers 24 = .ok (.iload_n 1, 1) := o27 ac_cX12_dropsOthers_16 8 rfl
theorem dX12_dropsOthers_25 : decode cX12_dropsOthers 25 = .ok (.iconst 0, 1) := o3 ac_cX12_dropsOthers_16 9 rfl
theorem dX12_dropsOthers_26 : decode cX12_dropsOthers 26 = .ok (.invokevirtual 324, 3) := o182 ac_cX12_dropsOthers_16 10 1 68 rfl
theorem dX12_dropsOthers_29 : decode cX12_dropsOthers 29 = .ok (.ifCond .ne 6, 3) := o154p ac_cX12_dropsOthers_16 13 0 6 rfl rfl
def kb_cX12_dropsOthers_32 : List Nat := [167, 0, 26, 42, 180, 0, 110, 27, 5, 79, 42, 180, 0, 110, 16, 23, 92, 46, 4, 96]
theorem ac_cX12_dropsOthers_32 : AL cX12_dropsOthers 32 kb_cX12_dropsOthers_32 := AL.of (m := 20) (by decide +kernel)
theorem dX12_dropsOthers_32 : decode cX12_dropsOthers 32 = .ok (.goto 26, 3) := o167p ac_cX12_dropsOthers_32 0 0 26 rfl rfl
theorem dX12_dropsOthers_35 : decode cX12_dropsOthers 35 = .ok (.aload_n 0, 1) := o42 ac_cX12_dropsOthers_32 3 rfl
theorem dX12_dropsOthers_36 : decode cX12_dropsOthers 36 = .ok (.getfield 110, 3) := o180 ac_cX12_dropsOthers_32 4 0 110 rfl
theorem dX12_dropsOthers_39 : decode cX12_dropsOthers 39 = .ok (.iload_n 1, 1) := o27 ac_cX12_dropsOthers_32 7 rfl
theorem dX12_dropsOthers_40 : decode cX12_dropsOthers 40 = .ok (.iconst 2, 1) := o5 ac_cX12_dropsOthers_32 8 rfl
theorem dX12_dropsOthers_41 : decode cX12_dropsOthers 41 = .ok (.iastore, 1) := o79 ac_cX12_dropsOthers_32 9 rfl
theorem dX12_dropsOthers_42 : decode cX12_dropsOthers 42 = .ok (.aload_n 0, 1) := o42 ac_cX12_dropsOthers_32 10 rfl
theorem dX12_dropsOthers_43 : decode cX12_dropsOthers 43 = .ok (.getfield 110, 3) := o180 ac_cX12_dropsOthers_32 11 0 110 rfl
theorem dX12_dropsOthers_46 : decode cX12_dropsOthers 46 = .ok (.bipush 23, 2) := o16p ac_cX12_dropsOthers_32 14 23 rfl rfl
def kb_cX12_dropsOthers_48 : List Nat := [92, 46, 4, 96, 79, 42, 4, 181, 1, 88, 132, 1, 1, 167, 255, 197, 177]
theorem ac_cX12_dropsOthers_48 : AL cX12_dropsOthers 48 kb_cX12_dropsOthers_48 := AL.of (m := 17) (by decide +kernel)
theorem dX12_dropsOthers_48 : decode cX12_dropsOthers 48 = .ok (.dup2, 1) := o92 ac_cX12_dropsOthers_48 0 rfl
theorem dX12_dropsOthers_49 : decode cX12_dropsOthers 49 = .ok (.iaload, 1) := o46 ac_cX12_dropsOthers_48 1 rfl
theorem dX12_dropsOthers_50 : decode cX12_dropsOthers 50 = .ok (.iconst 1, 1) := o4 ac_cX12_dropsOthers_48 2 rfl
theorem dX12_dropsOthers_51 : decode cX12_dropsOthers 51 = .ok (.iadd, 1) := o96 ac_cX12_dropsOthers_48 3 rfl
theorem dX12_dropsOthers_52 : decode cX12_dropsOthers 52 = .ok (.iastore, 1) := o79 ac_cX12_dropsOthers_48 4 rfl
theorem dX12_dropsOthers_53 : decode cX12_dropsOthers 53 = .ok (.aload_n 0, 1) := o42 ac_cX12_dropsOthers_48 5 rfl
theorem dX12_dropsOthers_54 : decode cX12_dropsOthers 54 = .ok (.iconst 1, 1) := o4 ac_cX12_dropsOthers_48 6 rfl
theorem dX12_dropsOthers_55 : decode cX12_dropsOthers 55 = .ok (.putfield 344, 3) := o181 ac_cX12_dropsOthers_48 7 1 88 rfl
theorem dX12_dropsOthers_58 : decode cX12_dropsOthers 58 = .ok (.iinc 1 1, 3) := o132p ac_cX12_dropsOthers_48 10 1 1 rfl rfl
theorem dX12_dropsOthers_61 : decode cX12_dropsOthers 61 = .ok (.goto (-59), 3) := o167n ac_cX12_dropsOthers_48 13 255 197 58 rfl rfl rfl
def kb_cX12_dropsOthers_64 : List Nat := [177]
theorem ac_cX12_dropsOthers_64 : AL cX12_dropsOthers 64 kb_cX12_dropsOthers_64 := AL.of (m := 1) (by decide +kernel)
theorem dX12_dropsOthers_64 : decode cX12_dropsOthers 64 = .ok (.return_, 1) := o177 ac_cX12_dropsOthers_64 0 rfl
def kb_cX12_isThrown_0 : List Nat := [42, 180, 0, 110, 16, 25, 92, 46, 21, 4, 96, 79, 42, 180, 0, 110, 16, 24, 92, 46]
theorem ac_cX12_isThrown_0 : AL cX12_isThrown 0 kb_cX12_isThrown_0 := AL.of (m := 20) (by decide +kernel)
theorem dX12_isThrown_0 : decode cX12_isThrown 0 = .ok (.aload_n 0, 1) := o42 ac_cX12_isThrown_0 0 rfl
theorem dX12_isThrown_1 : decode cX12_isThrown 1 = .ok (.getfield 110, 3) := o180 ac_cX12_isThrown_0 1 0 110 rfl
theorem dX12_isThrown_4 : decode cX12_isThrown 4 = .ok (.bipush 25, 2) := o16p ac_cX12_isThrown_0 4 25 rfl rfl
theorem dX12_isThrown_6 : decode cX12_isThrown 6 = .ok (.dup2, 1) := o92 ac_cX12_isThrown_0 6 rfl
theorem dX12_isThrown_7 : decode cX12_isThrown 7 = .ok (.iaload, 1) := o46 ac_cX12_isThrown_0 7 rfl
theorem dX12_isThrown_8 : decode cX12_isThrown 8 = .ok (.iload 4, 2) := o21 ac_cX12_isThrown_0 8 4 rfl
theorem dX12_isThrown_10 : decode cX12_isThrown 10 = .ok (.iadd, 1) := o96 ac_cX12_isThrown_0 10 rfl
theorem dX12_isThrown_11 : decode cX12_isThrown 11 = .ok (.iastore, 1) := o79 ac_cX12_isThrown_0 11 rfl
theorem dX12_isThrown_12 : decode cX12_isThrown 12 = .ok (.aload_n 0, 1) := o42 ac_cX12_isThrown_0 12 rfl
theorem dX12_isThrown_13 : decode cX12_isThrown 13 = .ok (.getfield 110, 3) := o180 ac_cX12_isThrown_0 13 0 110 rfl
def kb_cX12_isThrown_16 : List Nat := [16, 24, 92, 46, 4, 96, 79, 42, 180, 0, 110, 16, 14, 27, 96, 92, 46, 4, 96, 79]
theorem ac_cX12_isThrown_16 : AL cX12_isThrown 16 kb_cX12_isThrown_16 := AL.of (m := 20) (by decide +kernel)
theorem dX12_isThrown_16 : decode cX12_isThrown 16 = .ok (.bipush 24, 2) := o16p ac_cX12_isThrown_16 0 24 rfl rfl
theorem dX12_isThrown_18 : decode cX12_isThrown 18 = .ok (.dup2, 1) := o92 ac_cX12_isThrown_16 2 rfl
theorem dX12_isThrown_19 : decode cX12_isThrown 19 = .ok (.iaload, 1) := o46 ac_cX12_isThrown_16 3 rfl
theorem dX12_isThrown_20 : decode cX12_isThrown 20 = .ok (.iconst 1, 1) := o4 ac_cX12_isThrown_16 4 rfl
theorem dX12_isThrown_21 : decode cX12_isThrown 21 = .ok (.iadd, 1) := o96 ac_cX12_isThrown_16 5 rfl
theorem dX12_isThrown_22 : decode cX12_isThrown 22 = .ok (.iastore, 1) := o79 ac_cX12_isThrown_16 6 rfl
theorem dX12_isThrown_23 : decode cX12_isThrown 23 = .ok (.aload_n 0, 1) := o42 ac_cX12_isThrown_16 7 rfl
theorem dX12_isThrown_24 : decode cX12_isThrown 24 = .ok (.getfield 110, 3) := o180 ac_cX12_isThrown_16 8 0 110 rfl
theorem dX12_isThrown_27 : decode cX12_isThrown 27 = .ok (.bipush 14, 2) := o16p ac_cX12_isThrown_16 11 14 rfl rfl
theorem dX12_isThrown_29 : decode cX12_isThrown 29 = .ok (.iload_n 1, 1) := o27 ac_cX12_isThrown_16 13 rfl
theorem dX12_isThrown_30 : decode cX12_isThrown 30 = .ok (.iadd, 1) := o96 ac_cX12_isThrown_16 14 rfl
theorem dX12_isThrown_31 : decode cX12_isThrown 31 = .ok (.dup2, 1) := o92 ac_cX12_isThrown_16 15 rfl
def kb_cX12_isThrown_32 : List Nat := [46, 4, 96, 79, 42, 180, 0, 110, 16, 22, 42, 180, 0, 110, 16, 22, 46, 29, 96, 3]
theorem ac_cX12_isThrown_32 : AL cX12_isThrown 32 kb_cX12_isThrown_32 := AL.of (m := 20) (by decide +kernel)
theorem dX12_isThrown_32 : decode cX12_isThrown 32 = .ok (.iaload, 1) := o46 ac_cX12_isThrown_32 0 rfl
theorem dX12_isThrown_33 : decode cX12_isThrown 33 = .ok (.iconst 1, 1) := o4 ac_cX12_isThrown_32 1 rfl
theorem dX12_isThrown_34 : decode cX12_isThrown 34 = .ok (.iadd, 1) := o96 ac_cX12_isThrown_32 2 rfl
theorem dX12_isThrown_35 : decode cX12_isThrown 35 = .ok (.iastore, 1) := o79 ac_cX12_isThrown_32 3 rfl
theorem dX12_isThrown_36 : decode cX12_isThrown 36 = .ok (.aload_n 0, 1) := o42 ac_cX12_isThrown_32 4 rfl
theorem dX12_isThrown_37 : decode cX12_isThrown 37 = .ok (.getfield 110, 3) := o180 ac_cX12_isThrown_32 5 0 110 rfl
theorem dX12_isThrown_40 : decode cX12_isThrown 40 = .ok (.bipush 22, 2) := o16p ac_cX12_isThrown_32 8 22 rfl rfl
theorem dX12_isThrown_42 : decode cX12_isThrown 42 = .ok (.aload_n 0, 1) := o42 ac_cX12_isThrown_32 10 rfl
theorem dX12_isThrown_43 : decode cX12_isThrown 43 = .ok (.getfield 110, 3) := o180 ac_cX12_isThrown_32 11 0 110 rfl
theorem dX12_isThrown_46 : decode cX12_isThrown 46 = .ok (.bipush 22, 2) := o16p ac_cX12_isThrown_32 14 22 rfl rfl
def kb_cX12_isThrown_48 : List Nat := [46, 29, 96, 3, 17, 3, 231, 184, 1, 82, 79, 28, 154, 0, 10, 42, 180, 0, 110, 27]
theorem ac_cX12_isThrown_48 : AL cX12_isThrown 48 kb_cX12_isThrown_48 := AL.of (m := 20) (by decide +kernel)
theorem dX12_isThrown_48 : decode cX12_isThrown 48 = .ok (.iaload, 1) := o46 ac_cX12_isThrown_48 0 rfl
theorem dX12_isThrown_49 : decode cX12_isThrown 49 = .ok (.iload_n 3, 1) := o29 ac_cX12_isThrown_48 1 rfl
theorem dX12_isThrown_50 : decode cX12_isThrown 50 = .ok (.iadd, 1) := o96 ac_cX12_isThrown_48 2 rfl
theorem dX12_isThrown_51 : decode cX12_isThrown 51 = .ok (.iconst 0, 1) := o3 ac_cX12_isThrown_48 3 rfl
theorem dX12_isThrown_52 : decode cX12_isThrown 52 = .ok (.sipush 999, 3) := o17p ac_cX12_isThrown_48 4 3 231 rfl rfl
theorem dX12_isThrown_55 : decode cX12_isThrown 55 = .ok (.invokestatic 338, 3) := o184 ac_cX12_isThrown_48 7 1 82 rfl
theorem dX12_isThrown_58 : decode cX12_isThrown 58 = .ok (.iastore, 1) := o79 ac_cX12_isThrown_48 10 rfl
theorem dX12_isThrown_59 : decode cX12_isThrown 59 = .ok (.iload_n 2, 1) := o28 ac_cX12_isThrown_48 11 rfl
theorem dX12_isThrown_60 : decode cX12_isThrown 60 = .ok (.ifCond .ne 10, 3) := o154p ac_cX12_isThrown_48 12 0 10 rfl rfl
theorem dX12_isThrown_63 : decode cX12_isThrown 63 = .ok (.aload_n 0, 1) := o42 ac_cX12_isThrown_48 15 rfl
def kb_cX12_isThrown_64 : List Nat := [180, 0, 110, 27, 4, 79, 42, 180, 0, 110, 16, 7, 27, 96, 28, 79, 177]
theorem ac_cX12_isThrown_64 : AL cX12_isThrown 64 kb_cX12_isThrown_64 := AL.of (m := 17) (by decide +kernel)
theorem dX12_isThrown_64 : decode cX12_isThrown 64 = .ok (.getfield 110, 3) := o180 ac_cX12_isThrown_64 0 0 110 rfl
theorem dX12_isThrown_67 : decode cX12_isThrown 67 = .ok (.iload_n 1, 1) := o27 ac_cX12_isThrown_64 3 rfl
theorem dX12_isThrown_68 : decode cX12_isThrown 68 = .ok (.iconst 1, 1) := o4 ac_cX12_isThrown_64 4 rfl
theorem dX12_isThrown_69 : decode cX12_isThrown 69 = .ok (.iastore, 1) := o79 ac_cX12_isThrown_64 5 rfl
theorem dX12_isThrown_70 : decode cX12_isThrown 70 = .ok (.aload_n 0, 1) := o42 ac_cX12_isThrown_64 6 rfl
theorem dX12_isThrown_71 : decode cX12_isThrown 71 = .ok (.getfield 110, 3) := o180 ac_cX12_isThrown_64 7 0 110 rfl
theorem dX12_isThrown_74 : decode cX12_isThrown 74 = .ok (.bipush 7, 2) := o16p ac_cX12_isThrown_64 10 7 rfl rfl
theorem dX12_isThrown_76 : decode cX12_isThrown 76 = .ok (.iload_n 1, 1) := o27 ac_cX12_isThrown_64 12 rfl
theorem dX12_isThrown_77 : decode cX12_isThrown 77 = .ok (.iadd, 1) := o96 ac_cX12_isThrown_64 13 rfl
theorem dX12_isThrown_78 : decode cX12_isThrown 78 = .ok (.iload_n 2, 1) := o28 ac_cX12_isThrown_64 14 rfl
theorem dX12_isThrown_79 : decode cX12_isThrown 79 = .ok (.iastore, 1) := o79 ac_cX12_isThrown_64 15 rfl
def kb_cX12_isThrown_80 : List Nat := [177]
theorem ac_cX12_isThrown_80 : AL cX12_isThrown 80 kb_cX12_isThrown_80 := AL.of (m := 1) (by decide +kernel)
theorem dX12_isThrown_80 : decode cX12_isThrown 80 = .ok (.return_, 1) := o177 ac_cX12_isThrown_80 0 rfl
def kb_cX12_catches_0 : List Nat := [42, 182, 1, 91, 61, 42, 3, 182, 1, 94, 184, 1, 97, 62, 42, 27, 28, 29, 182, 1]
theorem ac_cX12_catches_0 : AL cX12_catches 0 kb_cX12_catches_0 := AL.of (m := 20) (by decide +kernel)
theorem dX12_catches_0 : decode cX12_catches 0 = .ok (.aload_n 0, 1) := o42 ac_cX12_catches_0 0 rfl
theorem dX12_catches_1 : decode cX12_catches 1 = .ok (.invokevirtual 347, 3) := o182 ac_cX12_catches_0 1 1 91 rfl
theorem dX12_catches_4 : decode cX12_catches 4 = .ok (.istore_n 2, 1) := o61 ac_cX12_catches_0 4 rfl
theorem dX12_catches_5 : decode cX12_catches 5 = .ok (.aload_n 0, 1) := o42 ac_cX12_catches_0 5 rfl
theorem dX12_catches_6 : decode cX12_catches 6 = .ok (.iconst 0, 1) := o3 ac_cX12_catches_0 6 rfl
theorem dX12_catches_7 : decode cX12_catches 7 = .ok (.invokevirtual 350, 3) := o182 ac_cX12_catches_0 7 1 94 rfl
theorem dX12_catches_10 : decode cX12_catches 10 = .ok (.invokestatic 353, 3) := o184 ac_cX12_catches_0 10 1 97 rfl
theorem dX12_catches_13 : decode cX12_catches 13 = .ok (.istore_n 3, 1) := o62 ac_cX12_catches_0 13 rfl
theorem dX12_catches_14 : decode cX12_catches 14 = .ok (.aload_n 0, 1) := o42 ac_cX12_catches_0 14 rfl
theorem dX12_catches_15 : decode cX12_catches 15 = .ok (.iload_n 1, 1) := o27 ac_cX12_catches_0 15 rfl
def kb_cX12_catches_16 : List Nat := [28, 29, 182, 1, 100, 54, 4, 42, 27, 29, 182, 1, 103, 54, 5, 42, 42, 27, 29, 182]
theorem ac_cX12_catches_16 : AL cX12_catches 16 kb_cX12_catches_16 := AL.of (m := 20) (by decide +kernel)
theorem dX12_catches_16 : decode cX12_catches 16 = .ok (.iload_n 2, 1) := o28 ac_cX12_catches_16 0 rfl
theorem dX12_catches_17 : decode cX12_catches 17 = .ok (.iload_n 3, 1) := o29 ac_cX12_catches_16 1 rfl
theorem dX12_catches_18 : decode cX12_catches 18 = .ok (.invokevirtual 356, 3) := o182 ac_cX12_catches_16 2 1 100 rfl
theorem dX12_catches_21 : decode cX12_catches 21 = .ok (.istore 4, 2) := o54 ac_cX12_catches_16 5 4 rfl
theorem dX12_catches_23 : decode cX12_catches 23 = .ok (.aload_n 0, 1) := o42 ac_cX12_catches_16 7 rfl
theorem dX12_catches_24 : decode cX12_catches 24 = .ok (.iload_n 1, 1) := o27 ac_cX12_catches_16 8 rfl
theorem dX12_catches_25 : decode cX12_catches 25 = .ok (.iload_n 3, 1) := o29 ac_cX12_catches_16 9 rfl
theorem dX12_catches_26 : decode cX12_catches 26 = .ok (.invokevirtual 359, 3) := o182 ac_cX12_catches_16 10 1 103 rfl
theorem dX12_catches_29 : decode cX12_catches 29 = .ok (.istore 5, 2) := o54 ac_cX12_catches_16 13 5 rfl
theorem dX12_catches_31 : decode cX12_catches 31 = .ok (.aload_n 0, 1) := o42 ac_cX12_catches_16 15 rfl
def kb_cX12_catches_32 : List Nat := [42, 27, 29, 182, 1, 106, 181, 1, 109, 42, 180, 1, 52, 154, 0, 36, 42, 182, 1, 112]
theorem ac_cX12_catches_32 : AL cX12_catches 32 kb_cX12_catches_32 := AL.of (m := 20) (by decide +kernel)
theorem dX12_catches_32 : decode cX12_catches 32 = .ok (.aload_n 0, 1) := o42 ac_cX12_catches_32 0 rfl
theorem dX12_catches_33 : decode cX12_catches 33 = .ok (.iload_n 1, 1) := o27 ac_cX12_catches_32 1 rfl
theorem dX12_catches_34 : decode cX12_catches 34 = .ok (.iload_n 3, 1) := o29 ac_cX12_catches_32 2 rfl
theorem dX12_catches_35 : decode cX12_catches 35 = .ok (.invokevirtual 362, 3) := o182 ac_cX12_catches_32 3 1 106 rfl
theorem dX12_catches_38 : decode cX12_catches 38 = .ok (.putfield 365, 3) := o181 ac_cX12_catches_32 6 1 109 rfl
theorem dX12_catches_41 : decode cX12_catches 41 = .ok (.aload_n 0, 1) := o42 ac_cX12_catches_32 9 rfl
theorem dX12_catches_42 : decode cX12_catches 42 = .ok (.getfield 308, 3) := o180 ac_cX12_catches_32 10 1 52 rfl
theorem dX12_catches_45 : decode cX12_catches 45 = .ok (.ifCond .ne 36, 3) := o154p ac_cX12_catches_32 13 0 36 rfl rfl
def kb_cX12_catches_48 : List Nat := [42, 182, 1, 112, 42, 27, 28, 29, 182, 1, 115, 162, 0, 22, 42, 180, 0, 110, 27, 5]
theorem ac_cX12_catches_48 : AL cX12_catches 48 kb_cX12_catches_48 := AL.of (m := 20) (by decide +kernel)
theorem dX12_catches_48 : decode cX12_catches 48 = .ok (.aload_n 0, 1) := o42 ac_cX12_catches_48 0 rfl
theorem dX12_catches_49 : decode cX12_catches 49 = .ok (.invokevirtual 368, 3) := o182 ac_cX12_catches_48 1 1 112 rfl
theorem dX12_catches_52 : decode cX12_catches 52 = .ok (.aload_n 0, 1) := o42 ac_cX12_catches_48 4 rfl
theorem dX12_catches_53 : decode cX12_catches 53 = .ok (.iload_n 1, 1) := o27 ac_cX12_catches_48 5 rfl
theorem dX12_catches_54 : decode cX12_catches 54 = .ok (.iload_n 2, 1) := o28 ac_cX12_catches_48 6 rfl
theorem dX12_catches_55 : decode cX12_catches 55 = .ok (.iload_n 3, 1) := o29 ac_cX12_catches_48 7 rfl
theorem dX12_catches_56 : decode cX12_catches 56 = .ok (.invokevirtual 371, 3) := o182 ac_cX12_catches_48 8 1 115 rfl
theorem dX12_catches_59 : decode cX12_catches 59 = .ok (.if_icmp .ge 22, 3) := o162p ac_cX12_catches_48 11 0 22 rfl rfl
theorem dX12_catches_62 : decode cX12_catches 62 = .ok (.aload_n 0, 1) := o42 ac_cX12_catches_48 14 rfl
theorem dX12_catches_63 : decode cX12_catches 63 = .ok (.getfield 110, 3) := o180 ac_cX12_catches_48 15 0 110 rfl
def kb_cX12_catches_64 : List Nat := [0, 110, 27, 5, 79, 42, 180, 0, 110, 16, 23, 92, 46, 4, 96, 79, 177, 42, 27, 28]
theorem ac_cX12_catches_64 : AL cX12_catches 64 kb_cX12_catches_64 := AL.of (m := 20) (by decide +kernel)
theorem dX12_catches_66 : decode cX12_catches 66 = .ok (.iload_n 1, 1) := o27 ac_cX12_catches_64 2 rfl
theorem dX12_catches_67 : decode cX12_catches 67 = .ok (.iconst 2, 1) := o5 ac_cX12_catches_64 3 rfl
theorem dX12_catches_68 : decode cX12_catches 68 = .ok (.iastore, 1) := o79 ac_cX12_catches_64 4 rfl
theorem dX12_catches_69 : decode cX12_catches 69 = .ok (.aload_n 0, 1) := o42 ac_cX12_catches_64 5 rfl
theorem dX12_catches_70 : decode cX12_catches 70 = .ok (.getfield 110, 3) := o180 ac_cX12_catches_64 6 0 110 rfl
theorem dX12_catches_73 : decode cX12_catches 73 = .ok (.bipush 23, 2) := o16p ac_cX12_catches_64 9 23 rfl rfl
theorem dX12_catches_75 : decode cX12_catches 75 = .ok (.dup2, 1) := o92 ac_cX12_catches_64 11 rfl
theorem dX12_catches_76 : decode cX12_catches 76 = .ok (.iaload, 1) := o46 ac_cX12_catches_64 12 rfl
theorem dX12_catches_77 : decode cX12_catches 77 = .ok (.iconst 1, 1) := o4 ac_cX12_catches_64 13 rfl
theorem dX12_catches_78 : decode cX12_catches 78 = .ok (.iadd, 1) := o96 ac_cX12_catches_64 14 rfl
theorem dX12_catches_79 : decode cX12_catches 79 = .ok (.iastore, 1) := o79 ac_cX12_catches_64 15 rfl
def kb_cX12_catches_80 : List Nat := [177, 42, 27, 28, 21, 4, 21, 5, 182, 1, 118, 177]
theorem ac_cX12_catches_80 : AL cX12_catches 80 kb_cX12_catches_80 := AL.of (m := 12) (by decide +kernel)
theorem dX12_catches_80 : decode cX12_catches 80 = .ok (.return_, 1) := o177 ac_cX12_catches_80 0 rfl
theorem dX12_catches_81 : decode cX12_catches 81 = .ok (.aload_n 0, 1) := o42 ac_cX12_catches_80 1 rfl
theorem dX12_catches_82 : decode cX12_catches 82 = .ok (.iload_n 1, 1) := o27 ac_cX12_catches_80 2 rfl
theorem dX12_catches_83 : decode cX12_catches 83 = .ok (.iload_n 2, 1) := o28 ac_cX12_catches_80 3 rfl
theorem dX12_catches_84 : decode cX12_catches 84 = .ok (.iload 4, 2) := o21 ac_cX12_catches_80 4 4 rfl
theorem dX12_catches_86 : decode cX12_catches 86 = .ok (.iload 5, 2) := o21 ac_cX12_catches_80 6 5 rfl
theorem dX12_catches_88 : decode cX12_catches 88 = .ok (.invokevirtual 374, 3) := o182 ac_cX12_catches_80 8 1 118 rfl
theorem dX12_catches_91 : decode cX12_catches 91 = .ok (.return_, 1) := o177 ac_cX12_catches_80 11 rfl
theorem dX12_beatGoes_59 : decode cX12_beatGoes 59 = .ok (.aload_n 0, 1) := o42 ac_cX12_beatGoes_48 11 rfl
theorem dX12_beatGoes_60 : decode cX12_beatGoes 60 = .ok (.invokevirtual 381, 3) := o182 ac_cX12_beatGoes_48 12 1 125 rfl
theorem dX12_beatGoes_63 : decode cX12_beatGoes 63 = .ok (.aload_n 0, 1) := o42 ac_cX12_beatGoes_48 15 rfl
theorem dX12_beatGoes_64 : decode cX12_beatGoes 64 = .ok (.aload_n 0, 1) := o42 ac_cX12_beatGoes_64 0 rfl
theorem dX12_beatGoes_65 : decode cX12_beatGoes 65 = .ok (.getfield 341, 3) := o180 ac_cX12_beatGoes_64 1 1 85 rfl
theorem dX12_beatGoes_68 : decode cX12_beatGoes 68 = .ok (.invokevirtual 384, 3) := o182 ac_cX12_beatGoes_64 4 1 128 rfl
theorem dX12_beatGoes_86 : decode cX12_beatGoes 86 = .ok (.aload_n 0, 1) := o42 ac_cX12_beatGoes_80 6 rfl
theorem dX12_beatGoes_87 : decode cX12_beatGoes 87 = .ok (.getfield 110, 3) := o180 ac_cX12_beatGoes_80 7 0 110 rfl
theorem dX12_beatGoes_90 : decode cX12_beatGoes 90 = .ok (.iload_n 1, 1) := o27 ac_cX12_beatGoes_80 10 rfl
theorem dX12_beatGoes_91 : decode cX12_beatGoes 91 = .ok (.iaload, 1) := o46 ac_cX12_beatGoes_80 11 rfl
theorem dX12_beatGoes_92 : decode cX12_beatGoes 92 = .ok (.ifCond .ne 16, 3) := o154p ac_cX12_beatGoes_80 12 0 16 rfl rfl
theorem dX12_beatGoes_95 : decode cX12_beatGoes 95 = .ok (.aload_n 0, 1) := o42 ac_cX12_beatGoes_80 15 rfl
def kb_cX12_beatGoes_96 : List Nat := [180, 0, 110, 16, 7, 27, 96, 92, 46, 4, 100, 79, 132, 1, 1, 167, 255, 218, 42, 180]
theorem ac_cX12_beatGoes_96 : AL cX12_beatGoes 96 kb_cX12_beatGoes_96 := AL.of (m := 20) (by decide +kernel)
theorem dX12_beatGoes_96 : decode cX12_beatGoes 96 = .ok (.getfield 110, 3) := o180 ac_cX12_beatGoes_96 0 0 110 rfl
theorem dX12_beatGoes_99 : decode cX12_beatGoes 99 = .ok (.bipush 7, 2) := o16p ac_cX12_beatGoes_96 3 7 rfl rfl
theorem dX12_beatGoes_101 : decode cX12_beatGoes 101 = .ok (.iload_n 1, 1) := o27 ac_cX12_beatGoes_96 5 rfl
theorem dX12_beatGoes_102 : decode cX12_beatGoes 102 = .ok (.iadd, 1) := o96 ac_cX12_beatGoes_96 6 rfl
theorem dX12_beatGoes_103 : decode cX12_beatGoes 103 = .ok (.dup2, 1) := o92 ac_cX12_beatGoes_96 7 rfl
theorem dX12_beatGoes_104 : decode cX12_beatGoes 104 = .ok (.iaload, 1) := o46 ac_cX12_beatGoes_96 8 rfl
theorem dX12_beatGoes_105 : decode cX12_beatGoes 105 = .ok (.iconst 1, 1) := o4 ac_cX12_beatGoes_96 9 rfl
theorem dX12_beatGoes_106 : decode cX12_beatGoes 106 = .ok (.isub, 1) := o100 ac_cX12_beatGoes_96 10 rfl
theorem dX12_beatGoes_107 : decode cX12_beatGoes 107 = .ok (.iastore, 1) := o79 ac_cX12_beatGoes_96 11 rfl
theorem dX12_beatGoes_108 : decode cX12_beatGoes 108 = .ok (.iinc 1 1, 3) := o132p ac_cX12_beatGoes_96 12 1 1 rfl rfl
theorem dX12_beatGoes_111 : decode cX12_beatGoes 111 = .ok (.goto (-38), 3) := o167n ac_cX12_beatGoes_96 15 255 218 37 rfl rfl rfl
def kb_cX12_uses_0 : List Nat := [42, 180, 0, 110, 16, 26, 27, 79, 42, 180, 0, 110, 16, 27, 42, 180, 0, 110, 16, 21]
theorem ac_cX12_uses_0 : AL cX12_uses 0 kb_cX12_uses_0 := AL.of (m := 20) (by decide +kernel)
theorem dX12_uses_0 : decode cX12_uses 0 = .ok (.aload_n 0, 1) := o42 ac_cX12_uses_0 0 rfl
theorem dX12_uses_1 : decode cX12_uses 1 = .ok (.getfield 110, 3) := o180 ac_cX12_uses_0 1 0 110 rfl
theorem dX12_uses_4 : decode cX12_uses 4 = .ok (.bipush 26, 2) := o16p ac_cX12_uses_0 4 26 rfl rfl
theorem dX12_uses_6 : decode cX12_uses 6 = .ok (.iload_n 1, 1) := o27 ac_cX12_uses_0 6 rfl
theorem dX12_uses_7 : decode cX12_uses 7 = .ok (.iastore, 1) := o79 ac_cX12_uses_0 7 rfl
theorem dX12_uses_8 : decode cX12_uses 8 = .ok (.aload_n 0, 1) := o42 ac_cX12_uses_0 8 rfl
theorem dX12_uses_9 : decode cX12_uses 9 = .ok (.getfield 110, 3) := o180 ac_cX12_uses_0 9 0 110 rfl
theorem dX12_uses_12 : decode cX12_uses 12 = .ok (.bipush 27, 2) := o16p ac_cX12_uses_0 12 27 rfl rfl
theorem dX12_uses_14 : decode cX12_uses 14 = .ok (.aload_n 0, 1) := o42 ac_cX12_uses_0 14 rfl
theorem dX12_uses_15 : decode cX12_uses 15 = .ok (.getfield 110, 3) := o180 ac_cX12_uses_0 15 0 110 rfl
def kb_cX12_uses_16 : List Nat := [0, 110, 16, 21, 46, 79, 177]
theorem ac_cX12_uses_16 : AL cX12_uses 16 kb_cX12_uses_16 := AL.of (m := 7) (by decide +kernel)
theorem dX12_uses_18 : decode cX12_uses 18 = .ok (.bipush 21, 2) := o16p ac_cX12_uses_16 2 21 rfl rfl
theorem dX12_uses_20 : decode cX12_uses 20 = .ok (.iaload, 1) := o46 ac_cX12_uses_16 4 rfl
theorem dX12_uses_21 : decode cX12_uses 21 = .ok (.iastore, 1) := o79 ac_cX12_uses_16 5 rfl
theorem dX12_uses_22 : decode cX12_uses 22 = .ok (.return_, 1) := o177 ac_cX12_uses_16 6 rfl
theorem dX12_clash_23 : decode cX12_clash 23 = .ok (.iload_n 1, 1) := o27 ac_cX12_clash_16 7 rfl
theorem dX12_clash_24 : decode cX12_clash 24 = .ok (.ireturn, 1) := o172 ac_cX12_clash_16 8 rfl
def kb_cX12_hasRoom_0 : List Nat := [42, 182, 1, 173, 42, 180, 0, 110, 27, 3, 79, 42, 180, 0, 110, 16, 7, 27, 96, 28]
theorem ac_cX12_hasRoom_0 : AL cX12_hasRoom 0 kb_cX12_hasRoom_0 := AL.of (m := 20) (by decide +kernel)
theorem dX12_hasRoom_0 : decode cX12_hasRoom 0 = .ok (.aload_n 0, 1) := o42 ac_cX12_hasRoom_0 0 rfl
theorem dX12_hasRoom_1 : decode cX12_hasRoom 1 = .ok (.invokevirtual 429, 3) := o182 ac_cX12_hasRoom_0 1 1 173 rfl
theorem dX12_hasRoom_4 : decode cX12_hasRoom 4 = .ok (.aload_n 0, 1) := o42 ac_cX12_hasRoom_0 4 rfl
theorem dX12_hasRoom_5 : decode cX12_hasRoom 5 = .ok (.getfield 110, 3) := o180 ac_cX12_hasRoom_0 5 0 110 rfl
theorem dX12_hasRoom_8 : decode cX12_hasRoom 8 = .ok (.iload_n 1, 1) := o27 ac_cX12_hasRoom_0 8 rfl
theorem dX12_hasRoom_9 : decode cX12_hasRoom 9 = .ok (.iconst 0, 1) := o3 ac_cX12_hasRoom_0 9 rfl
theorem dX12_hasRoom_10 : decode cX12_hasRoom 10 = .ok (.iastore, 1) := o79 ac_cX12_hasRoom_0 10 rfl
theorem dX12_hasRoom_11 : decode cX12_hasRoom 11 = .ok (.aload_n 0, 1) := o42 ac_cX12_hasRoom_0 11 rfl
theorem dX12_hasRoom_12 : decode cX12_hasRoom 12 = .ok (.getfield 110, 3) := o180 ac_cX12_hasRoom_0 12 0 110 rfl
theorem dX12_hasRoom_15 : decode cX12_hasRoom 15 = .ok (.bipush 7, 2) := o16p ac_cX12_hasRoom_0 15 7 rfl rfl
def kb_cX12_hasRoom_16 : List Nat := [7, 27, 96, 28, 79, 3, 62, 29, 16, 60, 162, 0, 22, 42, 182, 1, 131, 42, 180, 1]
theorem ac_cX12_hasRoom_16 : AL cX12_hasRoom 16 kb_cX12_hasRoom_16 := AL.of (m := 20) (by decide +kernel)
theorem dX12_hasRoom_17 : decode cX12_hasRoom 17 = .ok (.iload_n 1, 1) := o27 ac_cX12_hasRoom_16 1 rfl
theorem dX12_hasRoom_18 : decode cX12_hasRoom 18 = .ok (.iadd, 1) := o96 ac_cX12_hasRoom_16 2 rfl
theorem dX12_hasRoom_19 : decode cX12_hasRoom 19 = .ok (.iload_n 2, 1) := o28 ac_cX12_hasRoom_16 3 rfl
theorem dX12_hasRoom_20 : decode cX12_hasRoom 20 = .ok (.iastore, 1) := o79 ac_cX12_hasRoom_16 4 rfl
theorem dX12_hasRoom_21 : decode cX12_hasRoom 21 = .ok (.iconst 0, 1) := o3 ac_cX12_hasRoom_16 5 rfl
theorem dX12_hasRoom_22 : decode cX12_hasRoom 22 = .ok (.istore_n 3, 1) := o62 ac_cX12_hasRoom_16 6 rfl
theorem dX12_hasRoom_23 : decode cX12_hasRoom 23 = .ok (.iload_n 3, 1) := o29 ac_cX12_hasRoom_16 7 rfl
theorem dX12_hasRoom_24 : decode cX12_hasRoom 24 = .ok (.bipush 60, 2) := o16p ac_cX12_hasRoom_16 8 60 rfl rfl
theorem dX12_hasRoom_26 : decode cX12_hasRoom 26 = .ok (.if_icmp .ge 22, 3) := o162p ac_cX12_hasRoom_16 10 0 22 rfl rfl
theorem dX12_hasRoom_29 : decode cX12_hasRoom 29 = .ok (.aload_n 0, 1) := o42 ac_cX12_hasRoom_16 13 rfl
theorem dX12_hasRoom_30 : decode cX12_hasRoom 30 = .ok (.invokevirtual 387, 3) := o182 ac_cX12_hasRoom_16 14 1 131 rfl
def kb_cX12_hasRoom_32 : List Nat := [131, 42, 180, 1, 88, 153, 0, 5, 3, 172, 132, 3, 1, 167, 255, 234, 4, 172]
theorem ac_cX12_hasRoom_32 : AL cX12_hasRoom 32 kb_cX12_hasRoom_32 := AL.of (m := 18) (by decide +kernel)
theorem dX12_hasRoom_33 : decode cX12_hasRoom 33 = .ok (.aload_n 0, 1) := o42 ac_cX12_hasRoom_32 1 rfl
theorem dX12_hasRoom_34 : decode cX12_hasRoom 34 = .ok (.getfield 344, 3) := o180 ac_cX12_hasRoom_32 2 1 88 rfl
theorem dX12_hasRoom_37 : decode cX12_hasRoom 37 = .ok (.ifCond .eq 5, 3) := o153p ac_cX12_hasRoom_32 5 0 5 rfl rfl
theorem dX12_hasRoom_40 : decode cX12_hasRoom 40 = .ok (.iconst 0, 1) := o3 ac_cX12_hasRoom_32 8 rfl
theorem dX12_hasRoom_41 : decode cX12_hasRoom 41 = .ok (.ireturn, 1) := o172 ac_cX12_hasRoom_32 9 rfl
theorem dX12_hasRoom_42 : decode cX12_hasRoom 42 = .ok (.iinc 3 1, 3) := o132p ac_cX12_hasRoom_32 10 3 1 rfl rfl
theorem dX12_hasRoom_45 : decode cX12_hasRoom 45 = .ok (.goto (-22), 3) := o167n ac_cX12_hasRoom_32 13 255 234 21 rfl rfl rfl
def kb_cX12_hasRoom_48 : List Nat := [4, 172]
theorem ac_cX12_hasRoom_48 : AL cX12_hasRoom 48 kb_cX12_hasRoom_48 := AL.of (m := 2) (by decide +kernel)
theorem dX12_hasRoom_48 : decode cX12_hasRoom 48 = .ok (.iconst 1, 1) := o4 ac_cX12_hasRoom_48 0 rfl
theorem dX12_hasRoom_49 : decode cX12_hasRoom 49 = .ok (.ireturn, 1) := o172 ac_cX12_hasRoom_48 1 rfl
theorem dX12_room_8 : decode cX12_room 8 = .ok (.aload_n 0, 1) := o42 ac_cX12_room_0 8 rfl
theorem dX12_room_9 : decode cX12_room 9 = .ok (.getfield 107, 3) := o180 ac_cX12_room_0 9 0 107 rfl
theorem dX12_room_12 : decode cX12_room 12 = .ok (.iload_n 1, 1) := o27 ac_cX12_room_0 12 rfl
theorem dX12_room_13 : decode cX12_room 13 = .ok (.iaload, 1) := o46 ac_cX12_room_0 13 rfl
theorem dX12_room_14 : decode cX12_room 14 = .ok (.ifCond .ne 5, 3) := o154p ac_cX12_room_0 14 0 5 rfl rfl
theorem dX12_room_19 : decode cX12_room 19 = .ok (.iconst 0, 1) := o3 ac_cX12_room_16 3 rfl
theorem dX12_room_20 : decode cX12_room 20 = .ok (.istore_n 2, 1) := o61 ac_cX12_room_16 4 rfl
theorem dX12_room_21 : decode cX12_room 21 = .ok (.iload_n 2, 1) := o28 ac_cX12_room_16 5 rfl
theorem dX12_room_22 : decode cX12_room 22 = .ok (.bipush 10, 2) := o16p ac_cX12_room_16 6 10 rfl rfl
theorem dX12_room_24 : decode cX12_room 24 = .ok (.if_icmp .ge 20, 3) := o162p ac_cX12_room_16 8 0 20 rfl rfl
theorem dX12_room_27 : decode cX12_room 27 = .ok (.aload_n 0, 1) := o42 ac_cX12_room_16 11 rfl
theorem dX12_room_28 : decode cX12_room 28 = .ok (.iload_n 1, 1) := o27 ac_cX12_room_16 12 rfl
theorem dX12_room_29 : decode cX12_room 29 = .ok (.iload_n 2, 1) := o28 ac_cX12_room_16 13 rfl
theorem dX12_room_30 : decode cX12_room 30 = .ok (.invokevirtual 451, 3) := o182 ac_cX12_room_16 14 1 195 rfl
def kb_cX12_room_32 : List Nat := [195, 153, 0, 5, 28, 172, 132, 2, 1, 167, 255, 236, 16, 254, 172]
theorem ac_cX12_room_32 : AL cX12_room 32 kb_cX12_room_32 := AL.of (m := 15) (by decide +kernel)
theorem dX12_room_33 : decode cX12_room 33 = .ok (.ifCond .eq 5, 3) := o153p ac_cX12_room_32 1 0 5 rfl rfl
theorem dX12_room_36 : decode cX12_room 36 = .ok (.iload_n 2, 1) := o28 ac_cX12_room_32 4 rfl
theorem dX12_room_37 : decode cX12_room 37 = .ok (.ireturn, 1) := o172 ac_cX12_room_32 5 rfl
theorem dX12_room_38 : decode cX12_room 38 = .ok (.iinc 2 1, 3) := o132p ac_cX12_room_32 6 2 1 rfl rfl
theorem dX12_room_41 : decode cX12_room 41 = .ok (.goto (-20), 3) := o167n ac_cX12_room_32 9 255 236 19 rfl rfl rfl
theorem dX12_room_44 : decode cX12_room 44 = .ok (.bipush (-2), 2) := o16n ac_cX12_room_32 12 254 1 rfl rfl rfl
theorem dX12_room_46 : decode cX12_room 46 = .ok (.ireturn, 1) := o172 ac_cX12_room_32 14 rfl
theorem dX12_handover_24 : decode cX12_handover 24 = .ok (.aload_n 0, 1) := o42 ac_cX12_handover_16 8 rfl
theorem dX12_handover_25 : decode cX12_handover 25 = .ok (.invokevirtual 387, 3) := o182 ac_cX12_handover_16 9 1 131 rfl
theorem dX12_handover_28 : decode cX12_handover 28 = .ok (.aload_n 0, 1) := o42 ac_cX12_handover_16 12 rfl
theorem dX12_handover_29 : decode cX12_handover 29 = .ok (.getfield 341, 3) := o180 ac_cX12_handover_16 13 1 85 rfl
def kb_cX12_handover_32 : List Nat := [155, 0, 14, 27, 4, 42, 180, 1, 85, 120, 2, 130, 126, 60, 27, 42, 5, 182, 1, 94]
theorem ac_cX12_handover_32 : AL cX12_handover 32 kb_cX12_handover_32 := AL.of (m := 20) (by decide +kernel)
theorem dX12_handover_32 : decode cX12_handover 32 = .ok (.ifCond .lt 14, 3) := o155p ac_cX12_handover_32 0 0 14 rfl rfl
theorem dX12_handover_35 : decode cX12_handover 35 = .ok (.iload_n 1, 1) := o27 ac_cX12_handover_32 3 rfl
theorem dX12_handover_36 : decode cX12_handover 36 = .ok (.iconst 1, 1) := o4 ac_cX12_handover_32 4 rfl
theorem dX12_handover_37 : decode cX12_handover 37 = .ok (.aload_n 0, 1) := o42 ac_cX12_handover_32 5 rfl
theorem dX12_handover_38 : decode cX12_handover 38 = .ok (.getfield 341, 3) := o180 ac_cX12_handover_32 6 1 85 rfl
theorem dX12_handover_41 : decode cX12_handover 41 = .ok (.ishl, 1) := o120 ac_cX12_handover_32 9 rfl
theorem dX12_handover_42 : decode cX12_handover 42 = .ok (.iconst (-1), 1) := o2 ac_cX12_handover_32 10 rfl
theorem dX12_handover_43 : decode cX12_handover 43 = .ok (.ixor, 1) := o130 ac_cX12_handover_32 11 rfl
theorem dX12_handover_44 : decode cX12_handover 44 = .ok (.iand, 1) := o126 ac_cX12_handover_32 12 rfl
theorem dX12_handover_45 : decode cX12_handover 45 = .ok (.istore_n 1, 1) := o60 ac_cX12_handover_32 13 rfl
theorem dX12_handover_46 : decode cX12_handover 46 = .ok (.iload_n 1, 1) := o27 ac_cX12_handover_32 14 rfl
theorem dX12_handover_47 : decode cX12_handover 47 = .ok (.aload_n 0, 1) := o42 ac_cX12_handover_32 15 rfl
def kb_cX12_handover_48 : List Nat := [5, 182, 1, 94, 126, 153, 0, 6, 16, 254, 172, 132, 2, 1, 167, 255, 206, 16, 254, 172]
theorem ac_cX12_handover_48 : AL cX12_handover 48 kb_cX12_handover_48 := AL.of (m := 20) (by decide +kernel)
theorem dX12_handover_48 : decode cX12_handover 48 = .ok (.iconst 2, 1) := o5 ac_cX12_handover_48 0 rfl
theorem dX12_handover_49 : decode cX12_handover 49 = .ok (.invokevirtual 350, 3) := o182 ac_cX12_handover_48 1 1 94 rfl
theorem dX12_handover_52 : decode cX12_handover 52 = .ok (.iand, 1) := o126 ac_cX12_handover_48 4 rfl
theorem dX12_handover_53 : decode cX12_handover 53 = .ok (.ifCond .eq 6, 3) := o153p ac_cX12_handover_48 5 0 6 rfl rfl
theorem dX12_handover_56 : decode cX12_handover 56 = .ok (.bipush (-2), 2) := o16n ac_cX12_handover_48 8 254 1 rfl rfl rfl
theorem dX12_handover_58 : decode cX12_handover 58 = .ok (.ireturn, 1) := o172 ac_cX12_handover_48 10 rfl
theorem dX12_handover_59 : decode cX12_handover 59 = .ok (.iinc 2 1, 3) := o132p ac_cX12_handover_48 11 2 1 rfl rfl
theorem dX12_handover_62 : decode cX12_handover 62 = .ok (.goto (-50), 3) := o167n ac_cX12_handover_48 14 255 206 49 rfl rfl rfl
def kb_cX12_handover_64 : List Nat := [206, 16, 254, 172]
theorem ac_cX12_handover_64 : AL cX12_handover 64 kb_cX12_handover_64 := AL.of (m := 4) (by decide +kernel)
theorem dX12_handover_65 : decode cX12_handover 65 = .ok (.bipush (-2), 2) := o16n ac_cX12_handover_64 1 254 1 rfl rfl rfl
theorem dX12_handover_67 : decode cX12_handover 67 = .ok (.ireturn, 1) := o172 ac_cX12_handover_64 3 rfl
theorem dX12_busiest_61 : decode cX12_busiest 61 = .ok (.aload_n 0, 1) := o42 ac_cX12_busiest_48 13 rfl
theorem dX12_busiest_62 : decode cX12_busiest 62 = .ok (.getfield 122, 3) := o180 ac_cX12_busiest_48 14 0 122 rfl
theorem dX12_busiest_65 : decode cX12_busiest 65 = .ok (.aload_n 0, 1) := o42 ac_cX12_busiest_64 1 rfl
theorem dX12_busiest_66 : decode cX12_busiest 66 = .ok (.getfield 341, 3) := o180 ac_cX12_busiest_64 2 1 85 rfl
theorem dX12_busiest_69 : decode cX12_busiest 69 = .ok (.dup2, 1) := o92 ac_cX12_busiest_64 5 rfl
theorem dX12_busiest_70 : decode cX12_busiest 70 = .ok (.iaload, 1) := o46 ac_cX12_busiest_64 6 rfl
theorem dX12_busiest_71 : decode cX12_busiest 71 = .ok (.iconst 1, 1) := o4 ac_cX12_busiest_64 7 rfl
theorem dX12_busiest_72 : decode cX12_busiest 72 = .ok (.iadd, 1) := o96 ac_cX12_busiest_64 8 rfl
theorem dX12_busiest_73 : decode cX12_busiest 73 = .ok (.iastore, 1) := o79 ac_cX12_busiest_64 9 rfl
theorem dX12_busiest_108 : decode cX12_busiest 108 = .ok (.iload 4, 2) := o21 ac_cX12_busiest_96 12 4 rfl
theorem dX12_busiest_110 : decode cX12_busiest 110 = .ok (.istore_n 3, 1) := o62 ac_cX12_busiest_96 14 rfl
theorem dX12_busiest_131 : decode cX12_busiest 131 = .ok (.iload_n 2, 1) := o28 ac_cX12_busiest_128 3 rfl
theorem dX12_busiest_132 : decode cX12_busiest 132 = .ok (.ifCond .ne 7, 3) := o154p ac_cX12_busiest_128 4 0 7 rfl rfl
theorem dX12_busiest_135 : decode cX12_busiest 135 = .ok (.iload_n 3, 1) := o29 ac_cX12_busiest_128 7 rfl
theorem dX12_busiest_136 : decode cX12_busiest 136 = .ok (.goto 9, 3) := o167p ac_cX12_busiest_128 8 0 9 rfl rfl
theorem dX12_busiest_139 : decode cX12_busiest 139 = .ok (.aload_n 0, 1) := o42 ac_cX12_busiest_128 11 rfl
theorem dX12_busiest_140 : decode cX12_busiest 140 = .ok (.getfield 122, 3) := o180 ac_cX12_busiest_128 12 0 122 rfl
theorem dX12_busiest_143 : decode cX12_busiest 143 = .ok (.iload_n 3, 1) := o29 ac_cX12_busiest_128 15 rfl
theorem dX12_busiest_144 : decode cX12_busiest 144 = .ok (.iaload, 1) := o46 ac_cX12_busiest_144 0 rfl
def kb_cX12_load_32 : List Nat := [23, 28, 42, 180, 0, 46, 16, 7, 42, 180, 0, 221, 104, 42, 180, 1, 85, 96, 46, 96]
theorem ac_cX12_load_32 : AL cX12_load 32 kb_cX12_load_32 := AL.of (m := 20) (by decide +kernel)
theorem dX12_load_33 : decode cX12_load 33 = .ok (.iload_n 2, 1) := o28 ac_cX12_load_32 1 rfl
theorem dX12_load_34 : decode cX12_load 34 = .ok (.aload_n 0, 1) := o42 ac_cX12_load_32 2 rfl
theorem dX12_load_35 : decode cX12_load 35 = .ok (.getfield 46, 3) := o180 ac_cX12_load_32 3 0 46 rfl
theorem dX12_load_38 : decode cX12_load 38 = .ok (.bipush 7, 2) := o16p ac_cX12_load_32 6 7 rfl rfl
theorem dX12_load_40 : decode cX12_load 40 = .ok (.aload_n 0, 1) := o42 ac_cX12_load_32 8 rfl
theorem dX12_load_41 : decode cX12_load 41 = .ok (.getfield 221, 3) := o180 ac_cX12_load_32 9 0 221 rfl
theorem dX12_load_44 : decode cX12_load 44 = .ok (.imul, 1) := o104 ac_cX12_load_32 12 rfl
theorem dX12_load_45 : decode cX12_load 45 = .ok (.aload_n 0, 1) := o42 ac_cX12_load_32 13 rfl
theorem dX12_load_46 : decode cX12_load 46 = .ok (.getfield 341, 3) := o180 ac_cX12_load_32 14 1 85 rfl
theorem dX12_load_49 : decode cX12_load 49 = .ok (.iadd, 1) := o96 ac_cX12_load_48 1 rfl
theorem dX12_load_50 : decode cX12_load 50 = .ok (.iaload, 1) := o46 ac_cX12_load_48 2 rfl
theorem dX12_load_51 : decode cX12_load 51 = .ok (.iadd, 1) := o96 ac_cX12_load_48 3 rfl
theorem dX12_load_52 : decode cX12_load 52 = .ok (.istore_n 2, 1) := o61 ac_cX12_load_48 4 rfl
theorem dX12_gap_25 : decode cX12_gap 25 = .ok (.iinc 1 1, 3) := o132p ac_cX12_gap_16 9 1 1 rfl rfl
theorem dX12_gap_28 : decode cX12_gap 28 = .ok (.goto (-22), 3) := o167n ac_cX12_gap_16 12 255 234 21 rfl rfl rfl
theorem dX12_gap_31 : decode cX12_gap 31 = .ok (.bipush (-2), 2) := o16n ac_cX12_gap_16 15 254 1 rfl rfl rfl
def kb_cX12_gap_32 : List Nat := [254, 172]
theorem ac_cX12_gap_32 : AL cX12_gap 32 kb_cX12_gap_32 := AL.of (m := 2) (by decide +kernel)
theorem dX12_gap_33 : decode cX12_gap 33 = .ok (.ireturn, 1) := o172 ac_cX12_gap_32 1 rfl
def kb_cX12_takesPattern_0 : List Nat := [3, 62, 29, 42, 27, 182, 1, 62, 162, 0, 23, 42, 180, 0, 116, 28, 29, 96, 42, 27]
theorem ac_cX12_takesPattern_0 : AL cX12_takesPattern 0 kb_cX12_takesPattern_0 := AL.of (m := 20) (by decide +kernel)
theorem dX12_takesPattern_0 : decode cX12_takesPattern 0 = .ok (.iconst 0, 1) := o3 ac_cX12_takesPattern_0 0 rfl
theorem dX12_takesPattern_1 : decode cX12_takesPattern 1 = .ok (.istore_n 3, 1) := o62 ac_cX12_takesPattern_0 1 rfl
theorem dX12_takesPattern_2 : decode cX12_takesPattern 2 = .ok (.iload_n 3, 1) := o29 ac_cX12_takesPattern_0 2 rfl
theorem dX12_takesPattern_3 : decode cX12_takesPattern 3 = .ok (.aload_n 0, 1) := o42 ac_cX12_takesPattern_0 3 rfl
theorem dX12_takesPattern_4 : decode cX12_takesPattern 4 = .ok (.iload_n 1, 1) := o27 ac_cX12_takesPattern_0 4 rfl
theorem dX12_takesPattern_5 : decode cX12_takesPattern 5 = .ok (.invokevirtual 318, 3) := o182 ac_cX12_takesPattern_0 5 1 62 rfl
theorem dX12_takesPattern_8 : decode cX12_takesPattern 8 = .ok (.if_icmp .ge 23, 3) := o162p ac_cX12_takesPattern_0 8 0 23 rfl rfl
theorem dX12_takesPattern_11 : decode cX12_takesPattern 11 = .ok (.aload_n 0, 1) := o42 ac_cX12_takesPattern_0 11 rfl
theorem dX12_takesPattern_12 : decode cX12_takesPattern 12 = .ok (.getfield 116, 3) := o180 ac_cX12_takesPattern_0 12 0 116 rfl
theorem dX12_takesPattern_15 : decode cX12_takesPattern 15 = .ok (.iload_n 2, 1) := o28 ac_cX12_takesPattern_0 15 rfl
def kb_cX12_takesPattern_16 : List Nat := [29, 96, 42, 27, 29, 182, 1, 65, 79, 132, 3, 1, 167, 255, 230, 42, 28, 42, 27, 182]
theorem ac_cX12_takesPattern_16 : AL cX12_takesPattern 16 kb_cX12_takesPattern_16 := AL.of (m := 20) (by decide +kernel)
theorem dX12_takesPattern_16 : decode cX12_takesPattern 16 = .ok (.iload_n 3, 1) := o29 ac_cX12_takesPattern_16 0 rfl
theorem dX12_takesPattern_17 : decode cX12_takesPattern 17 = .ok (.iadd, 1) := o96 ac_cX12_takesPattern_16 1 rfl
theorem dX12_takesPattern_18 : decode cX12_takesPattern 18 = .ok (.aload_n 0, 1) := o42 ac_cX12_takesPattern_16 2 rfl
theorem dX12_takesPattern_19 : decode cX12_takesPattern 19 = .ok (.iload_n 1, 1) := o27 ac_cX12_takesPattern_16 3 rfl
theorem dX12_takesPattern_20 : decode cX12_takesPattern 20 = .ok (.iload_n 3, 1) := o29 ac_cX12_takesPattern_16 4 rfl
theorem dX12_takesPattern_21 : decode cX12_takesPattern 21 = .ok (.invokevirtual 321, 3) := o182 ac_cX12_takesPattern_16 5 1 65 rfl
theorem dX12_takesPattern_24 : decode cX12_takesPattern 24 = .ok (.iastore, 1) := o79 ac_cX12_takesPattern_16 8 rfl
theorem dX12_takesPattern_25 : decode cX12_takesPattern 25 = .ok (.iinc 3 1, 3) := o132p ac_cX12_takesPattern_16 9 3 1 rfl rfl
theorem dX12_takesPattern_28 : decode cX12_takesPattern 28 = .ok (.goto (-26), 3) := o167n ac_cX12_takesPattern_16 12 255 230 25 rfl rfl rfl
theorem dX12_takesPattern_31 : decode cX12_takesPattern 31 = .ok (.aload_n 0, 1) := o42 ac_cX12_takesPattern_16 15 rfl
def kb_cX12_takesPattern_32 : List Nat := [28, 42, 27, 182, 1, 62, 96, 181, 1, 152, 177]
theorem ac_cX12_takesPattern_32 : AL cX12_takesPattern 32 kb_cX12_takesPattern_32 := AL.of (m := 11) (by decide +kernel)
theorem dX12_takesPattern_32 : decode cX12_takesPattern 32 = .ok (.iload_n 2, 1) := o28 ac_cX12_takesPattern_32 0 rfl
theorem dX12_takesPattern_33 : decode cX12_takesPattern 33 = .ok (.aload_n 0, 1) := o42 ac_cX12_takesPattern_32 1 rfl
theorem dX12_takesPattern_34 : decode cX12_takesPattern 34 = .ok (.iload_n 1, 1) := o27 ac_cX12_takesPattern_32 2 rfl
theorem dX12_takesPattern_35 : decode cX12_takesPattern 35 = .ok (.invokevirtual 318, 3) := o182 ac_cX12_takesPattern_32 3 1 62 rfl
theorem dX12_takesPattern_38 : decode cX12_takesPattern 38 = .ok (.iadd, 1) := o96 ac_cX12_takesPattern_32 6 rfl
theorem dX12_takesPattern_39 : decode cX12_takesPattern 39 = .ok (.putfield 408, 3) := o181 ac_cX12_takesPattern_32 7 1 152 rfl
theorem dX12_takesPattern_42 : decode cX12_takesPattern 42 = .ok (.return_, 1) := o177 ac_cX12_takesPattern_32 10 rfl
def kb_cX12_keepsOf_0 : List Nat := [42, 27, 3, 182, 1, 155, 42, 182, 1, 158, 172]
theorem ac_cX12_keepsOf_0 : AL cX12_keepsOf 0 kb_cX12_keepsOf_0 := AL.of (m := 11) (by decide +kernel)
theorem dX12_keepsOf_0 : decode cX12_keepsOf 0 = .ok (.aload_n 0, 1) := o42 ac_cX12_keepsOf_0 0 rfl
theorem dX12_keepsOf_1 : decode cX12_keepsOf 1 = .ok (.iload_n 1, 1) := o27 ac_cX12_keepsOf_0 1 rfl
theorem dX12_keepsOf_2 : decode cX12_keepsOf 2 = .ok (.iconst 0, 1) := o3 ac_cX12_keepsOf_0 2 rfl
theorem dX12_keepsOf_3 : decode cX12_keepsOf 3 = .ok (.invokevirtual 411, 3) := o182 ac_cX12_keepsOf_0 3 1 155 rfl
theorem dX12_keepsOf_6 : decode cX12_keepsOf 6 = .ok (.aload_n 0, 1) := o42 ac_cX12_keepsOf_0 6 rfl
theorem dX12_keepsOf_7 : decode cX12_keepsOf 7 = .ok (.invokevirtual 414, 3) := o182 ac_cX12_keepsOf_0 7 1 158 rfl
theorem dX12_keepsOf_10 : decode cX12_keepsOf 10 = .ok (.ireturn, 1) := o172 ac_cX12_keepsOf_0 10 rfl
theorem dX12_light_42 : decode cX12_light 42 = .ok (.aload_n 0, 1) := o42 ac_cX12_light_32 10 rfl
theorem dX12_light_43 : decode cX12_light 43 = .ok (.invokevirtual 429, 3) := o182 ac_cX12_light_32 11 1 173 rfl
theorem dX12_light_46 : decode cX12_light 46 = .ok (.aload_n 0, 1) := o42 ac_cX12_light_32 14 rfl
theorem dX12_light_47 : decode cX12_light 47 = .ok (.iload 5, 2) := o21 ac_cX12_light_32 15 5 rfl
def kb_cX12_light_48 : List Nat := [5, 182, 1, 161, 42, 3, 182, 1, 94, 184, 1, 97, 159, 0, 6, 167, 0, 45, 42, 21]
theorem ac_cX12_light_48 : AL cX12_light 48 kb_cX12_light_48 := AL.of (m := 20) (by decide +kernel)
theorem dX12_light_49 : decode cX12_light 49 = .ok (.invokevirtual 417, 3) := o182 ac_cX12_light_48 1 1 161 rfl
theorem dX12_light_52 : decode cX12_light 52 = .ok (.aload_n 0, 1) := o42 ac_cX12_light_48 4 rfl
theorem dX12_light_53 : decode cX12_light 53 = .ok (.iconst 0, 1) := o3 ac_cX12_light_48 5 rfl
theorem dX12_light_54 : decode cX12_light 54 = .ok (.invokevirtual 350, 3) := o182 ac_cX12_light_48 6 1 94 rfl
theorem dX12_light_57 : decode cX12_light 57 = .ok (.invokestatic 353, 3) := o184 ac_cX12_light_48 9 1 97 rfl
theorem dX12_light_60 : decode cX12_light 60 = .ok (.if_icmp .eq 6, 3) := o159p ac_cX12_light_48 12 0 6 rfl rfl
theorem dX12_light_63 : decode cX12_light 63 = .ok (.goto 45, 3) := o167p ac_cX12_light_48 15 0 45 rfl rfl
def kb_cX12_light_64 : List Nat := [0, 45, 42, 21, 5, 182, 1, 143, 42, 27, 182, 1, 149, 29, 155, 0, 18, 42, 180, 0]
theorem ac_cX12_light_64 : AL cX12_light 64 kb_cX12_light_64 := AL.of (m := 20) (by decide +kernel)
theorem dX12_light_66 : decode cX12_light 66 = .ok (.aload_n 0, 1) := o42 ac_cX12_light_64 2 rfl
theorem dX12_light_67 : decode cX12_light 67 = .ok (.iload 5, 2) := o21 ac_cX12_light_64 3 5 rfl
theorem dX12_light_69 : decode cX12_light 69 = .ok (.invokevirtual 399, 3) := o182 ac_cX12_light_64 5 1 143 rfl
theorem dX12_light_72 : decode cX12_light 72 = .ok (.aload_n 0, 1) := o42 ac_cX12_light_64 8 rfl
theorem dX12_light_73 : decode cX12_light 73 = .ok (.iload_n 1, 1) := o27 ac_cX12_light_64 9 rfl
theorem dX12_light_74 : decode cX12_light 74 = .ok (.invokevirtual 405, 3) := o182 ac_cX12_light_64 10 1 149 rfl
theorem dX12_light_77 : decode cX12_light 77 = .ok (.iload_n 3, 1) := o29 ac_cX12_light_64 13 rfl
theorem dX12_light_78 : decode cX12_light 78 = .ok (.ifCond .lt 18, 3) := o155p ac_cX12_light_64 14 0 18 rfl rfl
def kb_cX12_light_80 : List Nat := [18, 42, 180, 0, 110, 16, 22, 46, 21, 4, 161, 0, 6, 167, 0, 15, 21, 5, 62, 42]
theorem ac_cX12_light_80 : AL cX12_light 80 kb_cX12_light_80 := AL.of (m := 20) (by decide +kernel)
theorem dX12_light_81 : decode cX12_light 81 = .ok (.aload_n 0, 1) := o42 ac_cX12_light_80 1 rfl
theorem dX12_light_82 : decode cX12_light 82 = .ok (.getfield 110, 3) := o180 ac_cX12_light_80 2 0 110 rfl
theorem dX12_light_85 : decode cX12_light 85 = .ok (.bipush 22, 2) := o16p ac_cX12_light_80 5 22 rfl rfl
theorem dX12_light_87 : decode cX12_light 87 = .ok (.iaload, 1) := o46 ac_cX12_light_80 7 rfl
theorem dX12_light_88 : decode cX12_light 88 = .ok (.iload 4, 2) := o21 ac_cX12_light_80 8 4 rfl
theorem dX12_light_90 : decode cX12_light 90 = .ok (.if_icmp .lt 6, 3) := o161p ac_cX12_light_80 10 0 6 rfl rfl
theorem dX12_light_93 : decode cX12_light 93 = .ok (.goto 15, 3) := o167p ac_cX12_light_80 13 0 15 rfl rfl
def kb_cX12_light_96 : List Nat := [21, 5, 62, 42, 180, 0, 110, 16, 22, 46, 54, 4, 132, 5, 1, 167, 255, 173, 28, 154]
theorem ac_cX12_light_96 : AL cX12_light 96 kb_cX12_light_96 := AL.of (m := 20) (by decide +kernel)
theorem dX12_light_96 : decode cX12_light 96 = .ok (.iload 5, 2) := o21 ac_cX12_light_96 0 5 rfl
theorem dX12_light_98 : decode cX12_light 98 = .ok (.istore_n 3, 1) := o62 ac_cX12_light_96 2 rfl
theorem dX12_light_99 : decode cX12_light 99 = .ok (.aload_n 0, 1) := o42 ac_cX12_light_96 3 rfl
theorem dX12_light_100 : decode cX12_light 100 = .ok (.getfield 110, 3) := o180 ac_cX12_light_96 4 0 110 rfl
theorem dX12_light_103 : decode cX12_light 103 = .ok (.bipush 22, 2) := o16p ac_cX12_light_96 7 22 rfl rfl
theorem dX12_light_105 : decode cX12_light 105 = .ok (.iaload, 1) := o46 ac_cX12_light_96 9 rfl
theorem dX12_light_106 : decode cX12_light 106 = .ok (.istore 4, 2) := o54 ac_cX12_light_96 10 4 rfl
theorem dX12_light_108 : decode cX12_light 108 = .ok (.iinc 5 1, 3) := o132p ac_cX12_light_96 12 5 1 rfl rfl
theorem dX12_light_111 : decode cX12_light 111 = .ok (.goto (-83), 3) := o167n ac_cX12_light_96 15 255 173 82 rfl rfl rfl
theorem dX12_down_23 : decode cX12_down 23 = .ok (.aload_n 0, 1) := o42 ac_cX12_down_16 7 rfl
theorem dX12_down_24 : decode cX12_down 24 = .ok (.invokevirtual 387, 3) := o182 ac_cX12_down_16 8 1 131 rfl
theorem dX12_down_27 : decode cX12_down 27 = .ok (.iinc 1 1, 3) := o132p ac_cX12_down_16 11 1 1 rfl rfl
theorem dX12_down_30 : decode cX12_down 30 = .ok (.goto (-24), 3) := o167n ac_cX12_down_16 14 255 232 23 rfl rfl rfl
def kb_cX12_down_32 : List Nat := [232, 16, 254, 172]
theorem ac_cX12_down_32 : AL cX12_down 32 kb_cX12_down_32 := AL.of (m := 4) (by decide +kernel)
theorem dX12_down_33 : decode cX12_down 33 = .ok (.bipush (-2), 2) := o16n ac_cX12_down_32 1 254 1 rfl rfl rfl
theorem dX12_down_35 : decode cX12_down 35 = .ok (.ireturn, 1) := o172 ac_cX12_down_32 3 rfl
theorem dX12_glitterBits_45 : decode cX12_glitterBits 45 = .ok (.iconst 0, 1) := o3 ac_cX12_glitterBits_32 13 rfl
theorem dX12_glitterBits_46 : decode cX12_glitterBits 46 = .ok (.istore 4, 2) := o54 ac_cX12_glitterBits_32 14 4 rfl
def kb_cX12_glitterBits_48 : List Nat := [21, 4, 16, 7, 162, 0, 48, 42, 180, 0, 131, 42, 180, 0, 125, 29, 46, 46, 21, 4]
theorem ac_cX12_glitterBits_48 : AL cX12_glitterBits 48 kb_cX12_glitterBits_48 := AL.of (m := 20) (by decide +kernel)
theorem dX12_glitterBits_48 : decode cX12_glitterBits 48 = .ok (.iload 4, 2) := o21 ac_cX12_glitterBits_48 0 4 rfl
theorem dX12_glitterBits_50 : decode cX12_glitterBits 50 = .ok (.bipush 7, 2) := o16p ac_cX12_glitterBits_48 2 7 rfl rfl
theorem dX12_glitterBits_52 : decode cX12_glitterBits 52 = .ok (.if_icmp .ge 48, 3) := o162p ac_cX12_glitterBits_48 4 0 48 rfl rfl
theorem dX12_glitterBits_55 : decode cX12_glitterBits 55 = .ok (.aload_n 0, 1) := o42 ac_cX12_glitterBits_48 7 rfl
theorem dX12_glitterBits_56 : decode cX12_glitterBits 56 = .ok (.getfield 131, 3) := o180 ac_cX12_glitterBits_48 8 0 131 rfl
theorem dX12_glitterBits_59 : decode cX12_glitterBits 59 = .ok (.aload_n 0, 1) := o42 ac_cX12_glitterBits_48 11 rfl
theorem dX12_glitterBits_60 : decode cX12_glitterBits 60 = .ok (.getfield 125, 3) := o180 ac_cX12_glitterBits_48 12 0 125 rfl
theorem dX12_glitterBits_63 : decode cX12_glitterBits 63 = .ok (.iload_n 3, 1) := o29 ac_cX12_glitterBits_48 15 rfl
def kb_cX12_glitterBits_64 : List Nat := [46, 46, 21, 4, 160, 0, 7, 4, 167, 0, 4, 3, 42, 180, 0, 128, 29, 51, 159, 0]
theorem ac_cX12_glitterBits_64 : AL cX12_glitterBits 64 kb_cX12_glitterBits_64 := AL.of (m := 20) (by decide +kernel)
theorem dX12_glitterBits_64 : decode cX12_glitterBits 64 = .ok (.iaload, 1) := o46 ac_cX12_glitterBits_64 0 rfl
theorem dX12_glitterBits_65 : decode cX12_glitterBits 65 = .ok (.iaload, 1) := o46 ac_cX12_glitterBits_64 1 rfl
theorem dX12_glitterBits_66 : decode cX12_glitterBits 66 = .ok (.iload 4, 2) := o21 ac_cX12_glitterBits_64 2 4 rfl
theorem dX12_glitterBits_68 : decode cX12_glitterBits 68 = .ok (.if_icmp .ne 7, 3) := o160p ac_cX12_glitterBits_64 4 0 7 rfl rfl
theorem dX12_glitterBits_71 : decode cX12_glitterBits 71 = .ok (.iconst 1, 1) := o4 ac_cX12_glitterBits_64 7 rfl
theorem dX12_glitterBits_72 : decode cX12_glitterBits 72 = .ok (.goto 4, 3) := o167p ac_cX12_glitterBits_64 8 0 4 rfl rfl
theorem dX12_glitterBits_75 : decode cX12_glitterBits 75 = .ok (.iconst 0, 1) := o3 ac_cX12_glitterBits_64 11 rfl
theorem dX12_glitterBits_76 : decode cX12_glitterBits 76 = .ok (.aload_n 0, 1) := o42 ac_cX12_glitterBits_64 12 rfl
theorem dX12_glitterBits_77 : decode cX12_glitterBits 77 = .ok (.getfield 128, 3) := o180 ac_cX12_glitterBits_64 13 0 128 rfl
def kb_cX12_glitterBits_80 : List Nat := [29, 51, 159, 0, 12, 28, 4, 21, 4, 120, 2, 130, 126, 61, 132, 4, 1, 167, 255, 207]
theorem ac_cX12_glitterBits_80 : AL cX12_glitterBits 80 kb_cX12_glitterBits_80 := AL.of (m := 20) (by decide +kernel)
theorem dX12_glitterBits_80 : decode cX12_glitterBits 80 = .ok (.iload_n 3, 1) := o29 ac_cX12_glitterBits_80 0 rfl
theorem dX12_glitterBits_81 : decode cX12_glitterBits 81 = .ok (.baload, 1) := o51 ac_cX12_glitterBits_80 1 rfl
theorem dX12_glitterBits_82 : decode cX12_glitterBits 82 = .ok (.if_icmp .eq 12, 3) := o159p ac_cX12_glitterBits_80 2 0 12 rfl rfl
theorem dX12_glitterBits_85 : decode cX12_glitterBits 85 = .ok (.iload_n 2, 1) := o28 ac_cX12_glitterBits_80 5 rfl
theorem dX12_glitterBits_86 : decode cX12_glitterBits 86 = .ok (.iconst 1, 1) := o4 ac_cX12_glitterBits_80 6 rfl
theorem dX12_glitterBits_87 : decode cX12_glitterBits 87 = .ok (.iload 4, 2) := o21 ac_cX12_glitterBits_80 7 4 rfl
theorem dX12_glitterBits_89 : decode cX12_glitterBits 89 = .ok (.ishl, 1) := o120 ac_cX12_glitterBits_80 9 rfl
theorem dX12_glitterBits_90 : decode cX12_glitterBits 90 = .ok (.iconst (-1), 1) := o2 ac_cX12_glitterBits_80 10 rfl
theorem dX12_glitterBits_91 : decode cX12_glitterBits 91 = .ok (.ixor, 1) := o130 ac_cX12_glitterBits_80 11 rfl
theorem dX12_glitterBits_92 : decode cX12_glitterBits 92 = .ok (.iand, 1) := o126 ac_cX12_glitterBits_80 12 rfl
theorem dX12_glitterBits_93 : decode cX12_glitterBits 93 = .ok (.istore_n 2, 1) := o61 ac_cX12_glitterBits_80 13 rfl
theorem dX12_glitterBits_94 : decode cX12_glitterBits 94 = .ok (.iinc 4 1, 3) := o132p ac_cX12_glitterBits_80 14 4 1 rfl rfl
theorem dX12_glitterBits_97 : decode cX12_glitterBits 97 = .ok (.goto (-49), 3) := o167n ac_cX12_glitterBits_96 1 255 207 48 rfl rfl rfl
theorem dX12_glitterBits_100 : decode cX12_glitterBits 100 = .ok (.iinc 3 1, 3) := o132p ac_cX12_glitterBits_96 4 3 1 rfl rfl
theorem dX12_glitterBits_103 : decode cX12_glitterBits 103 = .ok (.goto (-63), 3) := o167n ac_cX12_glitterBits_96 7 255 193 62 rfl rfl rfl
theorem dX12_watch_46 : decode cX12_watch 46 = .ok (.aload_n 0, 1) := o42 ac_cX12_watch_32 14 rfl
theorem dX12_watch_47 : decode cX12_watch 47 = .ok (.getfield 131, 3) := o180 ac_cX12_watch_32 15 0 131 rfl
def kb_cX12_watch_48 : List Nat := [0, 131, 21, 6, 46, 155, 0, 22, 28, 42, 180, 0, 131, 21, 6, 46, 122, 4, 126, 4]
theorem ac_cX12_watch_48 : AL cX12_watch 48 kb_cX12_watch_48 := AL.of (m := 20) (by decide +kernel)
theorem dX12_watch_50 : decode cX12_watch 50 = .ok (.iload 6, 2) := o21 ac_cX12_watch_48 2 6 rfl
theorem dX12_watch_52 : decode cX12_watch 52 = .ok (.iaload, 1) := o46 ac_cX12_watch_48 4 rfl
theorem dX12_watch_53 : decode cX12_watch 53 = .ok (.ifCond .lt 22, 3) := o155p ac_cX12_watch_48 5 0 22 rfl rfl
theorem dX12_watch_56 : decode cX12_watch 56 = .ok (.iload_n 2, 1) := o28 ac_cX12_watch_48 8 rfl
theorem dX12_watch_57 : decode cX12_watch 57 = .ok (.aload_n 0, 1) := o42 ac_cX12_watch_48 9 rfl
theorem dX12_watch_58 : decode cX12_watch 58 = .ok (.getfield 131, 3) := o180 ac_cX12_watch_48 10 0 131 rfl
theorem dX12_watch_61 : decode cX12_watch 61 = .ok (.iload 6, 2) := o21 ac_cX12_watch_48 13 6 rfl
theorem dX12_watch_63 : decode cX12_watch 63 = .ok (.iaload, 1) := o46 ac_cX12_watch_48 15 rfl
def kb_cX12_watch_64 : List Nat := [122, 4, 126, 4, 160, 0, 7, 4, 167, 0, 4, 3, 54, 7, 21, 7, 29, 21, 7, 100]
theorem ac_cX12_watch_64 : AL cX12_watch 64 kb_cX12_watch_64 := AL.of (m := 20) (by decide +kernel)
theorem dX12_watch_64 : decode cX12_watch 64 = .ok (.ishr, 1) := o122 ac_cX12_watch_64 0 rfl
theorem dX12_watch_65 : decode cX12_watch 65 = .ok (.iconst 1, 1) := o4 ac_cX12_watch_64 1 rfl
theorem dX12_watch_66 : decode cX12_watch 66 = .ok (.iand, 1) := o126 ac_cX12_watch_64 2 rfl
theorem dX12_watch_67 : decode cX12_watch 67 = .ok (.iconst 1, 1) := o4 ac_cX12_watch_64 3 rfl
theorem dX12_watch_68 : decode cX12_watch 68 = .ok (.if_icmp .ne 7, 3) := o160p ac_cX12_watch_64 4 0 7 rfl rfl
theorem dX12_watch_71 : decode cX12_watch 71 = .ok (.iconst 1, 1) := o4 ac_cX12_watch_64 7 rfl
theorem dX12_watch_72 : decode cX12_watch 72 = .ok (.goto 4, 3) := o167p ac_cX12_watch_64 8 0 4 rfl rfl
theorem dX12_watch_75 : decode cX12_watch 75 = .ok (.iconst 0, 1) := o3 ac_cX12_watch_64 11 rfl
theorem dX12_watch_76 : decode cX12_watch 76 = .ok (.istore 7, 2) := o54 ac_cX12_watch_64 12 7 rfl
theorem dX12_watch_78 : decode cX12_watch 78 = .ok (.iload 7, 2) := o21 ac_cX12_watch_64 14 7 rfl
def kb_cX12_watch_80 : List Nat := [29, 21, 7, 100, 164, 0, 8, 21, 7, 167, 0, 7, 29, 21, 7, 100, 54, 8, 21, 4]
theorem ac_cX12_watch_80 : AL cX12_watch 80 kb_cX12_watch_80 := AL.of (m := 20) (by decide +kernel)
theorem dX12_watch_80 : decode cX12_watch 80 = .ok (.iload_n 3, 1) := o29 ac_cX12_watch_80 0 rfl
theorem dX12_watch_81 : decode cX12_watch 81 = .ok (.iload 7, 2) := o21 ac_cX12_watch_80 1 7 rfl
theorem dX12_watch_83 : decode cX12_watch 83 = .ok (.isub, 1) := o100 ac_cX12_watch_80 3 rfl
theorem dX12_watch_84 : decode cX12_watch 84 = .ok (.if_icmp .le 8, 3) := o164p ac_cX12_watch_80 4 0 8 rfl rfl
theorem dX12_watch_87 : decode cX12_watch 87 = .ok (.iload 7, 2) := o21 ac_cX12_watch_80 7 7 rfl
theorem dX12_watch_89 : decode cX12_watch 89 = .ok (.goto 7, 3) := o167p ac_cX12_watch_80 9 0 7 rfl rfl
theorem dX12_watch_92 : decode cX12_watch 92 = .ok (.iload_n 3, 1) := o29 ac_cX12_watch_80 12 rfl
theorem dX12_watch_93 : decode cX12_watch 93 = .ok (.iload 7, 2) := o21 ac_cX12_watch_80 13 7 rfl
theorem dX12_watch_95 : decode cX12_watch 95 = .ok (.isub, 1) := o100 ac_cX12_watch_80 15 rfl
def kb_cX12_watch_96 : List Nat := [54, 8, 21, 4, 155, 0, 13, 21, 8, 21, 5, 161, 0, 6, 167, 0, 11, 21, 6, 54]
theorem ac_cX12_watch_96 : AL cX12_watch 96 kb_cX12_watch_96 := AL.of (m := 20) (by decide +kernel)
theorem dX12_watch_96 : decode cX12_watch 96 = .ok (.istore 8, 2) := o54 ac_cX12_watch_96 0 8 rfl
theorem dX12_watch_98 : decode cX12_watch 98 = .ok (.iload 4, 2) := o21 ac_cX12_watch_96 2 4 rfl
theorem dX12_watch_100 : decode cX12_watch 100 = .ok (.ifCond .lt 13, 3) := o155p ac_cX12_watch_96 4 0 13 rfl rfl
theorem dX12_watch_103 : decode cX12_watch 103 = .ok (.iload 8, 2) := o21 ac_cX12_watch_96 7 8 rfl
theorem dX12_watch_105 : decode cX12_watch 105 = .ok (.iload 5, 2) := o21 ac_cX12_watch_96 9 5 rfl
theorem dX12_watch_107 : decode cX12_watch 107 = .ok (.if_icmp .lt 6, 3) := o161p ac_cX12_watch_96 11 0 6 rfl rfl
theorem dX12_watch_110 : decode cX12_watch 110 = .ok (.goto 11, 3) := o167p ac_cX12_watch_96 14 0 11 rfl rfl
theorem dX12_watch_113 : decode cX12_watch 113 = .ok (.iload 6, 2) := o21 ac_cX12_watch_112 1 6 rfl
theorem dX12_watch_115 : decode cX12_watch 115 = .ok (.istore 4, 2) := o54 ac_cX12_watch_112 3 4 rfl
theorem dX12_watch_117 : decode cX12_watch 117 = .ok (.iload 8, 2) := o21 ac_cX12_watch_112 5 8 rfl
theorem dX12_watch_119 : decode cX12_watch 119 = .ok (.istore 5, 2) := o54 ac_cX12_watch_112 7 5 rfl
theorem dX12_watch_121 : decode cX12_watch 121 = .ok (.iinc 6 1, 3) := o132p ac_cX12_watch_112 9 6 1 rfl rfl
theorem dX12_watch_124 : decode cX12_watch 124 = .ok (.goto (-89), 3) := o167n ac_cX12_watch_112 12 255 167 88 rfl rfl rfl
theorem dX12_count_187 : decode cX12_count 187 = .ok (.iconst 1, 1) := o4 ac_cX12_count_176 11 rfl
theorem dX12_count_188 : decode cX12_count 188 = .ok (.goto 4, 3) := o167p ac_cX12_count_176 12 0 4 rfl rfl
theorem dX12_count_201 : decode cX12_count 201 = .ok (.iconst 1, 1) := o4 ac_cX12_count_192 9 rfl
theorem dX12_count_202 : decode cX12_count 202 = .ok (.goto 4, 3) := o167p ac_cX12_count_192 10 0 4 rfl rfl
theorem dX12_count_216 : decode cX12_count 216 = .ok (.iconst 1, 1) := o4 ac_cX12_count_208 8 rfl
theorem dX12_count_217 : decode cX12_count 217 = .ok (.goto 4, 3) := o167p ac_cX12_count_208 9 0 4 rfl rfl
theorem dX12_thing_10 : decode cX12_thing 10 = .ok (.iload_n 2, 1) := o28 ac_cX12_thing_0 10 rfl
theorem dX12_thing_11 : decode cX12_thing 11 = .ok (.tableswitch 104 0 4 #[33, 48, 63, 70, 94], 33) := by decide +kernel
def kb_cX12_thing_32 : List Nat := [0, 0, 0, 63, 0, 0, 0, 70, 0, 0, 0, 94, 42, 180, 0, 46, 16, 7, 42, 180]
theorem ac_cX12_thing_32 : AL cX12_thing 32 kb_cX12_thing_32 := AL.of (m := 20) (by decide +kernel)
theorem dX12_thing_44 : decode cX12_thing 44 = .ok (.aload_n 0, 1) := o42 ac_cX12_thing_32 12 rfl
theorem dX12_thing_45 : decode cX12_thing 45 = .ok (.getfield 46, 3) := o180 ac_cX12_thing_32 13 0 46 rfl
def kb_cX12_thing_48 : List Nat := [16, 7, 42, 180, 0, 221, 104, 27, 96, 46, 172, 42, 180, 0, 49, 16, 7, 42, 180, 0]
theorem ac_cX12_thing_48 : AL cX12_thing 48 kb_cX12_thing_48 := AL.of (m := 20) (by decide +kernel)
theorem dX12_thing_48 : decode cX12_thing 48 = .ok (.bipush 7, 2) := o16p ac_cX12_thing_48 0 7 rfl rfl
theorem dX12_thing_50 : decode cX12_thing 50 = .ok (.aload_n 0, 1) := o42 ac_cX12_thing_48 2 rfl
theorem dX12_thing_51 : decode cX12_thing 51 = .ok (.getfield 221, 3) := o180 ac_cX12_thing_48 3 0 221 rfl
theorem dX12_thing_54 : decode cX12_thing 54 = .ok (.imul, 1) := o104 ac_cX12_thing_48 6 rfl
theorem dX12_thing_55 : decode cX12_thing 55 = .ok (.iload_n 1, 1) := o27 ac_cX12_thing_48 7 rfl
theorem dX12_thing_56 : decode cX12_thing 56 = .ok (.iadd, 1) := o96 ac_cX12_thing_48 8 rfl
theorem dX12_thing_57 : decode cX12_thing 57 = .ok (.iaload, 1) := o46 ac_cX12_thing_48 9 rfl
theorem dX12_thing_58 : decode cX12_thing 58 = .ok (.ireturn, 1) := o172 ac_cX12_thing_48 10 rfl
theorem dX12_thing_59 : decode cX12_thing 59 = .ok (.aload_n 0, 1) := o42 ac_cX12_thing_48 11 rfl
theorem dX12_thing_60 : decode cX12_thing 60 = .ok (.getfield 49, 3) := o180 ac_cX12_thing_48 12 0 49 rfl
theorem dX12_thing_63 : decode cX12_thing 63 = .ok (.bipush 7, 2) := o16p ac_cX12_thing_48 15 7 rfl rfl
def kb_cX12_thing_64 : List Nat := [7, 42, 180, 0, 221, 104, 27, 96, 46, 172, 42, 180, 0, 107, 27, 46, 172, 42, 180, 0]
theorem ac_cX12_thing_64 : AL cX12_thing 64 kb_cX12_thing_64 := AL.of (m := 20) (by decide +kernel)
theorem dX12_thing_65 : decode cX12_thing 65 = .ok (.aload_n 0, 1) := o42 ac_cX12_thing_64 1 rfl
theorem dX12_thing_66 : decode cX12_thing 66 = .ok (.getfield 221, 3) := o180 ac_cX12_thing_64 2 0 221 rfl
theorem dX12_thing_69 : decode cX12_thing 69 = .ok (.imul, 1) := o104 ac_cX12_thing_64 5 rfl
theorem dX12_thing_70 : decode cX12_thing 70 = .ok (.iload_n 1, 1) := o27 ac_cX12_thing_64 6 rfl
theorem dX12_thing_71 : decode cX12_thing 71 = .ok (.iadd, 1) := o96 ac_cX12_thing_64 7 rfl
theorem dX12_thing_72 : decode cX12_thing 72 = .ok (.iaload, 1) := o46 ac_cX12_thing_64 8 rfl
theorem dX12_thing_73 : decode cX12_thing 73 = .ok (.ireturn, 1) := o172 ac_cX12_thing_64 9 rfl
theorem dX12_thing_74 : decode cX12_thing 74 = .ok (.aload_n 0, 1) := o42 ac_cX12_thing_64 10 rfl
theorem dX12_thing_75 : decode cX12_thing 75 = .ok (.getfield 107, 3) := o180 ac_cX12_thing_64 11 0 107 rfl
theorem dX12_thing_78 : decode cX12_thing 78 = .ok (.iload_n 1, 1) := o27 ac_cX12_thing_64 14 rfl
theorem dX12_thing_79 : decode cX12_thing 79 = .ok (.iaload, 1) := o46 ac_cX12_thing_64 15 rfl
def kb_cX12_thing_80 : List Nat := [172, 42, 180, 0, 107, 27, 46, 154, 0, 15, 42, 180, 0, 107, 16, 7, 27, 96, 46, 167]
theorem ac_cX12_thing_80 : AL cX12_thing 80 kb_cX12_thing_80 := AL.of (m := 20) (by decide +kernel)
theorem dX12_thing_80 : decode cX12_thing 80 = .ok (.ireturn, 1) := o172 ac_cX12_thing_80 0 rfl
theorem dX12_thing_81 : decode cX12_thing 81 = .ok (.aload_n 0, 1) := o42 ac_cX12_thing_80 1 rfl
theorem dX12_thing_82 : decode cX12_thing 82 = .ok (.getfield 107, 3) := o180 ac_cX12_thing_80 2 0 107 rfl
theorem dX12_thing_85 : decode cX12_thing 85 = .ok (.iload_n 1, 1) := o27 ac_cX12_thing_80 5 rfl
theorem dX12_thing_86 : decode cX12_thing 86 = .ok (.iaload, 1) := o46 ac_cX12_thing_80 6 rfl
theorem dX12_thing_87 : decode cX12_thing 87 = .ok (.ifCond .ne 15, 3) := o154p ac_cX12_thing_80 7 0 15 rfl rfl
theorem dX12_thing_90 : decode cX12_thing 90 = .ok (.aload_n 0, 1) := o42 ac_cX12_thing_80 10 rfl
theorem dX12_thing_91 : decode cX12_thing 91 = .ok (.getfield 107, 3) := o180 ac_cX12_thing_80 11 0 107 rfl
theorem dX12_thing_94 : decode cX12_thing 94 = .ok (.bipush 7, 2) := o16p ac_cX12_thing_80 14 7 rfl rfl
def kb_cX12_thing_96 : List Nat := [27, 96, 46, 167, 0, 5, 16, 254, 172, 42, 180, 0, 107, 16, 14, 27, 96, 46, 172, 2]
theorem ac_cX12_thing_96 : AL cX12_thing 96 kb_cX12_thing_96 := AL.of (m := 20) (by decide +kernel)
theorem dX12_thing_96 : decode cX12_thing 96 = .ok (.iload_n 1, 1) := o27 ac_cX12_thing_96 0 rfl
theorem dX12_thing_97 : decode cX12_thing 97 = .ok (.iadd, 1) := o96 ac_cX12_thing_96 1 rfl
theorem dX12_thing_98 : decode cX12_thing 98 = .ok (.iaload, 1) := o46 ac_cX12_thing_96 2 rfl
theorem dX12_thing_99 : decode cX12_thing 99 = .ok (.goto 5, 3) := o167p ac_cX12_thing_96 3 0 5 rfl rfl
theorem dX12_thing_102 : decode cX12_thing 102 = .ok (.bipush (-2), 2) := o16n ac_cX12_thing_96 6 254 1 rfl rfl rfl
theorem dX12_thing_104 : decode cX12_thing 104 = .ok (.ireturn, 1) := o172 ac_cX12_thing_96 8 rfl
theorem dX12_thing_105 : decode cX12_thing 105 = .ok (.aload_n 0, 1) := o42 ac_cX12_thing_96 9 rfl
theorem dX12_thing_106 : decode cX12_thing 106 = .ok (.getfield 107, 3) := o180 ac_cX12_thing_96 10 0 107 rfl
theorem dX12_thing_109 : decode cX12_thing 109 = .ok (.bipush 14, 2) := o16p ac_cX12_thing_96 13 14 rfl rfl
theorem dX12_thing_111 : decode cX12_thing 111 = .ok (.iload_n 1, 1) := o27 ac_cX12_thing_96 15 rfl
def kb_cX12_thing_112 : List Nat := [96, 46, 172, 2, 172]
theorem ac_cX12_thing_112 : AL cX12_thing 112 kb_cX12_thing_112 := AL.of (m := 5) (by decide +kernel)
theorem dX12_thing_112 : decode cX12_thing 112 = .ok (.iadd, 1) := o96 ac_cX12_thing_112 0 rfl
theorem dX12_thing_113 : decode cX12_thing 113 = .ok (.iaload, 1) := o46 ac_cX12_thing_112 1 rfl
theorem dX12_thing_114 : decode cX12_thing 114 = .ok (.ireturn, 1) := o172 ac_cX12_thing_112 2 rfl
theorem dX12_thing_115 : decode cX12_thing 115 = .ok (.iconst (-1), 1) := o2 ac_cX12_thing_112 3 rfl
theorem dX12_thing_116 : decode cX12_thing 116 = .ok (.ireturn, 1) := o172 ac_cX12_thing_112 4 rfl
theorem dX12_pattern_8 : decode cX12_pattern 8 = .ok (.iload_n 2, 1) := o28 ac_cX12_pattern_0 8 rfl
theorem dX12_pattern_9 : decode cX12_pattern 9 = .ok (.iconst (-1), 1) := o2 ac_cX12_pattern_0 9 rfl
theorem dX12_pattern_10 : decode cX12_pattern 10 = .ok (.aload_n 0, 1) := o42 ac_cX12_pattern_0 10 rfl
theorem dX12_pattern_11 : decode cX12_pattern 11 = .ok (.iload_n 1, 1) := o27 ac_cX12_pattern_0 11 rfl
theorem dX12_pattern_12 : decode cX12_pattern 12 = .ok (.invokevirtual 318, 3) := o182 ac_cX12_pattern_0 12 1 62 rfl
theorem dX12_pattern_15 : decode cX12_pattern 15 = .ok (.iconst 1, 1) := o4 ac_cX12_pattern_0 15 rfl
theorem dX12_pattern_16 : decode cX12_pattern 16 = .ok (.isub, 1) := o100 ac_cX12_pattern_16 0 rfl
theorem dX12_pattern_17 : decode cX12_pattern 17 = .ok (.invokestatic 301, 3) := o184 ac_cX12_pattern_16 1 1 45 rfl
theorem dX12_pattern_20 : decode cX12_pattern 20 = .ok (.ifCond .ne 5, 3) := o154p ac_cX12_pattern_16 4 0 5 rfl rfl
theorem dX12_pattern_25 : decode cX12_pattern 25 = .ok (.iload_n 2, 1) := o28 ac_cX12_pattern_16 9 rfl
theorem dX12_pattern_26 : decode cX12_pattern 26 = .ok (.iconst (-1), 1) := o2 ac_cX12_pattern_16 10 rfl
theorem dX12_pattern_27 : decode cX12_pattern 27 = .ok (.if_icmp .ne 11, 3) := o160p ac_cX12_pattern_16 11 0 11 rfl rfl
theorem dX12_pattern_30 : decode cX12_pattern 30 = .ok (.aload_n 0, 1) := o42 ac_cX12_pattern_16 14 rfl
theorem dX12_pattern_31 : decode cX12_pattern 31 = .ok (.iload_n 1, 1) := o27 ac_cX12_pattern_16 15 rfl
def kb_cX12_pattern_32 : List Nat := [182, 1, 62, 167, 0, 9, 42, 27, 28, 182, 1, 65, 172]
theorem ac_cX12_pattern_32 : AL cX12_pattern 32 kb_cX12_pattern_32 := AL.of (m := 13) (by decide +kernel)
theorem dX12_pattern_32 : decode cX12_pattern 32 = .ok (.invokevirtual 318, 3) := o182 ac_cX12_pattern_32 0 1 62 rfl
theorem dX12_pattern_35 : decode cX12_pattern 35 = .ok (.goto 9, 3) := o167p ac_cX12_pattern_32 3 0 9 rfl rfl
theorem dX12_pattern_38 : decode cX12_pattern 38 = .ok (.aload_n 0, 1) := o42 ac_cX12_pattern_32 6 rfl
theorem dX12_pattern_39 : decode cX12_pattern 39 = .ok (.iload_n 1, 1) := o27 ac_cX12_pattern_32 7 rfl
theorem dX12_pattern_40 : decode cX12_pattern 40 = .ok (.iload_n 2, 1) := o28 ac_cX12_pattern_32 8 rfl
theorem dX12_pattern_41 : decode cX12_pattern 41 = .ok (.invokevirtual 321, 3) := o182 ac_cX12_pattern_32 9 1 65 rfl
theorem dX12_pattern_44 : decode cX12_pattern 44 = .ok (.ireturn, 1) := o172 ac_cX12_pattern_32 12 rfl
theorem dX12_tells_8 : decode cX12_tells 8 = .ok (.iload_n 3, 1) := o29 ac_cX12_tells_0 8 rfl
theorem dX12_tells_9 : decode cX12_tells 9 = .ok (.iconst 0, 1) := o3 ac_cX12_tells_0 9 rfl
theorem dX12_tells_10 : decode cX12_tells 10 = .ok (.iconst 3, 1) := o6 ac_cX12_tells_0 10 rfl
theorem dX12_tells_11 : decode cX12_tells 11 = .ok (.invokestatic 301, 3) := o184 ac_cX12_tells_0 11 1 45 rfl
theorem dX12_tells_14 : decode cX12_tells 14 = .ok (.ifCond .eq 18, 3) := o153p ac_cX12_tells_0 14 0 18 rfl rfl
def kb_cX12_tells_16 : List Nat := [18, 29, 5, 162, 0, 16, 28, 3, 16, 9, 184, 1, 45, 154, 0, 6, 16, 156, 172, 42]
theorem ac_cX12_tells_16 : AL cX12_tells 16 kb_cX12_tells_16 := AL.of (m := 20) (by decide +kernel)
theorem dX12_tells_17 : decode cX12_tells 17 = .ok (.iload_n 3, 1) := o29 ac_cX12_tells_16 1 rfl
theorem dX12_tells_18 : decode cX12_tells 18 = .ok (.iconst 2, 1) := o5 ac_cX12_tells_16 2 rfl
theorem dX12_tells_19 : decode cX12_tells 19 = .ok (.if_icmp .ge 16, 3) := o162p ac_cX12_tells_16 3 0 16 rfl rfl
theorem dX12_tells_22 : decode cX12_tells 22 = .ok (.iload_n 2, 1) := o28 ac_cX12_tells_16 6 rfl
theorem dX12_tells_23 : decode cX12_tells 23 = .ok (.iconst 0, 1) := o3 ac_cX12_tells_16 7 rfl
theorem dX12_tells_24 : decode cX12_tells 24 = .ok (.bipush 9, 2) := o16p ac_cX12_tells_16 8 9 rfl rfl
theorem dX12_tells_26 : decode cX12_tells 26 = .ok (.invokestatic 301, 3) := o184 ac_cX12_tells_16 10 1 45 rfl
theorem dX12_tells_29 : decode cX12_tells 29 = .ok (.ifCond .ne 6, 3) := o154p ac_cX12_tells_16 13 0 6 rfl rfl
theorem dX12_tells_35 : decode cX12_tells 35 = .ok (.aload_n 0, 1) := o42 ac_cX12_tells_32 3 rfl
theorem dX12_tells_36 : decode cX12_tells 36 = .ok (.invokevirtual 311, 3) := o182 ac_cX12_tells_32 4 1 55 rfl
theorem dX12_tells_39 : decode cX12_tells 39 = .ok (.aload_n 0, 1) := o42 ac_cX12_tells_32 7 rfl
theorem dX12_tells_40 : decode cX12_tells 40 = .ok (.iconst 0, 1) := o3 ac_cX12_tells_32 8 rfl
theorem dX12_tells_41 : decode cX12_tells 41 = .ok (.invokevirtual 350, 3) := o182 ac_cX12_tells_32 9 1 94 rfl
theorem dX12_tells_44 : decode cX12_tells 44 = .ok (.invokestatic 353, 3) := o184 ac_cX12_tells_32 12 1 97 rfl
theorem dX12_tells_47 : decode cX12_tells 47 = .ok (.istore 4, 2) := o54 ac_cX12_tells_32 15 4 rfl
def kb_cX12_tells_48 : List Nat := [4, 29, 154, 0, 14, 42, 27, 28, 21, 4, 182, 1, 100, 167, 0, 41, 29, 4, 160, 0]
theorem ac_cX12_tells_48 : AL cX12_tells 48 kb_cX12_tells_48 := AL.of (m := 20) (by decide +kernel)
theorem dX12_tells_49 : decode cX12_tells 49 = .ok (.iload_n 3, 1) := o29 ac_cX12_tells_48 1 rfl
theorem dX12_tells_50 : decode cX12_tells 50 = .ok (.ifCond .ne 14, 3) := o154p ac_cX12_tells_48 2 0 14 rfl rfl
theorem dX12_tells_53 : decode cX12_tells 53 = .ok (.aload_n 0, 1) := o42 ac_cX12_tells_48 5 rfl
theorem dX12_tells_54 : decode cX12_tells 54 = .ok (.iload_n 1, 1) := o27 ac_cX12_tells_48 6 rfl
theorem dX12_tells_55 : decode cX12_tells 55 = .ok (.iload_n 2, 1) := o28 ac_cX12_tells_48 7 rfl
theorem dX12_tells_56 : decode cX12_tells 56 = .ok (.iload 4, 2) := o21 ac_cX12_tells_48 8 4 rfl
theorem dX12_tells_58 : decode cX12_tells 58 = .ok (.invokevirtual 356, 3) := o182 ac_cX12_tells_48 10 1 100 rfl
theorem dX12_tells_61 : decode cX12_tells 61 = .ok (.goto 41, 3) := o167p ac_cX12_tells_48 13 0 41 rfl rfl
def kb_cX12_tells_64 : List Nat := [29, 4, 160, 0, 14, 42, 27, 28, 21, 4, 182, 1, 115, 167, 0, 25, 29, 5, 160, 0]
theorem ac_cX12_tells_64 : AL cX12_tells 64 kb_cX12_tells_64 := AL.of (m := 20) (by decide +kernel)
theorem dX12_tells_64 : decode cX12_tells 64 = .ok (.iload_n 3, 1) := o29 ac_cX12_tells_64 0 rfl
theorem dX12_tells_65 : decode cX12_tells 65 = .ok (.iconst 1, 1) := o4 ac_cX12_tells_64 1 rfl
theorem dX12_tells_66 : decode cX12_tells 66 = .ok (.if_icmp .ne 14, 3) := o160p ac_cX12_tells_64 2 0 14 rfl rfl
theorem dX12_tells_69 : decode cX12_tells 69 = .ok (.aload_n 0, 1) := o42 ac_cX12_tells_64 5 rfl
theorem dX12_tells_70 : decode cX12_tells 70 = .ok (.iload_n 1, 1) := o27 ac_cX12_tells_64 6 rfl
theorem dX12_tells_71 : decode cX12_tells 71 = .ok (.iload_n 2, 1) := o28 ac_cX12_tells_64 7 rfl
theorem dX12_tells_72 : decode cX12_tells 72 = .ok (.iload 4, 2) := o21 ac_cX12_tells_64 8 4 rfl
theorem dX12_tells_74 : decode cX12_tells 74 = .ok (.invokevirtual 371, 3) := o182 ac_cX12_tells_64 10 1 115 rfl
theorem dX12_tells_77 : decode cX12_tells 77 = .ok (.goto 25, 3) := o167p ac_cX12_tells_64 13 0 25 rfl rfl
def kb_cX12_tells_80 : List Nat := [29, 5, 160, 0, 13, 42, 27, 21, 4, 182, 1, 106, 167, 0, 10, 42, 27, 21, 4, 182]
theorem ac_cX12_tells_80 : AL cX12_tells 80 kb_cX12_tells_80 := AL.of (m := 20) (by decide +kernel)
theorem dX12_tells_80 : decode cX12_tells 80 = .ok (.iload_n 3, 1) := o29 ac_cX12_tells_80 0 rfl
theorem dX12_tells_81 : decode cX12_tells 81 = .ok (.iconst 2, 1) := o5 ac_cX12_tells_80 1 rfl
theorem dX12_tells_82 : decode cX12_tells 82 = .ok (.if_icmp .ne 13, 3) := o160p ac_cX12_tells_80 2 0 13 rfl rfl
theorem dX12_tells_85 : decode cX12_tells 85 = .ok (.aload_n 0, 1) := o42 ac_cX12_tells_80 5 rfl
theorem dX12_tells_86 : decode cX12_tells 86 = .ok (.iload_n 1, 1) := o27 ac_cX12_tells_80 6 rfl
theorem dX12_tells_87 : decode cX12_tells 87 = .ok (.iload 4, 2) := o21 ac_cX12_tells_80 7 4 rfl
theorem dX12_tells_89 : decode cX12_tells 89 = .ok (.invokevirtual 362, 3) := o182 ac_cX12_tells_80 9 1 106 rfl
theorem dX12_tells_92 : decode cX12_tells 92 = .ok (.goto 10, 3) := o167p ac_cX12_tells_80 12 0 10 rfl rfl
theorem dX12_tells_95 : decode cX12_tells 95 = .ok (.aload_n 0, 1) := o42 ac_cX12_tells_80 15 rfl
def kb_cX12_tells_96 : List Nat := [27, 21, 4, 182, 1, 103, 172]
theorem ac_cX12_tells_96 : AL cX12_tells 96 kb_cX12_tells_96 := AL.of (m := 7) (by decide +kernel)
theorem dX12_tells_96 : decode cX12_tells 96 = .ok (.iload_n 1, 1) := o27 ac_cX12_tells_96 0 rfl
theorem dX12_tells_97 : decode cX12_tells 97 = .ok (.iload 4, 2) := o21 ac_cX12_tells_96 1 4 rfl
theorem dX12_tells_99 : decode cX12_tells 99 = .ok (.invokevirtual 359, 3) := o182 ac_cX12_tells_96 3 1 103 rfl
theorem dX12_tells_102 : decode cX12_tells 102 = .ok (.ireturn, 1) := o172 ac_cX12_tells_96 6 rfl
theorem dX12_closes_8 : decode cX12_closes 8 = .ok (.iload_n 2, 1) := o28 ac_cX12_closes_0 8 rfl
theorem dX12_closes_9 : decode cX12_closes 9 = .ok (.iconst 0, 1) := o3 ac_cX12_closes_0 9 rfl
theorem dX12_closes_10 : decode cX12_closes 10 = .ok (.iconst 1, 1) := o4 ac_cX12_closes_0 10 rfl
theorem dX12_closes_11 : decode cX12_closes 11 = .ok (.invokestatic 301, 3) := o184 ac_cX12_closes_0 11 1 45 rfl
theorem dX12_closes_14 : decode cX12_closes 14 = .ok (.ifCond .eq 15, 3) := o153p ac_cX12_closes_0 14 0 15 rfl rfl
theorem dX12_closes_17 : decode cX12_closes 17 = .ok (.aload_n 0, 1) := o42 ac_cX12_closes_16 1 rfl
theorem dX12_closes_18 : decode cX12_closes 18 = .ok (.iload_n 1, 1) := o27 ac_cX12_closes_16 2 rfl
theorem dX12_closes_19 : decode cX12_closes 19 = .ok (.invokevirtual 417, 3) := o182 ac_cX12_closes_16 3 1 161 rfl
theorem dX12_closes_22 : decode cX12_closes 22 = .ok (.iload_n 2, 1) := o28 ac_cX12_closes_16 6 rfl
theorem dX12_closes_23 : decode cX12_closes 23 = .ok (.invokestatic 420, 3) := o184 ac_cX12_closes_16 7 1 164 rfl
theorem dX12_closes_26 : decode cX12_closes 26 = .ok (.goto 4, 3) := o167p ac_cX12_closes_16 10 0 4 rfl rfl
theorem dX12_joined_8 : decode cX12_joined 8 = .ok (.aload_n 0, 1) := o42 ac_cX12_joined_0 8 rfl
theorem dX12_joined_9 : decode cX12_joined 9 = .ok (.iload_n 2, 1) := o28 ac_cX12_joined_0 9 rfl
theorem dX12_joined_10 : decode cX12_joined 10 = .ok (.invokevirtual 393, 3) := o182 ac_cX12_joined_0 10 1 137 rfl
theorem dX12_joined_13 : decode cX12_joined 13 = .ok (.ifCond .eq 12, 3) := o153p ac_cX12_joined_0 13 0 12 rfl rfl
theorem dX12_joined_16 : decode cX12_joined 16 = .ok (.iload_n 3, 1) := o29 ac_cX12_joined_16 0 rfl
theorem dX12_joined_17 : decode cX12_joined 17 = .ok (.iconst 0, 1) := o3 ac_cX12_joined_16 1 rfl
theorem dX12_joined_18 : decode cX12_joined 18 = .ok (.iconst 1, 1) := o4 ac_cX12_joined_16 2 rfl
theorem dX12_joined_19 : decode cX12_joined 19 = .ok (.invokestatic 301, 3) := o184 ac_cX12_joined_16 3 1 45 rfl
theorem dX12_joined_22 : decode cX12_joined 22 = .ok (.ifCond .ne 5, 3) := o154p ac_cX12_joined_16 6 0 5 rfl rfl
theorem dX12_joined_27 : decode cX12_joined 27 = .ok (.aload_n 0, 1) := o42 ac_cX12_joined_16 11 rfl
theorem dX12_joined_28 : decode cX12_joined 28 = .ok (.iload_n 1, 1) := o27 ac_cX12_joined_16 12 rfl
theorem dX12_joined_29 : decode cX12_joined 29 = .ok (.iconst 0, 1) := o3 ac_cX12_joined_16 13 rfl
theorem dX12_joined_30 : decode cX12_joined 30 = .ok (.invokevirtual 411, 3) := o182 ac_cX12_joined_16 14 1 155 rfl
def kb_cX12_joined_32 : List Nat := [155, 42, 28, 42, 27, 182, 1, 62, 182, 1, 155, 42, 182, 1, 158, 29, 184, 1, 164, 172]
theorem ac_cX12_joined_32 : AL cX12_joined 32 kb_cX12_joined_32 := AL.of (m := 20) (by decide +kernel)
theorem dX12_joined_33 : decode cX12_joined 33 = .ok (.aload_n 0, 1) := o42 ac_cX12_joined_32 1 rfl
theorem dX12_joined_34 : decode cX12_joined 34 = .ok (.iload_n 2, 1) := o28 ac_cX12_joined_32 2 rfl
theorem dX12_joined_35 : decode cX12_joined 35 = .ok (.aload_n 0, 1) := o42 ac_cX12_joined_32 3 rfl
theorem dX12_joined_36 : decode cX12_joined 36 = .ok (.iload_n 1, 1) := o27 ac_cX12_joined_32 4 rfl
theorem dX12_joined_37 : decode cX12_joined 37 = .ok (.invokevirtual 318, 3) := o182 ac_cX12_joined_32 5 1 62 rfl
theorem dX12_joined_40 : decode cX12_joined 40 = .ok (.invokevirtual 411, 3) := o182 ac_cX12_joined_32 8 1 155 rfl
theorem dX12_joined_43 : decode cX12_joined 43 = .ok (.aload_n 0, 1) := o42 ac_cX12_joined_32 11 rfl
theorem dX12_joined_44 : decode cX12_joined 44 = .ok (.invokevirtual 414, 3) := o182 ac_cX12_joined_32 12 1 158 rfl
theorem dX12_joined_47 : decode cX12_joined 47 = .ok (.iload_n 3, 1) := o29 ac_cX12_joined_32 15 rfl
def kb_cX12_joined_48 : List Nat := [184, 1, 164, 172]
theorem ac_cX12_joined_48 : AL cX12_joined 48 kb_cX12_joined_48 := AL.of (m := 4) (by decide +kernel)
theorem dX12_joined_48 : decode cX12_joined 48 = .ok (.invokestatic 420, 3) := o184 ac_cX12_joined_48 0 1 164 rfl
theorem dX12_joined_51 : decode cX12_joined 51 = .ok (.ireturn, 1) := o172 ac_cX12_joined_48 3 rfl
def kb_cX12_isTurned_0 : List Nat := [3, 54, 4, 21, 4, 42, 27, 182, 1, 62, 162, 0, 30, 42, 27, 21, 4, 29, 96, 182]
theorem ac_cX12_isTurned_0 : AL cX12_isTurned 0 kb_cX12_isTurned_0 := AL.of (m := 20) (by decide +kernel)
theorem dX12_isTurned_0 : decode cX12_isTurned 0 = .ok (.iconst 0, 1) := o3 ac_cX12_isTurned_0 0 rfl
theorem dX12_isTurned_1 : decode cX12_isTurned 1 = .ok (.istore 4, 2) := o54 ac_cX12_isTurned_0 1 4 rfl
theorem dX12_isTurned_3 : decode cX12_isTurned 3 = .ok (.iload 4, 2) := o21 ac_cX12_isTurned_0 3 4 rfl
theorem dX12_isTurned_5 : decode cX12_isTurned 5 = .ok (.aload_n 0, 1) := o42 ac_cX12_isTurned_0 5 rfl
theorem dX12_isTurned_6 : decode cX12_isTurned 6 = .ok (.iload_n 1, 1) := o27 ac_cX12_isTurned_0 6 rfl
theorem dX12_isTurned_7 : decode cX12_isTurned 7 = .ok (.invokevirtual 318, 3) := o182 ac_cX12_isTurned_0 7 1 62 rfl
theorem dX12_isTurned_10 : decode cX12_isTurned 10 = .ok (.if_icmp .ge 30, 3) := o162p ac_cX12_isTurned_0 10 0 30 rfl rfl
theorem dX12_isTurned_13 : decode cX12_isTurned 13 = .ok (.aload_n 0, 1) := o42 ac_cX12_isTurned_0 13 rfl
theorem dX12_isTurned_14 : decode cX12_isTurned 14 = .ok (.iload_n 1, 1) := o27 ac_cX12_isTurned_0 14 rfl
theorem dX12_isTurned_15 : decode cX12_isTurned 15 = .ok (.iload 4, 2) := o21 ac_cX12_isTurned_0 15 4 rfl
def kb_cX12_isTurned_16 : List Nat := [4, 29, 96, 182, 1, 65, 42, 28, 21, 4, 182, 1, 65, 159, 0, 5, 3, 172, 132, 4]
theorem ac_cX12_isTurned_16 : AL cX12_isTurned 16 kb_cX12_isTurned_16 := AL.of (m := 20) (by decide +kernel)
theorem dX12_isTurned_17 : decode cX12_isTurned 17 = .ok (.iload_n 3, 1) := o29 ac_cX12_isTurned_16 1 rfl
theorem dX12_isTurned_18 : decode cX12_isTurned 18 = .ok (.iadd, 1) := o96 ac_cX12_isTurned_16 2 rfl
theorem dX12_isTurned_19 : decode cX12_isTurned 19 = .ok (.invokevirtual 321, 3) := o182 ac_cX12_isTurned_16 3 1 65 rfl
theorem dX12_isTurned_22 : decode cX12_isTurned 22 = .ok (.aload_n 0, 1) := o42 ac_cX12_isTurned_16 6 rfl
theorem dX12_isTurned_23 : decode cX12_isTurned 23 = .ok (.iload_n 2, 1) := o28 ac_cX12_isTurned_16 7 rfl
theorem dX12_isTurned_24 : decode cX12_isTurned 24 = .ok (.iload 4, 2) := o21 ac_cX12_isTurned_16 8 4 rfl
theorem dX12_isTurned_26 : decode cX12_isTurned 26 = .ok (.invokevirtual 321, 3) := o182 ac_cX12_isTurned_16 10 1 65 rfl
theorem dX12_isTurned_29 : decode cX12_isTurned 29 = .ok (.if_icmp .eq 5, 3) := o159p ac_cX12_isTurned_16 13 0 5 rfl rfl
def kb_cX12_isTurned_32 : List Nat := [3, 172, 132, 4, 1, 167, 255, 222, 4, 172]
theorem ac_cX12_isTurned_32 : AL cX12_isTurned 32 kb_cX12_isTurned_32 := AL.of (m := 10) (by decide +kernel)
theorem dX12_isTurned_32 : decode cX12_isTurned 32 = .ok (.iconst 0, 1) := o3 ac_cX12_isTurned_32 0 rfl
theorem dX12_isTurned_33 : decode cX12_isTurned 33 = .ok (.ireturn, 1) := o172 ac_cX12_isTurned_32 1 rfl
theorem dX12_isTurned_34 : decode cX12_isTurned 34 = .ok (.iinc 4 1, 3) := o132p ac_cX12_isTurned_32 2 4 1 rfl rfl
theorem dX12_isTurned_37 : decode cX12_isTurned 37 = .ok (.goto (-34), 3) := o167n ac_cX12_isTurned_32 5 255 222 33 rfl rfl rfl
theorem dX12_isTurned_40 : decode cX12_isTurned 40 = .ok (.iconst 1, 1) := o4 ac_cX12_isTurned_32 8 rfl
theorem dX12_isTurned_41 : decode cX12_isTurned 41 = .ok (.ireturn, 1) := o172 ac_cX12_isTurned_32 9 rfl
theorem dX12_turned_8 : decode cX12_turned 8 = .ok (.aload_n 0, 1) := o42 ac_cX12_turned_0 8 rfl
theorem dX12_turned_9 : decode cX12_turned 9 = .ok (.iload_n 2, 1) := o28 ac_cX12_turned_0 9 rfl
theorem dX12_turned_10 : decode cX12_turned 10 = .ok (.invokevirtual 393, 3) := o182 ac_cX12_turned_0 10 1 137 rfl
theorem dX12_turned_13 : decode cX12_turned 13 = .ok (.ifCond .ne 5, 3) := o154p ac_cX12_turned_0 13 0 5 rfl rfl
theorem dX12_turned_18 : decode cX12_turned 18 = .ok (.aload_n 0, 1) := o42 ac_cX12_turned_16 2 rfl
theorem dX12_turned_19 : decode cX12_turned 19 = .ok (.iload_n 1, 1) := o27 ac_cX12_turned_16 3 rfl
theorem dX12_turned_20 : decode cX12_turned 20 = .ok (.invokevirtual 318, 3) := o182 ac_cX12_turned_16 4 1 62 rfl
theorem dX12_turned_23 : decode cX12_turned 23 = .ok (.aload_n 0, 1) := o42 ac_cX12_turned_16 7 rfl
theorem dX12_turned_24 : decode cX12_turned 24 = .ok (.iload_n 2, 1) := o28 ac_cX12_turned_16 8 rfl
theorem dX12_turned_25 : decode cX12_turned 25 = .ok (.invokevirtual 318, 3) := o182 ac_cX12_turned_16 9 1 62 rfl
theorem dX12_turned_28 : decode cX12_turned 28 = .ok (.if_icmp .eq 6, 3) := o159p ac_cX12_turned_16 12 0 6 rfl rfl
theorem dX12_turned_31 : decode cX12_turned 31 = .ok (.bipush (-2), 2) := o16n ac_cX12_turned_16 15 254 1 rfl rfl rfl
def kb_cX12_turned_32 : List Nat := [254, 172, 3, 62, 29, 42, 27, 182, 1, 62, 162, 0, 21, 42, 27, 28, 29, 182, 1, 167]
theorem ac_cX12_turned_32 : AL cX12_turned 32 kb_cX12_turned_32 := AL.of (m := 20) (by decide +kernel)
theorem dX12_turned_33 : decode cX12_turned 33 = .ok (.ireturn, 1) := o172 ac_cX12_turned_32 1 rfl
theorem dX12_turned_34 : decode cX12_turned 34 = .ok (.iconst 0, 1) := o3 ac_cX12_turned_32 2 rfl
theorem dX12_turned_35 : decode cX12_turned 35 = .ok (.istore_n 3, 1) := o62 ac_cX12_turned_32 3 rfl
theorem dX12_turned_36 : decode cX12_turned 36 = .ok (.iload_n 3, 1) := o29 ac_cX12_turned_32 4 rfl
theorem dX12_turned_37 : decode cX12_turned 37 = .ok (.aload_n 0, 1) := o42 ac_cX12_turned_32 5 rfl
theorem dX12_turned_38 : decode cX12_turned 38 = .ok (.iload_n 1, 1) := o27 ac_cX12_turned_32 6 rfl
theorem dX12_turned_39 : decode cX12_turned 39 = .ok (.invokevirtual 318, 3) := o182 ac_cX12_turned_32 7 1 62 rfl
theorem dX12_turned_42 : decode cX12_turned 42 = .ok (.if_icmp .ge 21, 3) := o162p ac_cX12_turned_32 10 0 21 rfl rfl
theorem dX12_turned_45 : decode cX12_turned 45 = .ok (.aload_n 0, 1) := o42 ac_cX12_turned_32 13 rfl
theorem dX12_turned_46 : decode cX12_turned 46 = .ok (.iload_n 1, 1) := o27 ac_cX12_turned_32 14 rfl
theorem dX12_turned_47 : decode cX12_turned 47 = .ok (.iload_n 2, 1) := o28 ac_cX12_turned_32 15 rfl
def kb_cX12_turned_48 : List Nat := [29, 182, 1, 167, 153, 0, 5, 29, 172, 132, 3, 1, 167, 255, 232, 16, 254, 172]
theorem ac_cX12_turned_48 : AL cX12_turned 48 kb_cX12_turned_48 := AL.of (m := 18) (by decide +kernel)
theorem dX12_turned_48 : decode cX12_turned 48 = .ok (.iload_n 3, 1) := o29 ac_cX12_turned_48 0 rfl
theorem dX12_turned_49 : decode cX12_turned 49 = .ok (.invokevirtual 423, 3) := o182 ac_cX12_turned_48 1 1 167 rfl
theorem dX12_turned_52 : decode cX12_turned 52 = .ok (.ifCond .eq 5, 3) := o153p ac_cX12_turned_48 4 0 5 rfl rfl
theorem dX12_turned_55 : decode cX12_turned 55 = .ok (.iload_n 3, 1) := o29 ac_cX12_turned_48 7 rfl
theorem dX12_turned_56 : decode cX12_turned 56 = .ok (.ireturn, 1) := o172 ac_cX12_turned_48 8 rfl
theorem dX12_turned_57 : decode cX12_turned 57 = .ok (.iinc 3 1, 3) := o132p ac_cX12_turned_48 9 3 1 rfl rfl
theorem dX12_turned_60 : decode cX12_turned 60 = .ok (.goto (-24), 3) := o167n ac_cX12_turned_48 12 255 232 23 rfl rfl rfl
theorem dX12_turned_63 : decode cX12_turned 63 = .ok (.bipush (-2), 2) := o16n ac_cX12_turned_48 15 254 1 rfl rfl rfl
def kb_cX12_turned_64 : List Nat := [254, 172]
theorem ac_cX12_turned_64 : AL cX12_turned 64 kb_cX12_turned_64 := AL.of (m := 2) (by decide +kernel)
theorem dX12_turned_65 : decode cX12_turned 65 = .ok (.ireturn, 1) := o172 ac_cX12_turned_64 1 rfl
theorem dX12_span_10 : decode cX12_span 10 = .ok (.iconst 0, 1) := o3 ac_cX12_span_0 10 rfl
theorem dX12_span_11 : decode cX12_span 11 = .ok (.istore_n 2, 1) := o61 ac_cX12_span_0 11 rfl
theorem dX12_span_12 : decode cX12_span 12 = .ok (.iconst 0, 1) := o3 ac_cX12_span_0 12 rfl
theorem dX12_span_13 : decode cX12_span 13 = .ok (.istore_n 3, 1) := o62 ac_cX12_span_0 13 rfl
theorem dX12_span_14 : decode cX12_span 14 = .ok (.iload_n 3, 1) := o29 ac_cX12_span_0 14 rfl
theorem dX12_span_15 : decode cX12_span 15 = .ok (.aload_n 0, 1) := o42 ac_cX12_span_0 15 rfl
def kb_cX12_span_16 : List Nat := [27, 182, 1, 62, 162, 0, 26, 42, 27, 29, 182, 1, 65, 28, 164, 0, 10, 42, 27, 29]
theorem ac_cX12_span_16 : AL cX12_span 16 kb_cX12_span_16 := AL.of (m := 20) (by decide +kernel)
theorem dX12_span_16 : decode cX12_span 16 = .ok (.iload_n 1, 1) := o27 ac_cX12_span_16 0 rfl
theorem dX12_span_17 : decode cX12_span 17 = .ok (.invokevirtual 318, 3) := o182 ac_cX12_span_16 1 1 62 rfl
theorem dX12_span_20 : decode cX12_span 20 = .ok (.if_icmp .ge 26, 3) := o162p ac_cX12_span_16 4 0 26 rfl rfl
theorem dX12_span_23 : decode cX12_span 23 = .ok (.aload_n 0, 1) := o42 ac_cX12_span_16 7 rfl
theorem dX12_span_24 : decode cX12_span 24 = .ok (.iload_n 1, 1) := o27 ac_cX12_span_16 8 rfl
theorem dX12_span_25 : decode cX12_span 25 = .ok (.iload_n 3, 1) := o29 ac_cX12_span_16 9 rfl
theorem dX12_span_26 : decode cX12_span 26 = .ok (.invokevirtual 321, 3) := o182 ac_cX12_span_16 10 1 65 rfl
theorem dX12_span_29 : decode cX12_span 29 = .ok (.iload_n 2, 1) := o28 ac_cX12_span_16 13 rfl
theorem dX12_span_30 : decode cX12_span 30 = .ok (.if_icmp .le 10, 3) := o164p ac_cX12_span_16 14 0 10 rfl rfl
def kb_cX12_span_32 : List Nat := [10, 42, 27, 29, 182, 1, 65, 61, 132, 3, 1, 167, 255, 227, 28, 172]
theorem ac_cX12_span_32 : AL cX12_span 32 kb_cX12_span_32 := AL.of (m := 16) (by decide +kernel)
theorem dX12_span_33 : decode cX12_span 33 = .ok (.aload_n 0, 1) := o42 ac_cX12_span_32 1 rfl
theorem dX12_span_34 : decode cX12_span 34 = .ok (.iload_n 1, 1) := o27 ac_cX12_span_32 2 rfl
theorem dX12_span_35 : decode cX12_span 35 = .ok (.iload_n 3, 1) := o29 ac_cX12_span_32 3 rfl
theorem dX12_span_36 : decode cX12_span 36 = .ok (.invokevirtual 321, 3) := o182 ac_cX12_span_32 4 1 65 rfl
theorem dX12_span_39 : decode cX12_span 39 = .ok (.istore_n 2, 1) := o61 ac_cX12_span_32 7 rfl
theorem dX12_span_40 : decode cX12_span 40 = .ok (.iinc 3 1, 3) := o132p ac_cX12_span_32 8 3 1 rfl rfl
theorem dX12_span_43 : decode cX12_span 43 = .ok (.goto (-29), 3) := o167n ac_cX12_span_32 11 255 227 28 rfl rfl rfl
theorem dX12_span_46 : decode cX12_span 46 = .ok (.iload_n 2, 1) := o28 ac_cX12_span_32 14 rfl
theorem dX12_span_47 : decode cX12_span 47 = .ok (.ireturn, 1) := o172 ac_cX12_span_32 15 rfl
theorem dX12_swaps_10 : decode cX12_swaps 10 = .ok (.iconst 0, 1) := o3 ac_cX12_swaps_0 10 rfl
theorem dX12_swaps_11 : decode cX12_swaps 11 = .ok (.istore_n 2, 1) := o61 ac_cX12_swaps_0 11 rfl
theorem dX12_swaps_12 : decode cX12_swaps 12 = .ok (.iconst 0, 1) := o3 ac_cX12_swaps_0 12 rfl
theorem dX12_swaps_13 : decode cX12_swaps 13 = .ok (.istore_n 3, 1) := o62 ac_cX12_swaps_0 13 rfl
theorem dX12_swaps_14 : decode cX12_swaps 14 = .ok (.iload_n 3, 1) := o29 ac_cX12_swaps_0 14 rfl
theorem dX12_swaps_15 : decode cX12_swaps 15 = .ok (.aload_n 0, 1) := o42 ac_cX12_swaps_0 15 rfl
def kb_cX12_swaps_16 : List Nat := [27, 182, 1, 62, 162, 0, 74, 29, 4, 96, 54, 4, 21, 4, 42, 27, 182, 1, 62, 162]
theorem ac_cX12_swaps_16 : AL cX12_swaps 16 kb_cX12_swaps_16 := AL.of (m := 20) (by decide +kernel)
theorem dX12_swaps_16 : decode cX12_swaps 16 = .ok (.iload_n 1, 1) := o27 ac_cX12_swaps_16 0 rfl
theorem dX12_swaps_17 : decode cX12_swaps 17 = .ok (.invokevirtual 318, 3) := o182 ac_cX12_swaps_16 1 1 62 rfl
theorem dX12_swaps_20 : decode cX12_swaps 20 = .ok (.if_icmp .ge 74, 3) := o162p ac_cX12_swaps_16 4 0 74 rfl rfl
theorem dX12_swaps_23 : decode cX12_swaps 23 = .ok (.iload_n 3, 1) := o29 ac_cX12_swaps_16 7 rfl
theorem dX12_swaps_24 : decode cX12_swaps 24 = .ok (.iconst 1, 1) := o4 ac_cX12_swaps_16 8 rfl
theorem dX12_swaps_25 : decode cX12_swaps 25 = .ok (.iadd, 1) := o96 ac_cX12_swaps_16 9 rfl
theorem dX12_swaps_26 : decode cX12_swaps 26 = .ok (.istore 4, 2) := o54 ac_cX12_swaps_16 10 4 rfl
theorem dX12_swaps_28 : decode cX12_swaps 28 = .ok (.iload 4, 2) := o21 ac_cX12_swaps_16 12 4 rfl
theorem dX12_swaps_30 : decode cX12_swaps 30 = .ok (.aload_n 0, 1) := o42 ac_cX12_swaps_16 14 rfl
theorem dX12_swaps_31 : decode cX12_swaps 31 = .ok (.iload_n 1, 1) := o27 ac_cX12_swaps_16 15 rfl
def kb_cX12_swaps_32 : List Nat := [182, 1, 62, 162, 0, 53, 42, 27, 21, 4, 182, 1, 65, 21, 4, 96, 29, 100, 3, 16]
theorem ac_cX12_swaps_32 : AL cX12_swaps 32 kb_cX12_swaps_32 := AL.of (m := 20) (by decide +kernel)
theorem dX12_swaps_32 : decode cX12_swaps 32 = .ok (.invokevirtual 318, 3) := o182 ac_cX12_swaps_32 0 1 62 rfl
theorem dX12_swaps_35 : decode cX12_swaps 35 = .ok (.if_icmp .ge 53, 3) := o162p ac_cX12_swaps_32 3 0 53 rfl rfl
theorem dX12_swaps_38 : decode cX12_swaps 38 = .ok (.aload_n 0, 1) := o42 ac_cX12_swaps_32 6 rfl
theorem dX12_swaps_39 : decode cX12_swaps 39 = .ok (.iload_n 1, 1) := o27 ac_cX12_swaps_32 7 rfl
theorem dX12_swaps_40 : decode cX12_swaps 40 = .ok (.iload 4, 2) := o21 ac_cX12_swaps_32 8 4 rfl
theorem dX12_swaps_42 : decode cX12_swaps 42 = .ok (.invokevirtual 321, 3) := o182 ac_cX12_swaps_32 10 1 65 rfl
theorem dX12_swaps_45 : decode cX12_swaps 45 = .ok (.iload 4, 2) := o21 ac_cX12_swaps_32 13 4 rfl
theorem dX12_swaps_47 : decode cX12_swaps 47 = .ok (.iadd, 1) := o96 ac_cX12_swaps_32 15 rfl
def kb_cX12_swaps_48 : List Nat := [29, 100, 3, 16, 9, 184, 1, 45, 153, 0, 26, 42, 27, 29, 182, 1, 65, 21, 4, 100]
theorem ac_cX12_swaps_48 : AL cX12_swaps 48 kb_cX12_swaps_48 := AL.of (m := 20) (by decide +kernel)
theorem dX12_swaps_48 : decode cX12_swaps 48 = .ok (.iload_n 3, 1) := o29 ac_cX12_swaps_48 0 rfl
theorem dX12_swaps_49 : decode cX12_swaps 49 = .ok (.isub, 1) := o100 ac_cX12_swaps_48 1 rfl
theorem dX12_swaps_50 : decode cX12_swaps 50 = .ok (.iconst 0, 1) := o3 ac_cX12_swaps_48 2 rfl
theorem dX12_swaps_51 : decode cX12_swaps 51 = .ok (.bipush 9, 2) := o16p ac_cX12_swaps_48 3 9 rfl rfl
theorem dX12_swaps_53 : decode cX12_swaps 53 = .ok (.invokestatic 301, 3) := o184 ac_cX12_swaps_48 5 1 45 rfl
theorem dX12_swaps_56 : decode cX12_swaps 56 = .ok (.ifCond .eq 26, 3) := o153p ac_cX12_swaps_48 8 0 26 rfl rfl
theorem dX12_swaps_59 : decode cX12_swaps 59 = .ok (.aload_n 0, 1) := o42 ac_cX12_swaps_48 11 rfl
theorem dX12_swaps_60 : decode cX12_swaps 60 = .ok (.iload_n 1, 1) := o27 ac_cX12_swaps_48 12 rfl
theorem dX12_swaps_61 : decode cX12_swaps 61 = .ok (.iload_n 3, 1) := o29 ac_cX12_swaps_48 13 rfl
theorem dX12_swaps_62 : decode cX12_swaps 62 = .ok (.invokevirtual 321, 3) := o182 ac_cX12_swaps_48 14 1 65 rfl
def kb_cX12_swaps_64 : List Nat := [65, 21, 4, 100, 29, 96, 3, 16, 9, 184, 1, 45, 153, 0, 6, 132, 2, 1, 132, 4]
theorem ac_cX12_swaps_64 : AL cX12_swaps 64 kb_cX12_swaps_64 := AL.of (m := 20) (by decide +kernel)
theorem dX12_swaps_65 : decode cX12_swaps 65 = .ok (.iload 4, 2) := o21 ac_cX12_swaps_64 1 4 rfl
theorem dX12_swaps_67 : decode cX12_swaps 67 = .ok (.isub, 1) := o100 ac_cX12_swaps_64 3 rfl
theorem dX12_swaps_68 : decode cX12_swaps 68 = .ok (.iload_n 3, 1) := o29 ac_cX12_swaps_64 4 rfl
theorem dX12_swaps_69 : decode cX12_swaps 69 = .ok (.iadd, 1) := o96 ac_cX12_swaps_64 5 rfl
theorem dX12_swaps_70 : decode cX12_swaps 70 = .ok (.iconst 0, 1) := o3 ac_cX12_swaps_64 6 rfl
theorem dX12_swaps_71 : decode cX12_swaps 71 = .ok (.bipush 9, 2) := o16p ac_cX12_swaps_64 7 9 rfl rfl
theorem dX12_swaps_73 : decode cX12_swaps 73 = .ok (.invokestatic 301, 3) := o184 ac_cX12_swaps_64 9 1 45 rfl
theorem dX12_swaps_76 : decode cX12_swaps 76 = .ok (.ifCond .eq 6, 3) := o153p ac_cX12_swaps_64 12 0 6 rfl rfl
theorem dX12_swaps_79 : decode cX12_swaps 79 = .ok (.iinc 2 1, 3) := o132p ac_cX12_swaps_64 15 2 1 rfl rfl
def kb_cX12_swaps_80 : List Nat := [2, 1, 132, 4, 1, 167, 255, 199, 132, 3, 1, 167, 255, 179, 28, 172]
theorem ac_cX12_swaps_80 : AL cX12_swaps 80 kb_cX12_swaps_80 := AL.of (m := 16) (by decide +kernel)
theorem dX12_swaps_82 : decode cX12_swaps 82 = .ok (.iinc 4 1, 3) := o132p ac_cX12_swaps_80 2 4 1 rfl rfl
theorem dX12_swaps_85 : decode cX12_swaps 85 = .ok (.goto (-57), 3) := o167n ac_cX12_swaps_80 5 255 199 56 rfl rfl rfl
theorem dX12_swaps_88 : decode cX12_swaps 88 = .ok (.iinc 3 1, 3) := o132p ac_cX12_swaps_80 8 3 1 rfl rfl
theorem dX12_swaps_91 : decode cX12_swaps 91 = .ok (.goto (-77), 3) := o167n ac_cX12_swaps_80 11 255 179 76 rfl rfl rfl
theorem dX12_swaps_94 : decode cX12_swaps 94 = .ok (.iload_n 2, 1) := o28 ac_cX12_swaps_80 14 rfl
theorem dX12_swaps_95 : decode cX12_swaps 95 = .ok (.ireturn, 1) := o172 ac_cX12_swaps_80 15 rfl

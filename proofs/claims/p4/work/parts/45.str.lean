/-! the String constants beside the world -/
def txW : String := "thing pattern tires drops force pays rests seed if then else weight edge height beat tired up which caught hand "
def txS : String := ";=+-*/<()"
def lenS : List Nat := [112, 9]
def bytS : List (List Int32) := [[116, 104, 105, 110, 103, 32, 112, 97, 116, 116, 101, 114, 110, 32, 116, 105, 114, 101, 115, 32, 100, 114, 111, 112, 115, 32, 102, 111, 114, 99, 101, 32, 112, 97, 121, 115, 32, 114, 101, 115, 116, 115, 32, 115, 101, 101, 100, 32, 105, 102, 32, 116, 104, 101, 110, 32, 101, 108, 115, 101, 32, 119, 101, 105, 103, 104, 116, 32, 101, 100, 103, 101, 32, 104, 101, 105, 103, 104, 116, 32, 98, 101, 97, 116, 32, 116, 105, 114, 101, 100, 32, 117, 112, 32, 119, 104, 105, 99, 104, 32, 99, 97, 117, 103, 104, 116, 32, 104, 97, 110, 100, 32], [59, 61, 43, 45, 42, 47, 60, 40, 41]]
def chS (i j : Nat) : Int32 := ((((bytS.getD i []).getD j 0) &&& 255).toUInt32 % 65536).toInt32
/-- the two literals and the JDK's two statics, at a state -/
def SE (K : (Nat → Nat) × (Nat → Nat)) (A : Nat → Prop) (U : State) : Prop := vk_S 2 lenS bytS K.1 K.2 A U U.heap ∧ vk_R RX9 67 txW (K.1 0) U ∧ vk_R RX9 52 txS (K.1 1) U ∧ va_Z RJ0 "COMPACT_STRINGS" "Z" (.int 1) A U U.heap ∧ va_Zq RJ3 "SIOOBE_FORMATTER" "Ljava/util/function/BiFunction;" A U U.heap
theorem SE.go {K : (Nat → Nat) × (Nat → Nat)} {A B : Nat → Prop} {s U : State} {H : Heap} {locs : List Loc} (h : SE K A s) (hU : U.heap = H) (hW : s.WarmedH U.vm) (hS : va_S A s.heap H locs) (hB : ∀ q, B q → A q) : SE K B U := by
  obtain ⟨h1, h2, h3, h4, h5⟩ := h
  subst hU
  exact ⟨((h1.kept hS.2.1).moved hW.alike).narrow hB, h2.warm hW, h3.warm hW, ((h4.kept hS.2.1).moved hW.alike).narrow hB, ((h5.kept hS.2.1).moved hW.alike).narrow hB⟩
theorem SE.same {K : (Nat → Nat) × (Nat → Nat)} {A : Nat → Prop} {s U : State} (h : SE K A s) (hv : U.vm = s.vm) (hh : U.heap = s.heap) : SE K A U := by
  obtain ⟨h1, h2, h3, h4, h5⟩ := h
  have ha : s.vm.Alike U.vm := by rw [hv]; exact Vm.Alike.refl s.vm
  unfold SE
  rw [hh]
  exact ⟨h1.moved ha, h2.same hv, h3.same hv, h4.moved ha, h5.moved ha⟩
def SG (K : (Nat → Nat) × (Nat → Nat)) (Γ : GT) : Prop := match Γ with
  | (_, _, _, _, s, _, _, _, _, _, _, _, _, _, A, H0, _) => H0 = s.heap ∧ SE K A s
def KPreS (K : (Nat → Nat) × (Nat → Nat)) (D : va_G) (ids : List Nat) (ad : Nat → Nat) (ca : Nat → ClassId) (σ : HS) (sz : Nat) (U : State) : Prop := KPre D ids ad ca σ sz U ∧ SE K (va_A (mw ids ad ca σ) sz) U
theorem KPreS.blind {K : (Nat → Nat) × (Nat → Nat)} {ids : List Nat} {ad : Nat → Nat} {ca : Nat → ClassId} {σ : HS} {D : va_G} {av : List Value} {sz : Nat} : FrameBlind (va_Pc av (KPreS K D ids ad ca σ sz)) := fun a U g mk q => by
  obtain ⟨q0, ⟨q1, qP, qK, qD, qE⟩, qS⟩ := q
  exact ⟨q0, ⟨q1, qP, va_K.moved (u := U) (U := U.calling g mk a) (Vm.Alike.refl U.vm) qK, qD, EN.same (s := U) (U := U.calling g mk a) rfl qE⟩, SE.same (U := U.calling g mk a) qS rfl rfl⟩
def KiS (l : Launch) (D : va_G) (ids : List Nat) (ad : Nat → Nat) (ca : Nat → ClassId) (K : (Nat → Nat) × (Nat → Nat)) (y : MethodName) (cc : ByteArray) (nL : Nat) (ty : FieldType) (fr lo : Nat) (av : List Value) (σ : HS) (post : Int32 → HS → Prop) : Prop :=
  ∀ sz : Nat, Met l y (.code y cc nL (some ty) :: gw_tbl) { frames := fr, cells := 0, slots := 0, locals := lo } (va_Pc av (KPreS K D ids ad ca σ sz)) (va_Qi post (KAt D ids ad ca (va_A (mw ids ad ca σ) sz)) (va_A (mw ids ad ca σ) sz)) 0 0 (va_A (mw ids ad ca σ) sz)
def KvS (l : Launch) (D : va_G) (ids : List Nat) (ad : Nat → Nat) (ca : Nat → ClassId) (K : (Nat → Nat) × (Nat → Nat)) (y : MethodName) (cc : ByteArray) (nL : Nat) (fr lo : Nat) (av : List Value) (σ : HS) (post : HS → Prop) : Prop :=
  ∀ sz : Nat, Met l y (.code y cc nL none :: gw_tbl) { frames := fr, cells := 0, slots := 0, locals := lo } (va_Pc av (KPreS K D ids ad ca σ sz)) (va_Qv post (KAt D ids ad ca (va_A (mw ids ad ca σ) sz)) (va_A (mw ids ad ca σ) sz)) 0 0 (va_A (mw ids ad ca σ) sz)
theorem KiS.of {l : Launch} {D : va_G} {ids : List Nat} {ad : Nat → Nat} {ca : Nat → ClassId} {K : (Nat → Nat) × (Nat → Nat)} {y : MethodName} {cc : ByteArray} {nL fr lo : Nat} {ty : FieldType} {av : List Value} {σ : HS} {post : Int32 → HS → Prop} (hy : plainName y.cls = true) (hL : (lg_sl av).length ≤ nL) (z : Nat)
    (body : ∀ Γ : GT, CT ids ad ca Γ cc y.cls l D fr lo nL → SG K Γ → RI ids ad ca Γ cc ty post → AW ids ad ca Γ 0 (entL av ++ List.replicate z none) [] σ) : KiS l D ids ad ca K y cc nL ty fr lo av σ post := by
  intro sz
  refine Met.ofW (cc := cc) (maxL := nL) (ret := some ty) hy rfl ?_
  intro p e s m args below meth c s₁ B hml hv
  obtain ⟨rfl, ⟨hsz, hP, hK, hD0, hE⟩, hSE⟩ := hv
  have hts := atoms_spec (ws := (.code y cc nL (some ty) :: gw_tbl)) B.pre
  subst hsz
  have hD := hD0.self (sz := s.heap.size)
  rw [lg_entry_eq]
  refine body (p, l, e, { frames := fr, cells := 0, slots := 0, locals := lo }, s, m, av.toArray, below, meth, c, 0, 0, _, D, va_A (mw ids ad ca σ) s.heap.size, s.heap, nL) ⟨⟨B.exec, B.bytes, hml, findClass_of_methodNamed B.named, fun w h => hts w (List.mem_cons_of_mem _ h)⟩, hK, hE, fun σ' => mw_D hD σ', fun q h => Or.inr h, rfl, rfl, Nat.le_refl _, Nat.le_refl _, Nat.le_refl _, Nat.le_refl _, rfl⟩ ⟨rfl, hSE⟩ ?_ s.heap [] _ hP va_S.rf (LV.entry av hL z)
  intro H locs ls pc σ' v hP' hS hp hd hn
  exact W.zret B.exec B.bytes B.returns hn (fun t ht hW => ⟨⟨v, σ', rfl, hp, by rw [ht]; exact hP', va_K.moved hW.alike hK, mw_D hD σ'⟩, hS.F ht⟩) hS.2.2 hd B.notSynchronized
theorem KiS.ofF {l : Launch} {D : va_G} {ids : List Nat} {ad : Nat → Nat} {ca : Nat → ClassId} {K : (Nat → Nat) × (Nat → Nat)} {y : MethodName} {cc : ByteArray} {nL fr lo : Nat} {ty : FieldType} {av : List Value} {σ : HS} {post : Int32 → HS → Prop} (hy : plainFor y = true) (hL : (lg_sl av).length ≤ nL) (z : Nat)
    (body : ∀ Γ : GT, CT ids ad ca Γ cc y.cls l D fr lo nL → SG K Γ → RI ids ad ca Γ cc ty post → AW ids ad ca Γ 0 (entL av ++ List.replicate z none) [] σ) : KiS l D ids ad ca K y cc nL ty fr lo av σ post := by
  intro sz
  refine met_ofWF (cc := cc) (maxL := nL) (ret := some ty) hy rfl ?_
  intro p e s m args below meth c s₁ B hml hv
  obtain ⟨rfl, ⟨hsz, hP, hK, hD0, hE⟩, hSE⟩ := hv
  have hts := atoms_spec (ws := (.code y cc nL (some ty) :: gw_tbl)) B.pre
  subst hsz
  have hD := hD0.self (sz := s.heap.size)
  rw [lg_entry_eq]
  refine body (p, l, e, { frames := fr, cells := 0, slots := 0, locals := lo }, s, m, av.toArray, below, meth, c, 0, 0, _, D, va_A (mw ids ad ca σ) s.heap.size, s.heap, nL) ⟨⟨B.exec, B.bytes, hml, findClass_of_methodNamed B.named, fun w h => hts w (List.mem_cons_of_mem _ h)⟩, hK, hE, fun σ' => mw_D hD σ', fun q h => Or.inr h, rfl, rfl, Nat.le_refl _, Nat.le_refl _, Nat.le_refl _, Nat.le_refl _, rfl⟩ ⟨rfl, hSE⟩ ?_ s.heap [] _ hP va_S.rf (LV.entry av hL z)
  intro H locs ls pc σ' v hP' hS hp hd hn
  exact W.zret B.exec B.bytes B.returns hn (fun t ht hW => ⟨⟨v, σ', rfl, hp, by rw [ht]; exact hP', va_K.moved hW.alike hK, mw_D hD σ'⟩, hS.F ht⟩) hS.2.2 hd B.notSynchronized
theorem KvS.of {l : Launch} {D : va_G} {ids : List Nat} {ad : Nat → Nat} {ca : Nat → ClassId} {K : (Nat → Nat) × (Nat → Nat)} {y : MethodName} {cc : ByteArray} {nL fr lo : Nat} {av : List Value} {σ : HS} {post : HS → Prop} (hy : plainName y.cls = true) (hL : (lg_sl av).length ≤ nL) (z : Nat)
    (body : ∀ Γ : GT, CT ids ad ca Γ cc y.cls l D fr lo nL → SG K Γ → RV ids ad ca Γ cc post → AW ids ad ca Γ 0 (entL av ++ List.replicate z none) [] σ) : KvS l D ids ad ca K y cc nL fr lo av σ post := by
  intro sz
  refine Met.ofW (cc := cc) (maxL := nL) (ret := none) hy rfl ?_
  intro p e s m args below meth c s₁ B hml hv
  obtain ⟨rfl, ⟨hsz, hP, hK, hD0, hE⟩, hSE⟩ := hv
  have hts := atoms_spec (ws := (.code y cc nL none :: gw_tbl)) B.pre
  subst hsz
  have hD := hD0.self (sz := s.heap.size)
  rw [lg_entry_eq]
  refine body (p, l, e, { frames := fr, cells := 0, slots := 0, locals := lo }, s, m, av.toArray, below, meth, c, 0, 0, _, D, va_A (mw ids ad ca σ) s.heap.size, s.heap, nL) ⟨⟨B.exec, B.bytes, hml, findClass_of_methodNamed B.named, fun w h => hts w (List.mem_cons_of_mem _ h)⟩, hK, hE, fun σ' => mw_D hD σ', fun q h => Or.inr h, rfl, rfl, Nat.le_refl _, Nat.le_refl _, Nat.le_refl _, Nat.le_refl _, rfl⟩ ⟨rfl, hSE⟩ ?_ s.heap [] _ hP va_S.rf (LV.entry av hL z)
  intro H locs ls pc σ' hP' hS hp hd
  exact W.vret B.exec B.bytes B.returns (fun t ht hW => ⟨⟨σ', rfl, hp, by rw [ht]; exact hP', va_K.moved hW.alike hK, mw_D hD σ'⟩, hS.F ht⟩) hS.2.2 hd B.notSynchronized
theorem KvS.ofF {l : Launch} {D : va_G} {ids : List Nat} {ad : Nat → Nat} {ca : Nat → ClassId} {K : (Nat → Nat) × (Nat → Nat)} {y : MethodName} {cc : ByteArray} {nL fr lo : Nat} {av : List Value} {σ : HS} {post : HS → Prop} (hy : plainFor y = true) (hL : (lg_sl av).length ≤ nL) (z : Nat)
    (body : ∀ Γ : GT, CT ids ad ca Γ cc y.cls l D fr lo nL → SG K Γ → RV ids ad ca Γ cc post → AW ids ad ca Γ 0 (entL av ++ List.replicate z none) [] σ) : KvS l D ids ad ca K y cc nL fr lo av σ post := by
  intro sz
  refine met_ofWF (cc := cc) (maxL := nL) (ret := none) hy rfl ?_
  intro p e s m args below meth c s₁ B hml hv
  obtain ⟨rfl, ⟨hsz, hP, hK, hD0, hE⟩, hSE⟩ := hv
  have hts := atoms_spec (ws := (.code y cc nL none :: gw_tbl)) B.pre
  subst hsz
  have hD := hD0.self (sz := s.heap.size)
  rw [lg_entry_eq]
  refine body (p, l, e, { frames := fr, cells := 0, slots := 0, locals := lo }, s, m, av.toArray, below, meth, c, 0, 0, _, D, va_A (mw ids ad ca σ) s.heap.size, s.heap, nL) ⟨⟨B.exec, B.bytes, hml, findClass_of_methodNamed B.named, fun w h => hts w (List.mem_cons_of_mem _ h)⟩, hK, hE, fun σ' => mw_D hD σ', fun q h => Or.inr h, rfl, rfl, Nat.le_refl _, Nat.le_refl _, Nat.le_refl _, Nat.le_refl _, rfl⟩ ⟨rfl, hSE⟩ ?_ s.heap [] _ hP va_S.rf (LV.entry av hL z)
  intro H locs ls pc σ' hP' hS hp hd
  exact W.vret B.exec B.bytes B.returns (fun t ht hW => ⟨⟨σ', rfl, hp, by rw [ht]; exact hP', va_K.moved hW.alike hK, mw_D hD σ'⟩, hS.F ht⟩) hS.2.2 hd B.notSynchronized
section STRR
variable {ids : List Nat} {ad : Nat → Nat} {ca : Nat → ClassId} {Γ : GT} {cc : ByteArray} {own : String} {l0 : Launch} {D0 : va_G} {fr lo nL0 : Nat} {pc : Nat} {vs : List (Option Value)} {st : List Value} {σ : HS} {K : (Nat → Nat) × (Nat → Nat)}
theorem a_ldcW (C : CT ids ad ca Γ cc own l0 D0 fr lo nL0) (E : SG K Γ) (ho : own = RX9) (hd : decode cc pc = .ok (.ldc 67, 2)) (k : AW ids ad ca Γ (pc + 2) vs (.ref (K.1 0) :: st) σ) : AW ids ad ca Γ pc vs st σ := by
  obtain ⟨p, l, e, R, s, m, args, below, meth, c, kc, ks, Q, D, A, H0, nL⟩ := Γ
  obtain ⟨⟨hx, hb, hml, hown, hts⟩, hK, hE, hD, hA0, rfl, rfl, hfr, hlo, hkc, hks, rfl⟩ := C
  obtain ⟨hH0, hSE⟩ := E
  subst hH0
  intro H locs ls hP hS hl
  subst ho
  exact va_ldcS hx hb hown hSE.2.1 hd (k H locs ls hP hS hl)
theorem a_ldcG (C : CT ids ad ca Γ cc own l0 D0 fr lo nL0) (E : SG K Γ) (ho : own = RX9) (hd : decode cc pc = .ok (.ldc 52, 2)) (k : AW ids ad ca Γ (pc + 2) vs (.ref (K.1 1) :: st) σ) : AW ids ad ca Γ pc vs st σ := by
  obtain ⟨p, l, e, R, s, m, args, below, meth, c, kc, ks, Q, D, A, H0, nL⟩ := Γ
  obtain ⟨⟨hx, hb, hml, hown, hts⟩, hK, hE, hD, hA0, rfl, rfl, hfr, hlo, hkc, hks, rfl⟩ := C
  obtain ⟨hH0, hSE⟩ := E
  subst hH0
  intro H locs ls hP hS hl
  subst ho
  exact va_ldcS hx hb hown hSE.2.2.1 hd (k H locs ls hP hS hl)
theorem a_sval (C : CT ids ad ca Γ cc own l0 D0 fr lo nL0) (E : SG K Γ) {i ix : Nat} (hi : i < 2) (hw : Cond.fieldLink own ix RJ0 "value" "[B" ∈ gw_tbl) (hd : decode cc pc = .ok (.getfield ix, 3)) (k : AW ids ad ca Γ (pc + 3) vs (.ref (K.2 i) :: st) σ) : AW ids ad ca Γ pc vs (.ref (K.1 i) :: st) σ := by
  obtain ⟨p, l, e, R, s, m, args, below, meth, c, kc, ks, Q, D, A, H0, nL⟩ := Γ
  obtain ⟨⟨hx, hb, hml, hown, hts⟩, hK, hE, hD, hA0, rfl, rfl, hfr, hlo, hkc, hks, rfl⟩ := C
  obtain ⟨hH0, hSE⟩ := E
  subst hH0
  intro H locs ls hP hS hl
  exact vk_getf hx hb (hSE.1.1 i hi).2.2.1 hS hown (hts _ hw) (fun _ h => h) hd (k H locs ls hP hS hl)
theorem a_scod (C : CT ids ad ca Γ cc own l0 D0 fr lo nL0) (E : SG K Γ) {i ix : Nat} (hi : i < 2) (hw : Cond.fieldLink own ix RJ0 "coder" "B" ∈ gw_tbl) (hd : decode cc pc = .ok (.getfield ix, 3)) (k : AW ids ad ca Γ (pc + 3) vs (.int 0 :: st) σ) : AW ids ad ca Γ pc vs (.ref (K.1 i) :: st) σ := by
  obtain ⟨p, l, e, R, s, m, args, below, meth, c, kc, ks, Q, D, A, H0, nL⟩ := Γ
  obtain ⟨⟨hx, hb, hml, hown, hts⟩, hK, hE, hD, hA0, rfl, rfl, hfr, hlo, hkc, hks, rfl⟩ := C
  obtain ⟨hH0, hSE⟩ := E
  subst hH0
  intro H locs ls hP hS hl
  exact vk_getf hx hb (hSE.1.1 i hi).2.1 hS hown (hts _ hw) (fun _ h => h) hd (k H locs ls hP hS hl)
theorem a_scmp (C : CT ids ad ca Γ cc own l0 D0 fr lo nL0) (E : SG K Γ) {ix : Nat} (hw : Cond.fieldLink own ix RJ0 "COMPACT_STRINGS" "Z" ∈ gw_tbl) (hd : decode cc pc = .ok (.getstatic ix, 3)) (k : AW ids ad ca Γ (pc + 3) vs (.int 1 :: st) σ) : AW ids ad ca Γ pc vs st σ := by
  obtain ⟨p, l, e, R, s, m, args, below, meth, c, kc, ks, Q, D, A, H0, nL⟩ := Γ
  obtain ⟨⟨hx, hb, hml, hown, hts⟩, hK, hE, hD, hA0, rfl, rfl, hfr, hlo, hkc, hks, rfl⟩ := C
  obtain ⟨hH0, hSE⟩ := E
  subst hH0
  intro H locs ls hP hS hl
  exact va_gets hx hb hSE.2.2.2.1 hS hown (hts _ hw) (fun _ h => h) hd (k H locs ls hP hS hl)
theorem a_sfmt (C : CT ids ad ca Γ cc own l0 D0 fr lo nL0) (E : SG K Γ) {ix : Nat} (hw : Cond.fieldLink own ix RJ3 "SIOOBE_FORMATTER" "Ljava/util/function/BiFunction;" ∈ gw_tbl) (hd : decode cc pc = .ok (.getstatic ix, 3)) (kn : AW ids ad ca Γ (pc + 3) vs (.null :: st) σ) (kr : ∀ t : Nat, AW ids ad ca Γ (pc + 3) vs (.ref t :: st) σ) : AW ids ad ca Γ pc vs st σ := by
  obtain ⟨p, l, e, R, s, m, args, below, meth, c, kc, ks, Q, D, A, H0, nL⟩ := Γ
  obtain ⟨⟨hx, hb, hml, hown, hts⟩, hK, hE, hD, hA0, rfl, rfl, hfr, hlo, hkc, hks, rfl⟩ := C
  obtain ⟨hH0, hSE⟩ := E
  subst hH0
  intro H locs ls hP hS hl
  rcases hSE.2.2.2.2 with h | ⟨t, h⟩
  · exact va_gets hx hb h hS hown (hts _ hw) (fun _ h => h) hd (kn H locs ls hP hS hl)
  · exact va_gets hx hb h hS hown (hts _ hw) (fun _ h => h) hd (kr t H locs ls hP hS hl)
theorem a_slen (C : CT ids ad ca Γ cc own l0 D0 fr lo nL0) (E : SG K Γ) {i : Nat} (hi : i < 2) (hd : decode cc pc = .ok (.arraylength, 1)) (k : AW ids ad ca Γ (pc + 1) vs (.int (Int32.ofNat (lenS.getD i 0)) :: st) σ) : AW ids ad ca Γ pc vs (.ref (K.2 i) :: st) σ := by
  obtain ⟨p, l, e, R, s, m, args, below, meth, c, kc, ks, Q, D, A, H0, nL⟩ := Γ
  obtain ⟨⟨hx, hb, hml, hown, hts⟩, hK, hE, hD, hA0, rfl, rfl, hfr, hlo, hkc, hks, rfl⟩ := C
  obtain ⟨hH0, hSE⟩ := E
  subst hH0
  intro H locs ls hP hS hl
  exact va_tlen hx hb (hSE.1.1 i hi).2.2.2 hS rfl hd (k H locs ls hP hS hl)
theorem a_sbald (C : CT ids ad ca Γ cc own l0 D0 fr lo nL0) (E : SG K Γ) {i : Nat} (hi : i < 2) {j : Int32} (h0 : 0 ≤ j.toInt) (h1 : j.toInt < (lenS.getD i 0 : Nat)) (hd : decode cc pc = .ok (.baload, 1)) (k : ∀ jn : Nat, (jn : Int) = j.toInt → AW ids ad ca Γ (pc + 1) vs (.int ((bytS.getD i []).getD jn 0) :: st) σ) : AW ids ad ca Γ pc vs (.int j :: .ref (K.2 i) :: st) σ := by
  obtain ⟨p, l, e, R, s, m, args, below, meth, c, kc, ks, Q, D, A, H0, nL⟩ := Γ
  obtain ⟨⟨hx, hb, hml, hown, hts⟩, hK, hE, hD, hA0, rfl, rfl, hfr, hlo, hkc, hks, rfl⟩ := C
  obtain ⟨hH0, hSE⟩ := E
  subst hH0
  intro H locs ls hP hS hl
  have hc : (j.toNatClampNeg : Int) = j.toInt := by
    show ((j.toInt.toNat : Nat) : Int) = j.toInt
    omega
  refine va_tb hx hb (hSE.1.1 i hi).2.2.2 hS (i := j) (fun q => ?_) rfl hd (k _ hc H locs ls hP hS hl)
  rcases q with q | q
  · have q := Int32.lt_iff_toInt_lt.mp q
    rw [show (0 : Int32).toInt = 0 from rfl] at q
    omega
  · omega
theorem a_cSiS (C : CT ids ad ca Γ cc own l0 D0 fr lo nL0) (E : SG K Γ) {y : MethodName} {cc' : ByteArray} {nL' fr' lo' n ix : Nat} {ty : FieldType} {As st0 : List Value} {post : Int32 → HS → Prop} (hM : KiS l0 D0 ids ad ca K y cc' nL' ty fr' lo' (As) σ post) (hw : MS y cc' nL' (some ty) n) (hlink : Cond.methodLink own ix y ∈ gw_tbl) (hst : st0 = As.reverse ++ st) (hn : As.length = n) (hf1 : fr' + 1 ≤ fr) (hl1 : 8 + (nL' + 11) + lo' ≤ lo) (hcat : (st.map fun v => v.category).sum ≤ 8) (hd : decode cc pc = .ok (.invokestatic ix, 3)) (k : ∀ (r : Int32) (σ' : HS), post r σ' → AW ids ad ca Γ (pc + 3) vs (.int r :: st) σ') : AW ids ad ca Γ pc vs st0 σ := by
  obtain ⟨p, l, e, R, s, m, args, below, meth, c, kc, ks, Q, D, A, H0, nL⟩ := Γ
  obtain ⟨⟨hx, hb, hml, hown, hts⟩, hK, hE, hD, hA0, rfl, rfl, hfr, hlo, hkc, hks, rfl⟩ := C
  obtain ⟨hH0, hSE⟩ := E
  subst hH0
  intro H locs ls hP hS hl
  obtain ⟨w1, w3, w4, w5, w6, w7⟩ := hw
  subst hst
  have hG : GoodIn gw_tbl (va_wsS own ix y (.code y cc' nL' (some ty) :: gw_tbl)) := lw_goodIn (fun w h => by
    simp only [va_wsS, List.cons_append, List.nil_append, List.mem_cons] at h
    rcases h with rfl | rfl | rfl | rfl | h
    · exact hlink
    · exact w1
    · exact w3
    · exact w4
    · exact h)
  have hFc := mw_freeA (hD σ) hS hA0
  refine va_calli (va_runS (As := As) (rest := st) ⟨hx, hb, hml, hown, hts⟩ (hM H.size) (va_cwS n hts hG rfl rfl rfl ⟨w5, w6, w7⟩ ⟨Nat.le_trans hf1 hfr, Nat.le_trans hl1 hlo⟩) ⟨KPreS.blind, fun U hU hW => ⟨rfl, ⟨by rw [hU], by rw [hU]; exact hP, va_K.moved hW.alike hK, (hD σ).weaken (fun _ _ _ _ => trivial), hE.warm hW⟩, hSE.go hU hW hS hFc⟩⟩ rfl hn hl.1 rfl (lv_room hcat) hd ⟨hkc, hks⟩) hS (fun q _ h => hFc q h) hFc (fun r u t H1 locs1 ht hvm hw hB hz1 hk1 hS1 => ?_)
  have hP1 := hB.1
  rw [ht] at hP1
  exact k r u hw H1 locs1 ls hP1 hS1 hl
theorem a_cSvS (C : CT ids ad ca Γ cc own l0 D0 fr lo nL0) (E : SG K Γ) {y : MethodName} {cc' : ByteArray} {nL' fr' lo' n ix : Nat} {As st0 : List Value} {post : HS → Prop} (hM : KvS l0 D0 ids ad ca K y cc' nL' fr' lo' (As) σ post) (hw : MS y cc' nL' none n) (hlink : Cond.methodLink own ix y ∈ gw_tbl) (hst : st0 = As.reverse ++ st) (hn : As.length = n) (hf1 : fr' + 1 ≤ fr) (hl1 : 8 + (nL' + 11) + lo' ≤ lo) (hcat : (st.map fun v => v.category).sum ≤ 8) (hd : decode cc pc = .ok (.invokestatic ix, 3)) (k : ∀ (σ' : HS), post σ' → AW ids ad ca Γ (pc + 3) vs st σ') : AW ids ad ca Γ pc vs st0 σ := by
  obtain ⟨p, l, e, R, s, m, args, below, meth, c, kc, ks, Q, D, A, H0, nL⟩ := Γ
  obtain ⟨⟨hx, hb, hml, hown, hts⟩, hK, hE, hD, hA0, rfl, rfl, hfr, hlo, hkc, hks, rfl⟩ := C
  obtain ⟨hH0, hSE⟩ := E
  subst hH0
  intro H locs ls hP hS hl
  obtain ⟨w1, w3, w4, w5, w6, w7⟩ := hw
  subst hst
  have hG : GoodIn gw_tbl (va_wsS own ix y (.code y cc' nL' none :: gw_tbl)) := lw_goodIn (fun w h => by
    simp only [va_wsS, List.cons_append, List.nil_append, List.mem_cons] at h
    rcases h with rfl | rfl | rfl | rfl | h
    · exact hlink
    · exact w1
    · exact w3
    · exact w4
    · exact h)
  have hFc := mw_freeA (hD σ) hS hA0
  refine va_callv (va_runS (As := As) (rest := st) ⟨hx, hb, hml, hown, hts⟩ (hM H.size) (va_cwS n hts hG rfl rfl rfl ⟨w5, w6, w7⟩ ⟨Nat.le_trans hf1 hfr, Nat.le_trans hl1 hlo⟩) ⟨KPreS.blind, fun U hU hW => ⟨rfl, ⟨by rw [hU], by rw [hU]; exact hP, va_K.moved hW.alike hK, (hD σ).weaken (fun _ _ _ _ => trivial), hE.warm hW⟩, hSE.go hU hW hS hFc⟩⟩ rfl hn hl.1 rfl (lv_room hcat) hd ⟨hkc, hks⟩) hS (fun q _ h => hFc q h) hFc (fun u t H1 locs1 ht hvm hw hB hz1 hk1 hS1 => ?_)
  have hP1 := hB.1
  rw [ht] at hP1
  exact k u hw H1 locs1 ls hP1 hS1 hl
theorem a_cViS (C : CT ids ad ca Γ cc own l0 D0 fr lo nL0) (E : SG K Γ) {y : MethodName} {cc' : ByteArray} {nL' fr' lo' n ix : Nat} {ty : FieldType} {As st0 : List Value} {post : Int32 → HS → Prop} {i n0 : Nat} (hk : kd i = n0) (hi : i ∈ ids) (hq : ∃ (T : u_T) (N : Nat), vwCl[n0]? = some (y.cls, T, N)) (h12 : n0 < 12) (hM : KiS l0 D0 ids ad ca K y cc' nL' ty fr' lo' (.ref (ad i) :: As) σ post) (hw : MI y cc' nL' (some ty) n) (hlink : Cond.methodLink own ix y ∈ gw_tbl) (hst : st0 = As.reverse ++ .ref (ad i) :: st) (hn : As.length = n) (hf1 : fr' + 1 ≤ fr) (hl1 : 8 + (nL' + 11) + lo' ≤ lo) (hcat : (st.map fun v => v.category).sum ≤ 8) (hd : decode cc pc = .ok (.invokevirtual ix, 3)) (k : ∀ (r : Int32) (σ' : HS), post r σ' → AW ids ad ca Γ (pc + 3) vs (.int r :: st) σ') : AW ids ad ca Γ pc vs st0 σ := by
  obtain ⟨p, l, e, R, s, m, args, below, meth, c, kc, ks, Q, D, A, H0, nL⟩ := Γ
  obtain ⟨⟨hx, hb, hml, hown, hts⟩, hK, hE, hD, hA0, rfl, rfl, hfr, hlo, hkc, hks, rfl⟩ := C
  obtain ⟨hH0, hSE⟩ := E
  subst hH0
  intro H locs ls hP hS hl
  obtain ⟨w1, w2, w3, w4, w5, w6, w7⟩ := hw
  subst hst
  obtain ⟨T, N, hq⟩ := hq
  obtain ⟨ip, hip, hg⟩ := mw_get (ad := ad) (ca := ca) hi
  have hg := hg σ
  rw [hk, ceK_ob h12] at hg
  have hG : GoodIn gw_tbl (wsV own ix y.cls y (.code y cc' nL' (some ty) :: gw_tbl)) := lw_goodIn (fun w h => by
    simp only [wsV, List.cons_append, List.nil_append, List.mem_cons] at h
    rcases h with rfl | rfl | rfl | rfl | rfl | h
    · exact hlink
    · exact w1
    · exact w2
    · exact w3
    · exact w4
    · exact h)
  have hFc := mw_freeA (hD σ) hS hA0
  refine va_calli (va_runV (As := As) (rest := st) ⟨hx, hb, hml, hown, hts⟩ (hM H.size) (cwV n hts hG rfl rfl rfl ⟨rfl, w5, w6, w7⟩ ⟨Nat.le_trans hf1 hfr, Nat.le_trans hl1 hlo⟩) ⟨KPreS.blind, va_recv hK hP hq hg, fun U hU hW => ⟨rfl, ⟨by rw [hU], by rw [hU]; exact hP, va_K.moved hW.alike hK, (hD σ).weaken (fun _ _ _ _ => trivial), hE.warm hW⟩, hSE.go hU hW hS hFc⟩⟩ rfl hn hl.1 rfl (lv_room hcat) hd ⟨hkc, hks⟩) hS (fun q _ h => hFc q h) hFc (fun r u t H1 locs1 ht hvm hw hB hz1 hk1 hS1 => ?_)
  have hP1 := hB.1
  rw [ht] at hP1
  exact k r u hw H1 locs1 ls hP1 hS1 hl
theorem a_cVvS (C : CT ids ad ca Γ cc own l0 D0 fr lo nL0) (E : SG K Γ) {y : MethodName} {cc' : ByteArray} {nL' fr' lo' n ix : Nat} {As st0 : List Value} {post : HS → Prop} {i n0 : Nat} (hk : kd i = n0) (hi : i ∈ ids) (hq : ∃ (T : u_T) (N : Nat), vwCl[n0]? = some (y.cls, T, N)) (h12 : n0 < 12) (hM : KvS l0 D0 ids ad ca K y cc' nL' fr' lo' (.ref (ad i) :: As) σ post) (hw : MI y cc' nL' none n) (hlink : Cond.methodLink own ix y ∈ gw_tbl) (hst : st0 = As.reverse ++ .ref (ad i) :: st) (hn : As.length = n) (hf1 : fr' + 1 ≤ fr) (hl1 : 8 + (nL' + 11) + lo' ≤ lo) (hcat : (st.map fun v => v.category).sum ≤ 8) (hd : decode cc pc = .ok (.invokevirtual ix, 3)) (k : ∀ (σ' : HS), post σ' → AW ids ad ca Γ (pc + 3) vs st σ') : AW ids ad ca Γ pc vs st0 σ := by
  obtain ⟨p, l, e, R, s, m, args, below, meth, c, kc, ks, Q, D, A, H0, nL⟩ := Γ
  obtain ⟨⟨hx, hb, hml, hown, hts⟩, hK, hE, hD, hA0, rfl, rfl, hfr, hlo, hkc, hks, rfl⟩ := C
  obtain ⟨hH0, hSE⟩ := E
  subst hH0
  intro H locs ls hP hS hl
  obtain ⟨w1, w2, w3, w4, w5, w6, w7⟩ := hw
  subst hst
  obtain ⟨T, N, hq⟩ := hq
  obtain ⟨ip, hip, hg⟩ := mw_get (ad := ad) (ca := ca) hi
  have hg := hg σ
  rw [hk, ceK_ob h12] at hg
  have hG : GoodIn gw_tbl (wsV own ix y.cls y (.code y cc' nL' none :: gw_tbl)) := lw_goodIn (fun w h => by
    simp only [wsV, List.cons_append, List.nil_append, List.mem_cons] at h
    rcases h with rfl | rfl | rfl | rfl | rfl | h
    · exact hlink
    · exact w1
    · exact w2
    · exact w3
    · exact w4
    · exact h)
  have hFc := mw_freeA (hD σ) hS hA0
  refine va_callv (va_runV (As := As) (rest := st) ⟨hx, hb, hml, hown, hts⟩ (hM H.size) (cwV n hts hG rfl rfl rfl ⟨rfl, w5, w6, w7⟩ ⟨Nat.le_trans hf1 hfr, Nat.le_trans hl1 hlo⟩) ⟨KPreS.blind, va_recv hK hP hq hg, fun U hU hW => ⟨rfl, ⟨by rw [hU], by rw [hU]; exact hP, va_K.moved hW.alike hK, (hD σ).weaken (fun _ _ _ _ => trivial), hE.warm hW⟩, hSE.go hU hW hS hFc⟩⟩ rfl hn hl.1 rfl (lv_room hcat) hd ⟨hkc, hks⟩) hS (fun q _ h => hFc q h) hFc (fun u t H1 locs1 ht hvm hw hB hz1 hk1 hS1 => ?_)
  have hP1 := hB.1
  rw [ht] at hP1
  exact k u hw H1 locs1 ls hP1 hS1 hl
theorem a_cTiS (C : CT ids ad ca Γ cc own l0 D0 fr lo nL0) (E : SG K Γ) {y : MethodName} {cc' : ByteArray} {nL' fr' lo' n ix : Nat} {ty : FieldType} {As st0 : List Value} {post : Int32 → HS → Prop} {i : Nat} (hi : i < 2) (hyc : y.cls = RJ0) (hM : KiS l0 D0 ids ad ca K y cc' nL' ty fr' lo' (.ref (K.1 i) :: As) σ post) (hw : MI y cc' nL' (some ty) n) (hlink : Cond.methodLink own ix y ∈ gw_tbl) (hst : st0 = As.reverse ++ .ref (K.1 i) :: st) (hn : As.length = n) (hf1 : fr' + 1 ≤ fr) (hl1 : 8 + (nL' + 11) + lo' ≤ lo) (hcat : (st.map fun v => v.category).sum ≤ 8) (hd : decode cc pc = .ok (.invokevirtual ix, 3)) (k : ∀ (r : Int32) (σ' : HS), post r σ' → AW ids ad ca Γ (pc + 3) vs (.int r :: st) σ') : AW ids ad ca Γ pc vs st0 σ := by
  obtain ⟨p, l, e, R, s, m, args, below, meth, c, kc, ks, Q, D, A, H0, nL⟩ := Γ
  obtain ⟨⟨hx, hb, hml, hown, hts⟩, hK, hE, hD, hA0, rfl, rfl, hfr, hlo, hkc, hks, rfl⟩ := C
  obtain ⟨hH0, hSE⟩ := E
  subst hH0
  intro H locs ls hP hS hl
  obtain ⟨w1, w2, w3, w4, w5, w6, w7⟩ := hw
  subst hst
  have hG : GoodIn gw_tbl (wsV own ix y.cls y (.code y cc' nL' (some ty) :: gw_tbl)) := lw_goodIn (fun w h => by
    simp only [wsV, List.cons_append, List.nil_append, List.mem_cons] at h
    rcases h with rfl | rfl | rfl | rfl | rfl | h
    · exact hlink
    · exact w1
    · exact w2
    · exact w3
    · exact w4
    · exact h)
  have hFc := mw_freeA (hD σ) hS hA0
  refine va_calli (va_runV (As := As) (rest := st) ⟨hx, hb, hml, hown, hts⟩ (hM H.size) (cwV n hts hG rfl rfl rfl ⟨rfl, w5, w6, w7⟩ ⟨Nat.le_trans hf1 hfr, Nat.le_trans hl1 hlo⟩) ⟨KPreS.blind, (by rw [hyc]; exact vk_recv hSE.1 hi hS), fun U hU hW => ⟨rfl, ⟨by rw [hU], by rw [hU]; exact hP, va_K.moved hW.alike hK, (hD σ).weaken (fun _ _ _ _ => trivial), hE.warm hW⟩, hSE.go hU hW hS hFc⟩⟩ rfl hn hl.1 rfl (lv_room hcat) hd ⟨hkc, hks⟩) hS (fun q _ h => hFc q h) hFc (fun r u t H1 locs1 ht hvm hw hB hz1 hk1 hS1 => ?_)
  have hP1 := hB.1
  rw [ht] at hP1
  exact k r u hw H1 locs1 ls hP1 hS1 hl
end STRR
theorem dJ0_coder_7d493_0 : decode cJ0_coder_7d493 0 = .ok (.getstatic 38, 3) := by decide +kernel
theorem dJ0_coder_7d493_3 : decode cJ0_coder_7d493 3 = .ok (.ifCond .eq 10, 3) := by decide +kernel
theorem dJ0_coder_7d493_6 : decode cJ0_coder_7d493 6 = .ok (.aload_n 0, 1) := by decide +kernel
theorem dJ0_coder_7d493_7 : decode cJ0_coder_7d493 7 = .ok (.getfield 15, 3) := by decide +kernel
theorem dJ0_coder_7d493_10 : decode cJ0_coder_7d493 10 = .ok (.goto 4, 3) := by decide +kernel
theorem dJ0_coder_7d493_14 : decode cJ0_coder_7d493 14 = .ok (.ireturn, 1) := by decide +kernel
theorem dJ0_isLatin1_aae02_0 : decode cJ0_isLatin1_aae02 0 = .ok (.getstatic 38, 3) := by decide +kernel
theorem dJ0_isLatin1_aae02_3 : decode cJ0_isLatin1_aae02 3 = .ok (.ifCond .eq 14, 3) := by decide +kernel
theorem dJ0_isLatin1_aae02_6 : decode cJ0_isLatin1_aae02 6 = .ok (.aload_n 0, 1) := by decide +kernel
theorem dJ0_isLatin1_aae02_7 : decode cJ0_isLatin1_aae02 7 = .ok (.getfield 15, 3) := by decide +kernel
theorem dJ0_isLatin1_aae02_10 : decode cJ0_isLatin1_aae02 10 = .ok (.ifCond .ne 7, 3) := by decide +kernel
theorem dJ0_isLatin1_aae02_13 : decode cJ0_isLatin1_aae02 13 = .ok (.iconst 1, 1) := by decide +kernel
theorem dJ0_isLatin1_aae02_14 : decode cJ0_isLatin1_aae02 14 = .ok (.goto 4, 3) := by decide +kernel
theorem dJ0_isLatin1_aae02_18 : decode cJ0_isLatin1_aae02 18 = .ok (.ireturn, 1) := by decide +kernel
theorem dJ0_length_8abf5_0 : decode cJ0_length_8abf5 0 = .ok (.aload_n 0, 1) := by decide +kernel
theorem dJ0_length_8abf5_1 : decode cJ0_length_8abf5 1 = .ok (.getfield 9, 3) := by decide +kernel
theorem dJ0_length_8abf5_4 : decode cJ0_length_8abf5 4 = .ok (.arraylength, 1) := by decide +kernel
theorem dJ0_length_8abf5_5 : decode cJ0_length_8abf5 5 = .ok (.aload_n 0, 1) := by decide +kernel
theorem dJ0_length_8abf5_6 : decode cJ0_length_8abf5 6 = .ok (.invokevirtual 335, 3) := by decide +kernel
theorem dJ0_length_8abf5_9 : decode cJ0_length_8abf5 9 = .ok (.ishr, 1) := by decide +kernel
theorem dJ0_length_8abf5_10 : decode cJ0_length_8abf5 10 = .ok (.ireturn, 1) := by decide +kernel
theorem dJ3_checkIndex_8e157_0 : decode cJ3_checkIndex_8e157 0 = .ok (.iload_n 0, 1) := by decide +kernel
theorem dJ3_checkIndex_8e157_1 : decode cJ3_checkIndex_8e157 1 = .ok (.ifCond .lt 8, 3) := by decide +kernel
theorem dJ3_checkIndex_8e157_4 : decode cJ3_checkIndex_8e157 4 = .ok (.iload_n 0, 1) := by decide +kernel
theorem dJ3_checkIndex_8e157_5 : decode cJ3_checkIndex_8e157 5 = .ok (.iload_n 1, 1) := by decide +kernel
theorem dJ3_checkIndex_8e157_6 : decode cJ3_checkIndex_8e157 6 = .ok (.if_icmp .lt 10, 3) := by decide +kernel
theorem dJ3_checkIndex_8e157_16 : decode cJ3_checkIndex_8e157 16 = .ok (.iload_n 0, 1) := by decide +kernel
theorem dJ3_checkIndex_8e157_17 : decode cJ3_checkIndex_8e157 17 = .ok (.ireturn, 1) := by decide +kernel
theorem dJ0_checkIndex_df160_0 : decode cJ0_checkIndex_df160 0 = .ok (.iload_n 0, 1) := by decide +kernel
theorem dJ0_checkIndex_df160_1 : decode cJ0_checkIndex_df160 1 = .ok (.iload_n 1, 1) := by decide +kernel
theorem dJ0_checkIndex_df160_2 : decode cJ0_checkIndex_df160 2 = .ok (.getstatic 1053, 3) := by decide +kernel
theorem dJ0_checkIndex_df160_5 : decode cJ0_checkIndex_df160 5 = .ok (.invokestatic 1059, 3) := by decide +kernel
theorem dJ0_checkIndex_df160_8 : decode cJ0_checkIndex_df160 8 = .ok (.pop, 1) := by decide +kernel
theorem dJ0_checkIndex_df160_9 : decode cJ0_checkIndex_df160 9 = .ok (.return_, 1) := by decide +kernel
theorem dJ1_charAt_3b067_0 : decode cJ1_charAt_3b067 0 = .ok (.iload_n 1, 1) := by decide +kernel
theorem dJ1_charAt_3b067_1 : decode cJ1_charAt_3b067 1 = .ok (.aload_n 0, 1) := by decide +kernel
theorem dJ1_charAt_3b067_2 : decode cJ1_charAt_3b067 2 = .ok (.arraylength, 1) := by decide +kernel
theorem dJ1_charAt_3b067_3 : decode cJ1_charAt_3b067 3 = .ok (.invokestatic 9, 3) := by decide +kernel
theorem dJ1_charAt_3b067_6 : decode cJ1_charAt_3b067 6 = .ok (.aload_n 0, 1) := by decide +kernel
theorem dJ1_charAt_3b067_7 : decode cJ1_charAt_3b067 7 = .ok (.iload_n 1, 1) := by decide +kernel
theorem dJ1_charAt_3b067_8 : decode cJ1_charAt_3b067 8 = .ok (.baload, 1) := by decide +kernel
theorem dJ1_charAt_3b067_9 : decode cJ1_charAt_3b067 9 = .ok (.sipush 255, 3) := by decide +kernel
theorem dJ1_charAt_3b067_12 : decode cJ1_charAt_3b067 12 = .ok (.iand, 1) := by decide +kernel
theorem dJ1_charAt_3b067_13 : decode cJ1_charAt_3b067 13 = .ok (.i2c, 1) := by decide +kernel
theorem dJ1_charAt_3b067_14 : decode cJ1_charAt_3b067 14 = .ok (.ireturn, 1) := by decide +kernel
theorem dJ0_charAt_5068e_0 : decode cJ0_charAt_5068e 0 = .ok (.aload_n 0, 1) := by decide +kernel
theorem dJ0_charAt_5068e_1 : decode cJ0_charAt_5068e 1 = .ok (.invokevirtual 492, 3) := by decide +kernel
theorem dJ0_charAt_5068e_4 : decode cJ0_charAt_5068e 4 = .ok (.ifCond .eq 12, 3) := by decide +kernel
theorem dJ0_charAt_5068e_7 : decode cJ0_charAt_5068e 7 = .ok (.aload_n 0, 1) := by decide +kernel
theorem dJ0_charAt_5068e_8 : decode cJ0_charAt_5068e 8 = .ok (.getfield 9, 3) := by decide +kernel
theorem dJ0_charAt_5068e_11 : decode cJ0_charAt_5068e 11 = .ok (.iload_n 1, 1) := by decide +kernel
theorem dJ0_charAt_5068e_12 : decode cJ0_charAt_5068e 12 = .ok (.invokestatic 495, 3) := by decide +kernel
theorem dJ0_charAt_5068e_15 : decode cJ0_charAt_5068e 15 = .ok (.ireturn, 1) := by decide +kernel
theorem dJ1_canEncode_9a6ad_0 : decode cJ1_canEncode_9a6ad 0 = .ok (.iload_n 0, 1) := by decide +kernel
theorem dJ1_canEncode_9a6ad_1 : decode cJ1_canEncode_9a6ad 1 = .ok (.ifCond .lt 14, 3) := by decide +kernel
theorem dJ1_canEncode_9a6ad_4 : decode cJ1_canEncode_9a6ad 4 = .ok (.iload_n 0, 1) := by decide +kernel
theorem dJ1_canEncode_9a6ad_5 : decode cJ1_canEncode_9a6ad 5 = .ok (.sipush 255, 3) := by decide +kernel
theorem dJ1_canEncode_9a6ad_8 : decode cJ1_canEncode_9a6ad 8 = .ok (.if_icmp .gt 7, 3) := by decide +kernel
theorem dJ1_canEncode_9a6ad_11 : decode cJ1_canEncode_9a6ad 11 = .ok (.iconst 1, 1) := by decide +kernel
theorem dJ1_canEncode_9a6ad_12 : decode cJ1_canEncode_9a6ad 12 = .ok (.goto 4, 3) := by decide +kernel
theorem dJ1_canEncode_9a6ad_15 : decode cJ1_canEncode_9a6ad 15 = .ok (.iconst 0, 1) := by decide +kernel
theorem dJ1_canEncode_9a6ad_16 : decode cJ1_canEncode_9a6ad 16 = .ok (.ireturn, 1) := by decide +kernel
theorem dJ1_indexOfChar_4cfef_0 : decode cJ1_indexOfChar_4cfef 0 = .ok (.iload_n 1, 1) := by decide +kernel
theorem dJ1_indexOfChar_4cfef_1 : decode cJ1_indexOfChar_4cfef 1 = .ok (.i2b, 1) := by decide +kernel
theorem dJ1_indexOfChar_4cfef_2 : decode cJ1_indexOfChar_4cfef 2 = .ok (.istore 4, 2) := by decide +kernel
theorem dJ1_indexOfChar_4cfef_4 : decode cJ1_indexOfChar_4cfef 4 = .ok (.iload_n 2, 1) := by decide +kernel
theorem dJ1_indexOfChar_4cfef_5 : decode cJ1_indexOfChar_4cfef 5 = .ok (.istore 5, 2) := by decide +kernel
theorem dJ1_indexOfChar_4cfef_7 : decode cJ1_indexOfChar_4cfef 7 = .ok (.iload 5, 2) := by decide +kernel
theorem dJ1_indexOfChar_4cfef_9 : decode cJ1_indexOfChar_4cfef 9 = .ok (.iload_n 3, 1) := by decide +kernel
theorem dJ1_indexOfChar_4cfef_10 : decode cJ1_indexOfChar_4cfef 10 = .ok (.if_icmp .ge 21, 3) := by decide +kernel
theorem dJ1_indexOfChar_4cfef_13 : decode cJ1_indexOfChar_4cfef 13 = .ok (.aload_n 0, 1) := by decide +kernel
theorem dJ1_indexOfChar_4cfef_14 : decode cJ1_indexOfChar_4cfef 14 = .ok (.iload 5, 2) := by decide +kernel
theorem dJ1_indexOfChar_4cfef_16 : decode cJ1_indexOfChar_4cfef 16 = .ok (.baload, 1) := by decide +kernel
theorem dJ1_indexOfChar_4cfef_17 : decode cJ1_indexOfChar_4cfef 17 = .ok (.iload 4, 2) := by decide +kernel
theorem dJ1_indexOfChar_4cfef_19 : decode cJ1_indexOfChar_4cfef 19 = .ok (.if_icmp .ne 6, 3) := by decide +kernel
theorem dJ1_indexOfChar_4cfef_22 : decode cJ1_indexOfChar_4cfef 22 = .ok (.iload 5, 2) := by decide +kernel
theorem dJ1_indexOfChar_4cfef_24 : decode cJ1_indexOfChar_4cfef 24 = .ok (.ireturn, 1) := by decide +kernel
theorem dJ1_indexOfChar_4cfef_25 : decode cJ1_indexOfChar_4cfef 25 = .ok (.iinc 5 1, 3) := by decide +kernel
theorem dJ1_indexOfChar_4cfef_28 : decode cJ1_indexOfChar_4cfef 28 = .ok (.goto (-21), 3) := by decide +kernel
theorem dJ1_indexOfChar_4cfef_31 : decode cJ1_indexOfChar_4cfef 31 = .ok (.iconst (-1), 1) := by decide +kernel
theorem dJ1_indexOfChar_4cfef_32 : decode cJ1_indexOfChar_4cfef 32 = .ok (.ireturn, 1) := by decide +kernel
theorem dJ1_indexOf_4cfef_0 : decode cJ1_indexOf_4cfef 0 = .ok (.iload_n 1, 1) := by decide +kernel
theorem dJ1_indexOf_4cfef_1 : decode cJ1_indexOf_4cfef 1 = .ok (.invokestatic 88, 3) := by decide +kernel
theorem dJ1_indexOf_4cfef_4 : decode cJ1_indexOf_4cfef 4 = .ok (.ifCond .ne 5, 3) := by decide +kernel
theorem dJ1_indexOf_4cfef_7 : decode cJ1_indexOf_4cfef 7 = .ok (.iconst (-1), 1) := by decide +kernel
theorem dJ1_indexOf_4cfef_8 : decode cJ1_indexOf_4cfef 8 = .ok (.ireturn, 1) := by decide +kernel
theorem dJ1_indexOf_4cfef_9 : decode cJ1_indexOf_4cfef 9 = .ok (.iload_n 2, 1) := by decide +kernel
theorem dJ1_indexOf_4cfef_10 : decode cJ1_indexOf_4cfef 10 = .ok (.iconst 0, 1) := by decide +kernel
theorem dJ1_indexOf_4cfef_11 : decode cJ1_indexOf_4cfef 11 = .ok (.invokestatic 92, 3) := by decide +kernel
theorem dJ1_indexOf_4cfef_14 : decode cJ1_indexOf_4cfef 14 = .ok (.istore_n 2, 1) := by decide +kernel
theorem dJ1_indexOf_4cfef_15 : decode cJ1_indexOf_4cfef 15 = .ok (.iload_n 3, 1) := by decide +kernel
theorem dJ1_indexOf_4cfef_16 : decode cJ1_indexOf_4cfef 16 = .ok (.aload_n 0, 1) := by decide +kernel
theorem dJ1_indexOf_4cfef_17 : decode cJ1_indexOf_4cfef 17 = .ok (.arraylength, 1) := by decide +kernel
theorem dJ1_indexOf_4cfef_18 : decode cJ1_indexOf_4cfef 18 = .ok (.invokestatic 38, 3) := by decide +kernel
theorem dJ1_indexOf_4cfef_21 : decode cJ1_indexOf_4cfef 21 = .ok (.istore_n 3, 1) := by decide +kernel
theorem dJ1_indexOf_4cfef_22 : decode cJ1_indexOf_4cfef 22 = .ok (.iload_n 2, 1) := by decide +kernel
theorem dJ1_indexOf_4cfef_23 : decode cJ1_indexOf_4cfef 23 = .ok (.iload_n 3, 1) := by decide +kernel
theorem dJ1_indexOf_4cfef_24 : decode cJ1_indexOf_4cfef 24 = .ok (.if_icmp .lt 5, 3) := by decide +kernel
theorem dJ1_indexOf_4cfef_27 : decode cJ1_indexOf_4cfef 27 = .ok (.iconst (-1), 1) := by decide +kernel
theorem dJ1_indexOf_4cfef_28 : decode cJ1_indexOf_4cfef 28 = .ok (.ireturn, 1) := by decide +kernel
theorem dJ1_indexOf_4cfef_29 : decode cJ1_indexOf_4cfef 29 = .ok (.aload_n 0, 1) := by decide +kernel
theorem dJ1_indexOf_4cfef_30 : decode cJ1_indexOf_4cfef 30 = .ok (.iload_n 1, 1) := by decide +kernel
theorem dJ1_indexOf_4cfef_31 : decode cJ1_indexOf_4cfef 31 = .ok (.iload_n 2, 1) := by decide +kernel
theorem dJ1_indexOf_4cfef_32 : decode cJ1_indexOf_4cfef 32 = .ok (.iload_n 3, 1) := by decide +kernel
theorem dJ1_indexOf_4cfef_33 : decode cJ1_indexOf_4cfef 33 = .ok (.invokestatic 95, 3) := by decide +kernel
theorem dJ1_indexOf_4cfef_36 : decode cJ1_indexOf_4cfef 36 = .ok (.ireturn, 1) := by decide +kernel
theorem dJ0_indexOf_7cf53_0 : decode cJ0_indexOf_7cf53 0 = .ok (.aload_n 0, 1) := by decide +kernel
theorem dJ0_indexOf_7cf53_1 : decode cJ0_indexOf_7cf53 1 = .ok (.invokevirtual 492, 3) := by decide +kernel
theorem dJ0_indexOf_7cf53_4 : decode cJ0_indexOf_7cf53 4 = .ok (.ifCond .eq 19, 3) := by decide +kernel
theorem dJ0_indexOf_7cf53_7 : decode cJ0_indexOf_7cf53 7 = .ok (.aload_n 0, 1) := by decide +kernel
theorem dJ0_indexOf_7cf53_8 : decode cJ0_indexOf_7cf53 8 = .ok (.getfield 9, 3) := by decide +kernel
theorem dJ0_indexOf_7cf53_11 : decode cJ0_indexOf_7cf53 11 = .ok (.iload_n 1, 1) := by decide +kernel
theorem dJ0_indexOf_7cf53_12 : decode cJ0_indexOf_7cf53 12 = .ok (.iload_n 2, 1) := by decide +kernel
theorem dJ0_indexOf_7cf53_13 : decode cJ0_indexOf_7cf53 13 = .ok (.aload_n 0, 1) := by decide +kernel
theorem dJ0_indexOf_7cf53_14 : decode cJ0_indexOf_7cf53 14 = .ok (.invokevirtual 505, 3) := by decide +kernel
theorem dJ0_indexOf_7cf53_17 : decode cJ0_indexOf_7cf53 17 = .ok (.invokestatic 637, 3) := by decide +kernel
theorem dJ0_indexOf_7cf53_20 : decode cJ0_indexOf_7cf53 20 = .ok (.goto 16, 3) := by decide +kernel
theorem dJ0_indexOf_7cf53_23 : decode cJ0_indexOf_7cf53 23 = .ok (.aload_n 0, 1) := by decide +kernel
theorem dJ0_indexOf_7cf53_24 : decode cJ0_indexOf_7cf53 24 = .ok (.getfield 9, 3) := by decide +kernel
theorem dJ0_indexOf_7cf53_27 : decode cJ0_indexOf_7cf53 27 = .ok (.iload_n 1, 1) := by decide +kernel
theorem dJ0_indexOf_7cf53_28 : decode cJ0_indexOf_7cf53 28 = .ok (.iload_n 2, 1) := by decide +kernel
theorem dJ0_indexOf_7cf53_29 : decode cJ0_indexOf_7cf53 29 = .ok (.aload_n 0, 1) := by decide +kernel
theorem dJ0_indexOf_7cf53_30 : decode cJ0_indexOf_7cf53 30 = .ok (.invokevirtual 505, 3) := by decide +kernel
theorem dJ0_indexOf_7cf53_36 : decode cJ0_indexOf_7cf53 36 = .ok (.ireturn, 1) := by decide +kernel
theorem dJ0_indexOf_0f7a4_0 : decode cJ0_indexOf_0f7a4 0 = .ok (.aload_n 0, 1) := by decide +kernel
theorem dJ0_indexOf_0f7a4_1 : decode cJ0_indexOf_0f7a4 1 = .ok (.iload_n 1, 1) := by decide +kernel
theorem dJ0_indexOf_0f7a4_2 : decode cJ0_indexOf_0f7a4 2 = .ok (.iconst 0, 1) := by decide +kernel
theorem dJ0_indexOf_0f7a4_3 : decode cJ0_indexOf_0f7a4 3 = .ok (.invokevirtual 633, 3) := by decide +kernel
theorem dJ0_indexOf_0f7a4_6 : decode cJ0_indexOf_0f7a4 6 = .ok (.ireturn, 1) := by decide +kernel
theorem fw_val : Cond.fieldLink RJ0 9 RJ0 "value" "[B" ∈ gw_tbl := gw8 23 (by decide +kernel) rfl
theorem fw_cod : Cond.fieldLink RJ0 15 RJ0 "coder" "B" ∈ gw_tbl := gw8 24 (by decide +kernel) rfl
theorem fw_cmp : Cond.fieldLink RJ0 38 RJ0 "COMPACT_STRINGS" "Z" ∈ gw_tbl := gw2 224 (by decide +kernel) rfl
theorem fw_fmt : Cond.fieldLink RJ0 1053 RJ3 "SIOOBE_FORMATTER" "Ljava/util/function/BiFunction;" ∈ gw_tbl := gw3 0 (by decide +kernel) rfl
theorem ls_shr : ∀ i, i < 2 → Int32.ofNat (lenS.getD i 0) >>> ((0 : Int32) &&& 31) = Int32.ofNat (lenS.getD i 0) := by decide +kernel
theorem ls_int : ∀ i, i < 2 → (Int32.ofNat (lenS.getD i 0)).toInt = (lenS.getD i 0 : Nat) := by decide +kernel
theorem ls_nar : ∀ i, i < 2 → ∀ j, j < lenS.getD i 0 → (chS i j).toUInt32.toUInt16.toUInt32.toInt32 = chS i j := by decide +kernel
set_option maxRecDepth 10000 in
theorem J_coder {l : Launch} {D : va_G} {ids : List Nat} {ad : Nat → Nat} {ca : Nat → ClassId} {K : (Nat → Nat) × (Nat → Nat)} {σ : HS} {i : Nat} (hi : i < 2) : KiS l D ids ad ca K yJ0_coder_7d493 cJ0_coder_7d493 1 .byte 0 0 [.ref (K.1 i)] σ (fun r σ' => r = 0 ∧ σ' = σ) := by
  refine KiS.ofF (by decide +kernel) (Nat.le_of_ble_eq_true rfl) 0 (fun Γ C E Rt => ?_)
  show AW ids ad ca Γ 0 [some (.ref (K.1 i))] [] σ
  refine a_scmp C E fw_cmp dJ0_coder_7d493_0 ?_
  refine a_if_eq C dJ0_coder_7d493_3 rfl (fun h => absurd h (by decide)) (fun _ => ?_)
  refine a_aload_n C dJ0_coder_7d493_6 rfl rfl ?_
  refine a_scod C E hi fw_cod dJ0_coder_7d493_7 ?_
  refine a_goto C dJ0_coder_7d493_10 rfl ?_
  exact a_iret Rt dJ0_coder_7d493_14 rfl ⟨rfl, rfl⟩
set_option maxRecDepth 10000 in
theorem J_isLatin1 {l : Launch} {D : va_G} {ids : List Nat} {ad : Nat → Nat} {ca : Nat → ClassId} {K : (Nat → Nat) × (Nat → Nat)} {σ : HS} {i : Nat} (hi : i < 2) : KiS l D ids ad ca K yJ0_isLatin1_aae02 cJ0_isLatin1_aae02 1 .boolean 0 0 [.ref (K.1 i)] σ (fun r σ' => r = 1 ∧ σ' = σ) := by
  refine KiS.ofF (by decide +kernel) (Nat.le_of_ble_eq_true rfl) 0 (fun Γ C E Rt => ?_)
  show AW ids ad ca Γ 0 [some (.ref (K.1 i))] [] σ
  refine a_scmp C E fw_cmp dJ0_isLatin1_aae02_0 ?_
  refine a_if_eq C dJ0_isLatin1_aae02_3 rfl (fun h => absurd h (by decide)) (fun _ => ?_)
  refine a_aload_n C dJ0_isLatin1_aae02_6 rfl rfl ?_
  refine a_scod C E hi fw_cod dJ0_isLatin1_aae02_7 ?_
  refine a_if_ne C dJ0_isLatin1_aae02_10 rfl (fun h => absurd rfl h) (fun _ => ?_)
  refine a_iconst C dJ0_isLatin1_aae02_13 rfl ?_
  refine a_goto C dJ0_isLatin1_aae02_14 rfl ?_
  exact a_iret Rt dJ0_isLatin1_aae02_18 rfl ⟨rfl, rfl⟩
set_option maxRecDepth 10000 in
theorem J_length {l : Launch} {D : va_G} {ids : List Nat} {ad : Nat → Nat} {ca : Nat → ClassId} {K : (Nat → Nat) × (Nat → Nat)} {σ : HS} {i : Nat} (hi : i < 2) : KiS l D ids ad ca K yJ0_length_8abf5 cJ0_length_8abf5 1 .int 1 20 [.ref (K.1 i)] σ (fun r σ' => r.toInt = (lenS.getD i 0 : Nat) ∧ σ' = σ) := by
  refine KiS.ofF (by decide +kernel) (Nat.le_of_ble_eq_true rfl) 0 (fun Γ C E Rt => ?_)
  show AW ids ad ca Γ 0 [some (.ref (K.1 i))] [] σ
  refine a_aload_n C dJ0_length_8abf5_0 rfl rfl ?_
  refine a_sval C E hi fw_val dJ0_length_8abf5_1 ?_
  refine a_slen C E hi dJ0_length_8abf5_4 ?_
  refine a_aload_n C dJ0_length_8abf5_5 rfl rfl ?_
  refine a_cTiS C E (As := []) hi rfl (J_coder hi) mi_J0_coder_7d493 ml_RJ0_335 rfl rfl (Nat.le_of_ble_eq_true rfl) (Nat.le_of_ble_eq_true rfl) (Nat.le_of_ble_eq_true rfl) dJ0_length_8abf5_6 (fun r σ1 q => ?_)
  obtain ⟨rfl, rfl⟩ := q
  refine a_ishr C dJ0_length_8abf5_9 ?_
  rw [ls_shr i hi]
  exact a_iret Rt dJ0_length_8abf5_10 rfl ⟨ls_int i hi, rfl⟩
set_option maxRecDepth 10000 in
theorem J_pciN {l : Launch} {D : va_G} {ids : List Nat} {ad : Nat → Nat} {ca : Nat → ClassId} {K : (Nat → Nat) × (Nat → Nat)} {σ : HS} {x n : Int32} (h0 : 0 ≤ x.toInt) (h1 : x.toInt < n.toInt) : KiS l D ids ad ca K yJ3_checkIndex_8e157 cJ3_checkIndex_8e157 3 .int 0 0 [.int x, .int n, .null] σ (fun r σ' => σ' = σ) := by
  refine KiS.ofF (by decide +kernel) (Nat.le_of_ble_eq_true rfl) 0 (fun Γ C E Rt => ?_)
  show AW ids ad ca Γ 0 [some (.int x), some (.int n), some (.null)] [] σ
  refine a_iload_n C dJ3_checkIndex_8e157_0 rfl rfl ?_
  refine s_if_lt C dJ3_checkIndex_8e157_1 rfl (fun h => absurd h (by omega)) (fun _ => ?_)
  refine a_iload_n C dJ3_checkIndex_8e157_4 rfl rfl ?_
  refine a_iload_n C dJ3_checkIndex_8e157_5 rfl rfl ?_
  refine s_ic_lt C dJ3_checkIndex_8e157_6 rfl (fun _ => ?_) (fun h => absurd h (by omega))
  refine a_iload_n C dJ3_checkIndex_8e157_16 rfl rfl ?_
  exact a_iret Rt dJ3_checkIndex_8e157_17 rfl rfl
set_option maxRecDepth 10000 in
theorem J_pciR {l : Launch} {D : va_G} {ids : List Nat} {ad : Nat → Nat} {ca : Nat → ClassId} {K : (Nat → Nat) × (Nat → Nat)} {σ : HS} {x n : Int32} {t : Nat} (h0 : 0 ≤ x.toInt) (h1 : x.toInt < n.toInt) : KiS l D ids ad ca K yJ3_checkIndex_8e157 cJ3_checkIndex_8e157 3 .int 0 0 [.int x, .int n, .ref t] σ (fun r σ' => σ' = σ) := by
  refine KiS.ofF (by decide +kernel) (Nat.le_of_ble_eq_true rfl) 0 (fun Γ C E Rt => ?_)
  show AW ids ad ca Γ 0 [some (.int x), some (.int n), some (.ref t)] [] σ
  refine a_iload_n C dJ3_checkIndex_8e157_0 rfl rfl ?_
  refine s_if_lt C dJ3_checkIndex_8e157_1 rfl (fun h => absurd h (by omega)) (fun _ => ?_)
  refine a_iload_n C dJ3_checkIndex_8e157_4 rfl rfl ?_
  refine a_iload_n C dJ3_checkIndex_8e157_5 rfl rfl ?_
  refine s_ic_lt C dJ3_checkIndex_8e157_6 rfl (fun _ => ?_) (fun h => absurd h (by omega))
  refine a_iload_n C dJ3_checkIndex_8e157_16 rfl rfl ?_
  exact a_iret Rt dJ3_checkIndex_8e157_17 rfl rfl
set_option maxRecDepth 10000 in
theorem J_sci {l : Launch} {D : va_G} {ids : List Nat} {ad : Nat → Nat} {ca : Nat → ClassId} {K : (Nat → Nat) × (Nat → Nat)} {σ : HS} {x n : Int32} (h0 : 0 ≤ x.toInt) (h1 : x.toInt < n.toInt) : KvS l D ids ad ca K yJ0_checkIndex_df160 cJ0_checkIndex_df160 2 1 22 [.int x, .int n] σ (fun σ' => σ' = σ) := by
  refine KvS.ofF (by decide +kernel) (Nat.le_of_ble_eq_true rfl) 0 (fun Γ C E Rt => ?_)
  show AW ids ad ca Γ 0 [some (.int x), some (.int n)] [] σ
  refine a_iload_n C dJ0_checkIndex_df160_0 rfl rfl ?_
  refine a_iload_n C dJ0_checkIndex_df160_1 rfl rfl ?_
  refine a_sfmt C E fw_fmt dJ0_checkIndex_df160_2 ?_ (fun t => ?_)
  · refine a_cSiS C E (As := [.int x, .int n, .null]) (J_pciN h0 h1) ms_J3_checkIndex_8e157 ml_RJ0_1059 rfl rfl (Nat.le_of_ble_eq_true rfl) (Nat.le_of_ble_eq_true rfl) (Nat.le_of_ble_eq_true rfl) dJ0_checkIndex_df160_5 (fun r σ1 q => ?_)
    subst q
    refine a_pop C dJ0_checkIndex_df160_8 rfl ?_
    exact a_vret Rt dJ0_checkIndex_df160_9 rfl
  · refine a_cSiS C E (As := [.int x, .int n, .ref t]) (J_pciR h0 h1) ms_J3_checkIndex_8e157 ml_RJ0_1059 rfl rfl (Nat.le_of_ble_eq_true rfl) (Nat.le_of_ble_eq_true rfl) (Nat.le_of_ble_eq_true rfl) dJ0_checkIndex_df160_5 (fun r σ1 q => ?_)
    subst q
    refine a_pop C dJ0_checkIndex_df160_8 rfl ?_
    exact a_vret Rt dJ0_checkIndex_df160_9 rfl
set_option maxRecDepth 10000 in
theorem J_lca {l : Launch} {D : va_G} {ids : List Nat} {ad : Nat → Nat} {ca : Nat → ClassId} {K : (Nat → Nat) × (Nat → Nat)} {σ : HS} {i : Nat} (hi : i < 2) {x : Int32} (h0 : 0 ≤ x.toInt) (h1 : x.toInt < (lenS.getD i 0 : Nat)) : KiS l D ids ad ca K yJ1_charAt_3b067 cJ1_charAt_3b067 2 .char 2 43 [.ref (K.2 i), .int x] σ (fun r σ' => (∃ j : Nat, (j : Int) = x.toInt ∧ r = chS i j) ∧ σ' = σ) := by
  refine KiS.ofF (by decide +kernel) (Nat.le_of_ble_eq_true rfl) 0 (fun Γ C E Rt => ?_)
  show AW ids ad ca Γ 0 [some (.ref (K.2 i)), some (.int x)] [] σ
  refine a_iload_n C dJ1_charAt_3b067_0 rfl rfl ?_
  refine a_aload_n C dJ1_charAt_3b067_1 rfl rfl ?_
  refine a_slen C E hi dJ1_charAt_3b067_2 ?_
  refine a_cSvS C E (As := [.int x, .int (Int32.ofNat (lenS.getD i 0))]) (J_sci h0 (by rw [ls_int i hi]; exact h1)) ms_J0_checkIndex_df160 ml_RJ1_9 rfl rfl (Nat.le_of_ble_eq_true rfl) (Nat.le_of_ble_eq_true rfl) (Nat.le_of_ble_eq_true rfl) dJ1_charAt_3b067_3 (fun σ1 q => ?_)
  subst q
  refine a_aload_n C dJ1_charAt_3b067_6 rfl rfl ?_
  refine a_iload_n C dJ1_charAt_3b067_7 rfl rfl ?_
  refine a_sbald C E hi h0 h1 dJ1_charAt_3b067_8 (fun jn hj => ?_)
  refine a_sipush C dJ1_charAt_3b067_9 (v := 255) rfl ?_
  refine a_iand C dJ1_charAt_3b067_12 ?_
  refine a_i2c C dJ1_charAt_3b067_13 ?_
  exact a_iret Rt dJ1_charAt_3b067_14 (congrArg Value.int (ls_nar i hi jn (by omega))) ⟨⟨jn, hj, rfl⟩, rfl⟩
set_option maxRecDepth 10000 in
theorem J_charAt {l : Launch} {D : va_G} {ids : List Nat} {ad : Nat → Nat} {ca : Nat → ClassId} {K : (Nat → Nat) × (Nat → Nat)} {σ : HS} {i : Nat} (hi : i < 2) {x : Int32} (h0 : 0 ≤ x.toInt) (h1 : x.toInt < (lenS.getD i 0 : Nat)) : KiS l D ids ad ca K yJ0_charAt_5068e cJ0_charAt_5068e 2 .char 3 70 [.ref (K.1 i), .int x] σ (fun r σ' => (∃ j : Nat, (j : Int) = x.toInt ∧ r = chS i j) ∧ σ' = σ) := by
  refine KiS.ofF (by decide +kernel) (Nat.le_of_ble_eq_true rfl) 0 (fun Γ C E Rt => ?_)
  show AW ids ad ca Γ 0 [some (.ref (K.1 i)), some (.int x)] [] σ
  refine a_aload_n C dJ0_charAt_5068e_0 rfl rfl ?_
  refine a_cTiS C E (As := []) hi rfl (J_isLatin1 hi) mi_J0_isLatin1_aae02 ml_RJ0_492 rfl rfl (Nat.le_of_ble_eq_true rfl) (Nat.le_of_ble_eq_true rfl) (Nat.le_of_ble_eq_true rfl) dJ0_charAt_5068e_1 (fun r σ1 q => ?_)
  obtain ⟨rfl, rfl⟩ := q
  refine a_if_eq C dJ0_charAt_5068e_4 rfl (fun h => absurd h (by decide)) (fun _ => ?_)
  refine a_aload_n C dJ0_charAt_5068e_7 rfl rfl ?_
  refine a_sval C E hi fw_val dJ0_charAt_5068e_8 ?_
  refine a_iload_n C dJ0_charAt_5068e_11 rfl rfl ?_
  refine a_cSiS C E (As := [.ref (K.2 i), .int x]) (J_lca hi h0 h1) ms_J1_charAt_3b067 ml_RJ0_495 rfl rfl (Nat.le_of_ble_eq_true rfl) (Nat.le_of_ble_eq_true rfl) (Nat.le_of_ble_eq_true rfl) dJ0_charAt_5068e_12 (fun r σ1 q => ?_)
  obtain ⟨⟨j, hj, rfl⟩, rfl⟩ := q
  exact a_iret Rt dJ0_charAt_5068e_15 (congrArg Value.int (ls_nar i hi j (by omega))) ⟨⟨j, hj, rfl⟩, rfl⟩

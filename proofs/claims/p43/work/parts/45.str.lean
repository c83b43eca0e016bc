/-! the String constants beside the world -/
def txW : String := "thing pattern tires drops force pays rests seed if then else weight edge height beat tired up which caught hand "
def txS : String := ";=+-*/<()"
def lenS : List Nat := [112, 9]
def bytS : List (List Int32) := [[116, 104, 105, 110, 103, 32, 112, 97, 116, 116, 101, 114, 110, 32, 116, 105, 114, 101, 115, 32, 100, 114, 111, 112, 115, 32, 102, 111, 114, 99, 101, 32, 112, 97, 121, 115, 32, 114, 101, 115, 116, 115, 32, 115, 101, 101, 100, 32, 105, 102, 32, 116, 104, 101, 110, 32, 101, 108, 115, 101, 32, 119, 101, 105, 103, 104, 116, 32, 101, 100, 103, 101, 32, 104, 101, 105, 103, 104, 116, 32, 98, 101, 97, 116, 32, 116, 105, 114, 101, 100, 32, 117, 112, 32, 119, 104, 105, 99, 104, 32, 99, 97, 117, 103, 104, 116, 32, 104, 97, 110, 100, 32], [59, 61, 43, 45, 42, 47, 60, 40, 41]]
def chS (i j : Nat) : Int32 := ((((bytS.getD i []).getD j 0) &&& 255).toUInt32 % 65536).toInt32
/-- the two literals and the JDK's two statics, at a state -/
def SE (K : (Nat → Nat) × (Nat → Nat)) (A : Nat → Prop) (U : State) : Prop := vk_S 2 lenS bytS K.1 K.2 A U U.heap ∧ vk_R RX9 67 txW (K.1 0) U ∧ vk_R RX9 52 txS (K.1 1) U ∧ va_Z RJ0 "COMPACT_STRINGS" "Z" (.int 1) A U U.heap ∧ va_Zq RJ3 "SIOOBE_FORMATTER" "Ljava/util/function/BiFunction;" A U U.heap
theorem SE.go {K : (Nat → Nat) × (Nat → Nat)} {A B : Nat → Prop} {s U : State} {H : Heap} {locs : List Loc} (h : SE K A s) (hU : U.heap = H) (hW : s.WarmedH U.vm) (hS : va_S A s.heap H locs) (hB : ∀ q, B q → A q) : SE K B U := by
  obtain ⟨h1, h2, h3, h4, h5⟩ := h
  subst hU
  exact ⟨((h1.kept hS.2.1).moved hW.alike).narrow hB, h2.warm hW, h3.warm hW, ((h4.kept hS.2.1).moved hW.alike).narrow hB, ((h5.kept hS.2.1).moved hW.alike).narrow hB⟩
theorem SE.same {K : (Nat → Nat) × (Nat → Nat)} {A : Nat → Prop} {s U : State} (h : SE K A s) (hv : U.vm = s.vm) (hh : U.heap = s.heap) : SE K A U := by
  obtain ⟨h1, h2, h3, h4, h5⟩ := h
  have ha : s.vm.Alike U.vm := by rw [hv]; exact Vm.Alike.refl s.vm
  unfold SE
  rw [hh]
  exact ⟨h1.moved ha, h2.same hv, h3.same hv, h4.moved ha, h5.moved ha⟩
def SG (K : (Nat → Nat) × (Nat → Nat)) (Γ : GT) : Prop := match Γ with
  | (_, _, _, _, s, _, _, _, _, _, _, _, _, _, A, H0, _) => H0 = s.heap ∧ SE K A s
def KPreS (K : (Nat → Nat) × (Nat → Nat)) (D : va_G) (ids : List Nat) (ad : Nat → Nat) (ca : Nat → ClassId) (σ : HS) (sz : Nat) (U : State) : Prop := KPre D ids ad ca σ sz U ∧ SE K (va_A (mw ids ad ca σ) sz) U
theorem KPreS.blind {K : (Nat → Nat) × (Nat → Nat)} {ids : List Nat} {ad : Nat → Nat} {ca : Nat → ClassId} {σ : HS} {D : va_G} {av : List Value} {sz : Nat} : FrameBlind (va_Pc av (KPreS K D ids ad ca σ sz)) := fun a U g mk q => by
  obtain ⟨q0, ⟨q1, qP, qK, qD, qE⟩, qS⟩ := q
  exact ⟨q0, ⟨q1, qP, va_K.moved (u := U) (U := U.calling g mk a) (Vm.Alike.refl U.vm) qK, qD, EN.same (s := U) (U := U.calling g mk a) rfl qE⟩, SE.same (U := U.calling g mk a) qS rfl rfl⟩
def KiS (l : Launch) (D : va_G) (ids : List Nat) (ad : Nat → Nat) (ca : Nat → ClassId) (K : (Nat → Nat) × (Nat → Nat)) (y : MethodName) (cc : ByteArray) (nL : Nat) (ty : FieldType) (fr lo : Nat) (av : List Value) (σ : HS) (post : Int32 → HS → Prop) : Prop :=
  ∀ sz : Nat, Met l y (.code y cc nL (some ty) :: gw_tbl) { frames := fr, cells := 0, slots := 0, locals := lo } (va_Pc av (KPreS K D ids ad ca σ sz)) (va_Qi post (KAt D ids ad ca (va_A (mw ids ad ca σ) sz)) (va_A (mw ids ad ca σ) sz)) 0 0 (va_A (mw ids ad ca σ) sz)
def KvS (l : Launch) (D : va_G) (ids : List Nat) (ad : Nat → Nat) (ca : Nat → ClassId) (K : (Nat → Nat) × (Nat → Nat)) (y : MethodName) (cc : ByteArray) (nL : Nat) (fr lo : Nat) (av : List Value) (σ : HS) (post : HS → Prop) : Prop :=
  ∀ sz : Nat, Met l y (.code y cc nL none :: gw_tbl) { frames := fr, cells := 0, slots := 0, locals := lo } (va_Pc av (KPreS K D ids ad ca σ sz)) (va_Qv post (KAt D ids ad ca (va_A (mw ids ad ca σ) sz)) (va_A (mw ids ad ca σ) sz)) 0 0 (va_A (mw ids ad ca σ) sz)
theorem KiS.of {l : Launch} {D : va_G} {ids : List Nat} {ad : Nat → Nat} {ca : Nat → ClassId} {K : (Nat → Nat) × (Nat → Nat)} {y : MethodName} {cc : ByteArray} {nL fr lo : Nat} {ty : FieldType} {av : List Value} {σ : HS} {post : Int32 → HS → Prop} (hy : plainName y.cls = true) (hL : (lg_sl av).length ≤ nL) (z : Nat)
    (body : ∀ Γ : GT, CT ids ad ca Γ cc y.cls l D fr lo nL → SG K Γ → RI ids ad ca Γ cc ty post → AW ids ad ca Γ 0 (entL av ++ List.replicate z none) [] σ) : KiS l D ids ad ca K y cc nL ty fr lo av σ post := by
  intro sz
  refine Met.ofW (cc := cc) (maxL := nL) (ret := some ty) hy rfl ?_
  intro p e s m args below meth c s₁ B hml hv
  obtain ⟨rfl, ⟨hsz, hP, hK, hD0, hE⟩, hSE⟩ := hv
  have hts := atoms_spec (ws := (.code y cc nL (some ty) :: gw_tbl)) B.pre
  subst hsz
  have hD := hD0.self (sz := s.heap.size)
  rw [lg_entry_eq]
  refine body (p, l, e, { frames := fr, cells := 0, slots := 0, locals := lo }, s, m, av.toArray, below, meth, c, 0, 0, _, D, va_A (mw ids ad ca σ) s.heap.size, s.heap, nL) ⟨⟨B.exec, B.bytes, hml, findClass_of_methodNamed B.named, fun w h => hts w (List.mem_cons_of_mem _ h)⟩, hK, hE, fun σ' => mw_D hD σ', fun q h => Or.inr h, rfl, rfl, Nat.le_refl _, Nat.le_refl _, Nat.le_refl _, Nat.le_refl _, rfl⟩ ⟨rfl, hSE⟩ ?_ s.heap [] _ hP va_S.rf (LV.entry av hL z)
  intro H locs ls pc σ' v hP' hS hp hd hn
  exact W.zret B.exec B.bytes B.returns hn (fun t ht hW => ⟨⟨v, σ', rfl, hp, by rw [ht]; exact hP', va_K.moved hW.alike hK, mw_D hD σ'⟩, hS.F ht⟩) hS.2.2 hd B.notSynchronized
theorem KiS.ofF {l : Launch} {D : va_G} {ids : List Nat} {ad : Nat → Nat} {ca : Nat → ClassId} {K : (Nat → Nat) × (Nat → Nat)} {y : MethodName} {cc : ByteArray} {nL fr lo : Nat} {ty : FieldType} {av : List Value} {σ : HS} {post : Int32 → HS → Prop} (hy : plainFor y = true) (hL : (lg_sl av).length ≤ nL) (z : Nat)
    (body : ∀ Γ : GT, CT ids ad ca Γ cc y.cls l D fr lo nL → SG K Γ → RI ids ad ca Γ cc ty post → AW ids ad ca Γ 0 (entL av ++ List.replicate z none) [] σ) : KiS l D ids ad ca K y cc nL ty fr lo av σ post := by
  intro sz
  refine met_ofWF (cc := cc) (maxL := nL) (ret := some ty) hy rfl ?_
  intro p e s m args below meth c s₁ B hml hv
  obtain ⟨rfl, ⟨hsz, hP, hK, hD0, hE⟩, hSE⟩ := hv
  have hts := atoms_spec (ws := (.code y cc nL (some ty) :: gw_tbl)) B.pre
  subst hsz
  have hD := hD0.self (sz := s.heap.size)
  rw [lg_entry_eq]
  refine body (p, l, e, { frames := fr, cells := 0, slots := 0, locals := lo }, s, m, av.toArray, below, meth, c, 0, 0, _, D, va_A (mw ids ad ca σ) s.heap.size, s.heap, nL) ⟨⟨B.exec, B.bytes, hml, findClass_of_methodNamed B.named, fun w h => hts w (List.mem_cons_of_mem _ h)⟩, hK, hE, fun σ' => mw_D hD σ', fun q h => Or.inr h, rfl, rfl, Nat.le_refl _, Nat.le_refl _, Nat.le_refl _, Nat.le_refl _, rfl⟩ ⟨rfl, hSE⟩ ?_ s.heap [] _ hP va_S.rf (LV.entry av hL z)
  intro H locs ls pc σ' v hP' hS hp hd hn
  exact W.zret B.exec B.bytes B.returns hn (fun t ht hW => ⟨⟨v, σ', rfl, hp, by rw [ht]; exact hP', va_K.moved hW.alike hK, mw_D hD σ'⟩, hS.F ht⟩) hS.2.2 hd B.notSynchronized
theorem KvS.of {l : Launch} {D : va_G} {ids : List Nat} {ad : Nat → Nat} {ca : Nat → ClassId} {K : (Nat → Nat) × (Nat → Nat)} {y : MethodName} {cc : ByteArray} {nL fr lo : Nat} {av : List Value} {σ : HS} {post : HS → Prop} (hy : plainName y.cls = true) (hL : (lg_sl av).length ≤ nL) (z : Nat)
    (body : ∀ Γ : GT, CT ids ad ca Γ cc y.cls l D fr lo nL → SG K Γ → RV ids ad ca Γ cc post → AW ids ad ca Γ 0 (entL av ++ List.replicate z none) [] σ) : KvS l D ids ad ca K y cc nL fr lo av σ post := by
  intro sz
  refine Met.ofW (cc := cc) (maxL := nL) (ret := none) hy rfl ?_
  intro p e s m args below meth c s₁ B hml hv
  obtain ⟨rfl, ⟨hsz, hP, hK, hD0, hE⟩, hSE⟩ := hv
  have hts := atoms_spec (ws := (.code y cc nL none :: gw_tbl)) B.pre
  subst hsz
  have hD := hD0.self (sz := s.heap.size)
  rw [lg_entry_eq]
  refine body (p, l, e, { frames := fr, cells := 0, slots := 0, locals := lo }, s, m, av.toArray, below, meth, c, 0, 0, _, D, va_A (mw ids ad ca σ) s.heap.size, s.heap, nL) ⟨⟨B.exec, B.bytes, hml, findClass_of_methodNamed B.named, fun w h => hts w (List.mem_cons_of_mem _ h)⟩, hK, hE, fun σ' => mw_D hD σ', fun q h => Or.inr h, rfl, rfl, Nat.le_refl _, Nat.le_refl _, Nat.le_refl _, Nat.le_refl _, rfl⟩ ⟨rfl, hSE⟩ ?_ s.heap [] _ hP va_S.rf (LV.entry av hL z)
  intro H locs ls pc σ' hP' hS hp hd
  exact W.vret B.exec B.bytes B.returns (fun t ht hW => ⟨⟨σ', rfl, hp, by rw [ht]; exact hP', va_K.moved hW.alike hK, mw_D hD σ'⟩, hS.F ht⟩) hS.2.2 hd B.notSynchronized
theorem KvS.ofF {l : Launch} {D : va_G} {ids : List Nat} {ad : Nat → Nat} {ca : Nat → ClassId} {K : (Nat → Nat) × (Nat → Nat)} {y : MethodName} {cc : ByteArray} {nL fr lo : Nat} {av : List Value} {σ : HS} {post : HS → Prop} (hy : plainFor y = true) (hL : (lg_sl av).length ≤ nL) (z : Nat)
    (body : ∀ Γ : GT, CT ids ad ca Γ cc y.cls l D fr lo nL → SG K Γ → RV ids ad ca Γ cc post → AW ids ad ca Γ 0 (entL av ++ List.replicate z none) [] σ) : KvS l D ids ad ca K y cc nL fr lo av σ post := by
  intro sz
  refine met_ofWF (cc := cc) (maxL := nL) (ret := none) hy rfl ?_
  intro p e s m args below meth c s₁ B hml hv
  obtain ⟨rfl, ⟨hsz, hP, hK, hD0, hE⟩, hSE⟩ := hv
  have hts := atoms_spec (ws := (.code y cc nL none :: gw_tbl)) B.pre
  subst hsz
  have hD := hD0.self (sz := s.heap.size)
  rw [lg_entry_eq]
  refine body (p, l, e, { frames := fr, cells := 0, slots := 0, locals := lo }, s, m, av.toArray, below, meth, c, 0, 0, _, D, va_A (mw ids ad ca σ) s.heap.size, s.heap, nL) ⟨⟨B.exec, B.bytes, hml, findClass_of_methodNamed B.named, fun w h => hts w (List.mem_cons_of_mem _ h)⟩, hK, hE, fun σ' => mw_D hD σ', fun q h => Or.inr h, rfl, rfl, Nat.le_refl _, Nat.le_refl _, Nat.le_refl _, Nat.le_refl _, rfl⟩ ⟨rfl, hSE⟩ ?_ s.heap [] _ hP va_S.rf (LV.entry av hL z)
  intro H locs ls pc σ' hP' hS hp hd
  exact W.vret B.exec B.bytes B.returns (fun t ht hW => ⟨⟨σ', rfl, hp, by rw [ht]; exact hP', va_K.moved hW.alike hK, mw_D hD σ'⟩, hS.F ht⟩) hS.2.2 hd B.notSynchronized
section STRR
variable {ids : List Nat} {ad : Nat → Nat} {ca : Nat → ClassId} {Γ : GT} {cc : ByteArray} {own : String} {l0 : Launch} {D0 : va_G} {fr lo nL0 : Nat} {pc : Nat} {vs : List (Option Value)} {st : List Value} {σ : HS} {K : (Nat → Nat) × (Nat → Nat)}
theorem a_ldcW (C : CT ids ad ca Γ cc own l0 D0 fr lo nL0) (E : SG K Γ) (ho : own = RX9) (hd : decode cc pc = .ok (.ldc 67, 2)) (k : AW ids ad ca Γ (pc + 2) vs (.ref (K.1 0) :: st) σ) : AW ids ad ca Γ pc vs st σ := by
  obtain ⟨p, l, e, R, s, m, args, below, meth, c, kc, ks, Q, D, A, H0, nL⟩ := Γ
  obtain ⟨⟨hx, hb, hml, hown, hts⟩, hK, hE, hD, hA0, rfl, rfl, hfr, hlo, hkc, hks, rfl⟩ := C
  obtain ⟨hH0, hSE⟩ := E
  subst hH0
  intro H locs ls hP hS hl
  subst ho
  exact va_ldcS hx hb hown hSE.2.1 hd (k H locs ls hP hS hl)
theorem a_ldcG (C : CT ids ad ca Γ cc own l0 D0 fr lo nL0) (E : SG K Γ) (ho : own = RX9) (hd : decode cc pc = .ok (.ldc 52, 2)) (k : AW ids ad ca Γ (pc + 2) vs (.ref (K.1 1) :: st) σ) : AW ids ad ca Γ pc vs st σ := by
  obtain ⟨p, l, e, R, s, m, args, below, meth, c, kc, ks, Q, D, A, H0, nL⟩ := Γ
  obtain ⟨⟨hx, hb, hml, hown, hts⟩, hK, hE, hD, hA0, rfl, rfl, hfr, hlo, hkc, hks, rfl⟩ := C
  obtain ⟨hH0, hSE⟩ := E
  subst hH0
  intro H locs ls hP hS hl
  subst ho
  exact va_ldcS hx hb hown hSE.2.2.1 hd (k H locs ls hP hS hl)
theorem a_sval (C : CT ids ad ca Γ cc own l0 D0 fr lo nL0) (E : SG K Γ) {i ix : Nat} (hi : i < 2) (hw : Cond.fieldLink own ix RJ0 "value" "[B" ∈ gw_tbl) (hd : decode cc pc = .ok (.getfield ix, 3)) (k : AW ids ad ca Γ (pc + 3) vs (.ref (K.2 i) :: st) σ) : AW ids ad ca Γ pc vs (.ref (K.1 i) :: st) σ := by
  obtain ⟨p, l, e, R, s, m, args, below, meth, c, kc, ks, Q, D, A, H0, nL⟩ := Γ
  obtain ⟨⟨hx, hb, hml, hown, hts⟩, hK, hE, hD, hA0, rfl, rfl, hfr, hlo, hkc, hks, rfl⟩ := C
  obtain ⟨hH0, hSE⟩ := E
  subst hH0
  intro H locs ls hP hS hl
  exact vk_getf hx hb (hSE.1.1 i hi).2.2.1 hS hown (hts _ hw) (fun _ h => h) hd (k H locs ls hP hS hl)
theorem a_scod (C : CT ids ad ca Γ cc own l0 D0 fr lo nL0) (E : SG K Γ) {i ix : Nat} (hi : i < 2) (hw : Cond.fieldLink own ix RJ0 "coder" "B" ∈ gw_tbl) (hd : decode cc pc = .ok (.getfield ix, 3)) (k : AW ids ad ca Γ (pc + 3) vs (.int 0 :: st) σ) : AW ids ad ca Γ pc vs (.ref (K.1 i) :: st) σ := by
  obtain ⟨p, l, e, R, s, m, args, below, meth, c, kc, ks, Q, D, A, H0, nL⟩ := Γ
  obtain ⟨⟨hx, hb, hml, hown, hts⟩, hK, hE, hD, hA0, rfl, rfl, hfr, hlo, hkc, hks, rfl⟩ := C
  obtain ⟨hH0, hSE⟩ := E
  subst hH0
  intro H locs ls hP hS hl
  exact vk_getf hx hb (hSE.1.1 i hi).2.1 hS hown (hts _ hw) (fun _ h => h) hd (k H locs ls hP hS hl)
theorem a_scmp (C : CT ids ad ca Γ cc own l0 D0 fr lo nL0) (E : SG K Γ) {ix : Nat} (hw : Cond.fieldLink own ix RJ0 "COMPACT_STRINGS" "Z" ∈ gw_tbl) (hd : decode cc pc = .ok (.getstatic ix, 3)) (k : AW ids ad ca Γ (pc + 3) vs (.int 1 :: st) σ) : AW ids ad ca Γ pc vs st σ := by
  obtain ⟨p, l, e, R, s, m, args, below, meth, c, kc, ks, Q, D, A, H0, nL⟩ := Γ
  obtain ⟨⟨hx, hb, hml, hown, hts⟩, hK, hE, hD, hA0, rfl, rfl, hfr, hlo, hkc, hks, rfl⟩ := C
  obtain ⟨hH0, hSE⟩ := E
  subst hH0
  intro H locs ls hP hS hl
  exact va_gets hx hb hSE.2.2.2.1 hS hown (hts _ hw) (fun _ h => h) hd (k H locs ls hP hS hl)
theorem a_sfmt (C : CT ids ad ca Γ cc own l0 D0 fr lo nL0) (E : SG K Γ) {ix : Nat} (hw : Cond.fieldLink own ix RJ3 "SIOOBE_FORMATTER" "Ljava/util/function/BiFunction;" ∈ gw_tbl) (hd : decode cc pc = .ok (.getstatic ix, 3)) (kn : AW ids ad ca Γ (pc + 3) vs (.null :: st) σ) (kr : ∀ t : Nat, AW ids ad ca Γ (pc + 3) vs (.ref t :: st) σ) : AW ids ad ca Γ pc vs st σ := by
  obtain ⟨p, l, e, R, s, m, args, below, meth, c, kc, ks, Q, D, A, H0, nL⟩ := Γ
  obtain ⟨⟨hx, hb, hml, hown, hts⟩, hK, hE, hD, hA0, rfl, rfl, hfr, hlo, hkc, hks, rfl⟩ := C
  obtain ⟨hH0, hSE⟩ := E
  subst hH0
  intro H locs ls hP hS hl
  rcases hSE.2.2.2.2 with h | ⟨t, h⟩
  · exact va_gets hx hb h hS hown (hts _ hw) (fun _ h => h) hd (kn H locs ls hP hS hl)
  · exact va_gets hx hb h hS hown (hts _ hw) (fun _ h => h) hd (kr t H locs ls hP hS hl)
theorem a_slen (C : CT ids ad ca Γ cc own l0 D0 fr lo nL0) (E : SG K Γ) {i : Nat} (hi : i < 2) (hd : decode cc pc = .ok (.arraylength, 1)) (k : AW ids ad ca Γ (pc + 1) vs (.int (Int32.ofNat (lenS.getD i 0)) :: st) σ) : AW ids ad ca Γ pc vs (.ref (K.2 i) :: st) σ := by
  obtain ⟨p, l, e, R, s, m, args, below, meth, c, kc, ks, Q, D, A, H0, nL⟩ := Γ
  obtain ⟨⟨hx, hb, hml, hown, hts⟩, hK, hE, hD, hA0, rfl, rfl, hfr, hlo, hkc, hks, rfl⟩ := C
  obtain ⟨hH0, hSE⟩ := E
  subst hH0
  intro H locs ls hP hS hl
  exact va_tlen hx hb (hSE.1.1 i hi).2.2.2 hS rfl hd (k H locs ls hP hS hl)
theorem a_sbald (C : CT ids ad ca Γ cc own l0 D0 fr lo nL0) (E : SG K Γ) {i : Nat} (hi : i < 2) {j : Int32} (h0 : 0 ≤ j.toInt) (h1 : j.toInt < (lenS.getD i 0 : Nat)) (hd : decode cc pc = .ok (.baload, 1)) (k : ∀ jn : Nat, (jn : Int) = j.toInt → AW ids ad ca Γ (pc + 1) vs (.int ((bytS.getD i []).getD jn 0) :: st) σ) : AW ids ad ca Γ pc vs (.int j :: .ref (K.2 i) :: st) σ := by
  obtain ⟨p, l, e, R, s, m, args, below, meth, c, kc, ks, Q, D, A, H0, nL⟩ := Γ
  obtain ⟨⟨hx, hb, hml, hown, hts⟩, hK, hE, hD, hA0, rfl, rfl, hfr, hlo, hkc, hks, rfl⟩ := C
  obtain ⟨hH0, hSE⟩ := E
  subst hH0
  intro H locs ls hP hS hl
  have hc : (j.toNatClampNeg : Int) = j.toInt := by
    show ((j.toInt.toNat : Nat) : Int) = j.toInt
    omega
  refine va_tb hx hb (hSE.1.1 i hi).2.2.2 hS (i := j) (fun q => ?_) rfl hd (k _ hc H locs ls hP hS hl)
  rcases q with q | q
  · have q := Int32.lt_iff_toInt_lt.mp q
    rw [show (0 : Int32).toInt = 0 from rfl] at q
    omega
  · omega
theorem a_cSiS (C : CT ids ad ca Γ cc own l0 D0 fr lo nL0) (E : SG K Γ) {y : MethodName} {cc' : ByteArray} {nL' fr' lo' n ix : Nat} {ty : FieldType} {As st0 : List Value} {post : Int32 → HS → Prop} (hM : KiS l0 D0 ids ad ca K y cc' nL' ty fr' lo' (As) σ post) (hw : MS y cc' nL' (some ty) n) (hlink : Cond.methodLink own ix y ∈ gw_tbl) (hst : st0 = As.reverse ++ st) (hn : As.length = n) (hf1 : fr' + 1 ≤ fr) (hl1 : 8 + (nL' + 11) + lo' ≤ lo) (hcat : (st.map fun v => v.category).sum ≤ 8) (hd : decode cc pc = .ok (.invokestatic ix, 3)) (k : ∀ (r : Int32) (σ' : HS), post r σ' → AW ids ad ca Γ (pc + 3) vs (.int r :: st) σ') : AW ids ad ca Γ pc vs st0 σ := by
  obtain ⟨p, l, e, R, s, m, args, below, meth, c, kc, ks, Q, D, A, H0, nL⟩ := Γ
  obtain ⟨⟨hx, hb, hml, hown, hts⟩, hK, hE, hD, hA0, rfl, rfl, hfr, hlo, hkc, hks, rfl⟩ := C
  obtain ⟨hH0, hSE⟩ := E
  subst hH0
  intro H locs ls hP hS hl
  obtain ⟨w1, w3, w4, w5, w6, w7⟩ := hw
  subst hst
  have hG : GoodIn gw_tbl (va_wsS own ix y (.code y cc' nL' (some ty) :: gw_tbl)) := lw_goodIn (fun w h => by
    simp only [va_wsS, List.cons_append, List.nil_append, List.mem_cons] at h
    rcases h with rfl | rfl | rfl | rfl | h
    · exact hlink
    · exact w1
    · exact w3
    · exact w4
    · exact h)
  have hFc := mw_freeA (hD σ) hS hA0
  refine va_calli (va_runS (As := As) (rest := st) ⟨hx, hb, hml, hown, hts⟩ (hM H.size) (va_cwS n hts hG rfl rfl rfl ⟨w5, w6, w7⟩ ⟨Nat.le_trans hf1 hfr, Nat.le_trans hl1 hlo⟩) ⟨KPreS.blind, fun U hU hW => ⟨rfl, ⟨by rw [hU], by rw [hU]; exact hP, va_K.moved hW.alike hK, (hD σ).weaken (fun _ _ _ _ => trivial), hE.warm hW⟩, hSE.go hU hW hS hFc⟩⟩ rfl hn hl.1 rfl (lv_room hcat) hd ⟨hkc, hks⟩) hS (fun q _ h => hFc q h) hFc (fun r u t H1 locs1 ht hvm hw hB hz1 hk1 hS1 => ?_)
  have hP1 := hB.1
  rw [ht] at hP1
  exact k r u hw H1 locs1 ls hP1 hS1 hl
theorem a_cSvS (C : CT ids ad ca Γ cc own l0 D0 fr lo nL0) (E : SG K Γ) {y : MethodName} {cc' : ByteArray} {nL' fr' lo' n ix : Nat} {As st0 : List Value} {post : HS → Prop} (hM : KvS l0 D0 ids ad ca K y cc' nL' fr' lo' (As) σ post) (hw : MS y cc' nL' none n) (hlink : Cond.methodLink own ix y ∈ gw_tbl) (hst : st0 = As.reverse ++ st) (hn : As.length = n) (hf1 : fr' + 1 ≤ fr) (hl1 : 8 + (nL' + 11) + lo' ≤ lo) (hcat : (st.map fun v => v.category).sum ≤ 8) (hd : decode cc pc = .ok (.invokestatic ix, 3)) (k : ∀ (σ' : HS), post σ' → AW ids ad ca Γ (pc + 3) vs st σ') : AW ids ad ca Γ pc vs st0 σ := by
  obtain ⟨p, l, e, R, s, m, args, below, meth, c, kc, ks, Q, D, A, H0, nL⟩ := Γ
  obtain ⟨⟨hx, hb, hml, hown, hts⟩, hK, hE, hD, hA0, rfl, rfl, hfr, hlo, hkc, hks, rfl⟩ := C
  obtain ⟨hH0, hSE⟩ := E
  subst hH0
  intro H locs ls hP hS hl
  obtain ⟨w1, w3, w4, w5, w6, w7⟩ := hw
  subst hst
  have hG : GoodIn gw_tbl (va_wsS own ix y (.code y cc' nL' none :: gw_tbl)) := lw_goodIn (fun w h => by
    simp only [va_wsS, List.cons_append, List.nil_append, List.mem_cons] at h
    rcases h with rfl | rfl | rfl | rfl | h
    · exact hlink
    · exact w1
    · exact w3
    · exact w4
    · exact h)
  have hFc := mw_freeA (hD σ) hS hA0
  refine va_callv (va_runS (As := As) (rest := st) ⟨hx, hb, hml, hown, hts⟩ (hM H.size) (va_cwS n hts hG rfl rfl rfl ⟨w5, w6, w7⟩ ⟨Nat.le_trans hf1 hfr, Nat.le_trans hl1 hlo⟩) ⟨KPreS.blind, fun U hU hW => ⟨rfl, ⟨by rw [hU], by rw [hU]; exact hP, va_K.moved hW.alike hK, (hD σ).weaken (fun _ _ _ _ => trivial), hE.warm hW⟩, hSE.go hU hW hS hFc⟩⟩ rfl hn hl.1 rfl (lv_room hcat) hd ⟨hkc, hks⟩) hS (fun q _ h => hFc q h) hFc (fun u t H1 locs1 ht hvm hw hB hz1 hk1 hS1 => ?_)
  have hP1 := hB.1
  rw [ht] at hP1
  exact k u hw H1 locs1 ls hP1 hS1 hl
theorem a_cViS (C : CT ids ad ca Γ cc own l0 D0 fr lo nL0) (E : SG K Γ) {y : MethodName} {cc' : ByteArray} {nL' fr' lo' n ix : Nat} {ty : FieldType} {As st0 : List Value} {post : Int32 → HS → Prop} {i n0 : Nat} (hk : kd i = n0) (hi : i ∈ ids) (hq : ∃ (T : u_T) (N : Nat), vwCl[n0]? = some (y.cls, T, N)) (h12 : n0 < 12) (hM : KiS l0 D0 ids ad ca K y cc' nL' ty fr' lo' (.ref (ad i) :: As) σ post) (hw : MI y cc' nL' (some ty) n) (hlink : Cond.methodLink own ix y ∈ gw_tbl) (hst : st0 = As.reverse ++ .ref (ad i) :: st) (hn : As.length = n) (hf1 : fr' + 1 ≤ fr) (hl1 : 8 + (nL' + 11) + lo' ≤ lo) (hcat : (st.map fun v => v.category).sum ≤ 8) (hd : decode cc pc = .ok (.invokevirtual ix, 3)) (k : ∀ (r : Int32) (σ' : HS), post r σ' → AW ids ad ca Γ (pc + 3) vs (.int r :: st) σ') : AW ids ad ca Γ pc vs st0 σ := by
  obtain ⟨p, l, e, R, s, m, args, below, meth, c, kc, ks, Q, D, A, H0, nL⟩ := Γ
  obtain ⟨⟨hx, hb, hml, hown, hts⟩, hK, hE, hD, hA0, rfl, rfl, hfr, hlo, hkc, hks, rfl⟩ := C
  obtain ⟨hH0, hSE⟩ := E
  subst hH0
  intro H locs ls hP hS hl
  obtain ⟨w1, w2, w3, w4, w5, w6, w7⟩ := hw
  subst hst
  obtain ⟨T, N, hq⟩ := hq
  obtain ⟨ip, hip, hg⟩ := mw_get (ad := ad) (ca := ca) hi
  have hg := hg σ
  rw [hk, ceK_ob h12] at hg
  have hG : GoodIn gw_tbl (wsV own ix y.cls y (.code y cc' nL' (some ty) :: gw_tbl)) := lw_goodIn (fun w h => by
    simp only [wsV, List.cons_append, List.nil_append, List.mem_cons] at h
    rcases h with rfl | rfl | rfl | rfl | rfl | h
    · exact hlink
    · exact w1
    · exact w2
    · exact w3
    · exact w4
    · exact h)
  have hFc := mw_freeA (hD σ) hS hA0
  refine va_calli (va_runV (As := As) (rest := st) ⟨hx, hb, hml, hown, hts⟩ (hM H.size) (cwV n hts hG rfl rfl rfl ⟨rfl, w5, w6, w7⟩ ⟨Nat.le_trans hf1 hfr, Nat.le_trans hl1 hlo⟩) ⟨KPreS.blind, va_recv hK hP hq hg, fun U hU hW => ⟨rfl, ⟨by rw [hU], by rw [hU]; exact hP, va_K.moved hW.alike hK, (hD σ).weaken (fun _ _ _ _ => trivial), hE.warm hW⟩, hSE.go hU hW hS hFc⟩⟩ rfl hn hl.1 rfl (lv_room hcat) hd ⟨hkc, hks⟩) hS (fun q _ h => hFc q h) hFc (fun r u t H1 locs1 ht hvm hw hB hz1 hk1 hS1 => ?_)
  have hP1 := hB.1
  rw [ht] at hP1
  exact k r u hw H1 locs1 ls hP1 hS1 hl
theorem a_cVvS (C : CT ids ad ca Γ cc own l0 D0 fr lo nL0) (E : SG K Γ) {y : MethodName} {cc' : ByteArray} {nL' fr' lo' n ix : Nat} {As st0 : List Value} {post : HS → Prop} {i n0 : Nat} (hk : kd i = n0) (hi : i ∈ ids) (hq : ∃ (T : u_T) (N : Nat), vwCl[n0]? = some (y.cls, T, N)) (h12 : n0 < 12) (hM : KvS l0 D0 ids ad ca K y cc' nL' fr' lo' (.ref (ad i) :: As) σ post) (hw : MI y cc' nL' none n) (hlink : Cond.methodLink own ix y ∈ gw_tbl) (hst : st0 = As.reverse ++ .ref (ad i) :: st) (hn : As.length = n) (hf1 : fr' + 1 ≤ fr) (hl1 : 8 + (nL' + 11) + lo' ≤ lo) (hcat : (st.map fun v => v.category).sum ≤ 8) (hd : decode cc pc = .ok (.invokevirtual ix, 3)) (k : ∀ (σ' : HS), post σ' → AW ids ad ca Γ (pc + 3) vs st σ') : AW ids ad ca Γ pc vs st0 σ := by
  obtain ⟨p, l, e, R, s, m, args, below, meth, c, kc, ks, Q, D, A, H0, nL⟩ := Γ
  obtain ⟨⟨hx, hb, hml, hown, hts⟩, hK, hE, hD, hA0, rfl, rfl, hfr, hlo, hkc, hks, rfl⟩ := C
  obtain ⟨hH0, hSE⟩ := E
  subst hH0
  intro H locs ls hP hS hl
  obtain ⟨w1, w2, w3, w4, w5, w6, w7⟩ := hw
  subst hst
  obtain ⟨T, N, hq⟩ := hq
  obtain ⟨ip, hip, hg⟩ := mw_get (ad := ad) (ca := ca) hi
  have hg := hg σ
  rw [hk, ceK_ob h12] at hg
  have hG : GoodIn gw_tbl (wsV own ix y.cls y (.code y cc' nL' none :: gw_tbl)) := lw_goodIn (fun w h => by
    simp only [wsV, List.cons_append, List.nil_append, List.mem_cons] at h
    rcases h with rfl | rfl | rfl | rfl | rfl | h
    · exact hlink
    · exact w1
    · exact w2
    · exact w3
    · exact w4
    · exact h)
  have hFc := mw_freeA (hD σ) hS hA0
  refine va_callv (va_runV (As := As) (rest := st) ⟨hx, hb, hml, hown, hts⟩ (hM H.size) (cwV n hts hG rfl rfl rfl ⟨rfl, w5, w6, w7⟩ ⟨Nat.le_trans hf1 hfr, Nat.le_trans hl1 hlo⟩) ⟨KPreS.blind, va_recv hK hP hq hg, fun U hU hW => ⟨rfl, ⟨by rw [hU], by rw [hU]; exact hP, va_K.moved hW.alike hK, (hD σ).weaken (fun _ _ _ _ => trivial), hE.warm hW⟩, hSE.go hU hW hS hFc⟩⟩ rfl hn hl.1 rfl (lv_room hcat) hd ⟨hkc, hks⟩) hS (fun q _ h => hFc q h) hFc (fun u t H1 locs1 ht hvm hw hB hz1 hk1 hS1 => ?_)
  have hP1 := hB.1
  rw [ht] at hP1
  exact k u hw H1 locs1 ls hP1 hS1 hl
theorem a_cTiS (C : CT ids ad ca Γ cc own l0 D0 fr lo nL0) (E : SG K Γ) {y : MethodName} {cc' : ByteArray} {nL' fr' lo' n ix : Nat} {ty : FieldType} {As st0 : List Value} {post : Int32 → HS → Prop} {i : Nat} (hi : i < 2) (hyc : y.cls = RJ0) (hM : KiS l0 D0 ids ad ca K y cc' nL' ty fr' lo' (.ref (K.1 i) :: As) σ post) (hw : MI y cc' nL' (some ty) n) (hlink : Cond.methodLink own ix y ∈ gw_tbl) (hst : st0 = As.reverse ++ .ref (K.1 i) :: st) (hn : As.length = n) (hf1 : fr' + 1 ≤ fr) (hl1 : 8 + (nL' + 11) + lo' ≤ lo) (hcat : (st.map fun v => v.category).sum ≤ 8) (hd : decode cc pc = .ok (.invokevirtual ix, 3)) (k : ∀ (r : Int32) (σ' : HS), post r σ' → AW ids ad ca Γ (pc + 3) vs (.int r :: st) σ') : AW ids ad ca Γ pc vs st0 σ := by
  obtain ⟨p, l, e, R, s, m, args, below, meth, c, kc, ks, Q, D, A, H0, nL⟩ := Γ
  obtain ⟨⟨hx, hb, hml, hown, hts⟩, hK, hE, hD, hA0, rfl, rfl, hfr, hlo, hkc, hks, rfl⟩ := C
  obtain ⟨hH0, hSE⟩ := E
  subst hH0
  intro H locs ls hP hS hl
  obtain ⟨w1, w2, w3, w4, w5, w6, w7⟩ := hw
  subst hst
  have hG : GoodIn gw_tbl (wsV own ix y.cls y (.code y cc' nL' (some ty) :: gw_tbl)) := lw_goodIn (fun w h => by
    simp only [wsV, List.cons_append, List.nil_append, List.mem_cons] at h
    rcases h with rfl | rfl | rfl | rfl | rfl | h
    · exact hlink
    · exact w1
    · exact w2
    · exact w3
    · exact w4
    · exact h)
  have hFc := mw_freeA (hD σ) hS hA0
  refine va_calli (va_runV (As := As) (rest := st) ⟨hx, hb, hml, hown, hts⟩ (hM H.size) (cwV n hts hG rfl rfl rfl ⟨rfl, w5, w6, w7⟩ ⟨Nat.le_trans hf1 hfr, Nat.le_trans hl1 hlo⟩) ⟨KPreS.blind, (by rw [hyc]; exact vk_recv hSE.1 hi hS), fun U hU hW => ⟨rfl, ⟨by rw [hU], by rw [hU]; exact hP, va_K.moved hW.alike hK, (hD σ).weaken (fun _ _ _ _ => trivial), hE.warm hW⟩, hSE.go hU hW hS hFc⟩⟩ rfl hn hl.1 rfl (lv_room hcat) hd ⟨hkc, hks⟩) hS (fun q _ h => hFc q h) hFc (fun r u t H1 locs1 ht hvm hw hB hz1 hk1 hS1 => ?_)
  have hP1 := hB.1
  rw [ht] at hP1
  exact k r u hw H1 locs1 ls hP1 hS1 hl
end STRR
def kb_cJ0_coder_7d493_0 : List Nat := [178, 0, 38, 153, 0, 10, 42, 180, 0, 15, 167, 0, 4, 4, 172]
theorem ac_cJ0_coder_7d493_0 : AL cJ0_coder_7d493 0 kb_cJ0_coder_7d493_0 := AL.of (m := 15) (by decide +kernel)
theorem dJ0_coder_7d493_0 : decode cJ0_coder_7d493 0 = .ok (.getstatic 38, 3) := o178 ac_cJ0_coder_7d493_0 0 0 38 rfl
theorem dJ0_coder_7d493_3 : decode cJ0_coder_7d493 3 = .ok (.ifCond .eq 10, 3) := o153p ac_cJ0_coder_7d493_0 3 0 10 rfl rfl
theorem dJ0_coder_7d493_6 : decode cJ0_coder_7d493 6 = .ok (.aload_n 0, 1) := o42 ac_cJ0_coder_7d493_0 6 rfl
theorem dJ0_coder_7d493_7 : decode cJ0_coder_7d493 7 = .ok (.getfield 15, 3) := o180 ac_cJ0_coder_7d493_0 7 0 15 rfl
theorem dJ0_coder_7d493_10 : decode cJ0_coder_7d493 10 = .ok (.goto 4, 3) := o167p ac_cJ0_coder_7d493_0 10 0 4 rfl rfl
theorem dJ0_coder_7d493_14 : decode cJ0_coder_7d493 14 = .ok (.ireturn, 1) := o172 ac_cJ0_coder_7d493_0 14 rfl
def kb_cJ0_isLatin1_aae02_0 : List Nat := [178, 0, 38, 153, 0, 14, 42, 180, 0, 15, 154, 0, 7, 4, 167, 0, 4, 3, 172]
theorem ac_cJ0_isLatin1_aae02_0 : AL cJ0_isLatin1_aae02 0 kb_cJ0_isLatin1_aae02_0 := AL.of (m := 19) (by decide +kernel)
theorem dJ0_isLatin1_aae02_0 : decode cJ0_isLatin1_aae02 0 = .ok (.getstatic 38, 3) := o178 ac_cJ0_isLatin1_aae02_0 0 0 38 rfl
theorem dJ0_isLatin1_aae02_3 : decode cJ0_isLatin1_aae02 3 = .ok (.ifCond .eq 14, 3) := o153p ac_cJ0_isLatin1_aae02_0 3 0 14 rfl rfl
theorem dJ0_isLatin1_aae02_6 : decode cJ0_isLatin1_aae02 6 = .ok (.aload_n 0, 1) := o42 ac_cJ0_isLatin1_aae02_0 6 rfl
theorem dJ0_isLatin1_aae02_7 : decode cJ0_isLatin1_aae02 7 = .ok (.getfield 15, 3) := o180 ac_cJ0_isLatin1_aae02_0 7 0 15 rfl
theorem dJ0_isLatin1_aae02_10 : decode cJ0_isLatin1_aae02 10 = .ok (.ifCond .ne 7, 3) := o154p ac_cJ0_isLatin1_aae02_0 10 0 7 rfl rfl
theorem dJ0_isLatin1_aae02_13 : decode cJ0_isLatin1_aae02 13 = .ok (.iconst 1, 1) := o4 ac_cJ0_isLatin1_aae02_0 13 rfl
theorem dJ0_isLatin1_aae02_14 : decode cJ0_isLatin1_aae02 14 = .ok (.goto 4, 3) := o167p ac_cJ0_isLatin1_aae02_0 14 0 4 rfl rfl
def kb_cJ0_isLatin1_aae02_16 : List Nat := [4, 3, 172]
theorem ac_cJ0_isLatin1_aae02_16 : AL cJ0_isLatin1_aae02 16 kb_cJ0_isLatin1_aae02_16 := AL.of (m := 3) (by decide +kernel)
theorem dJ0_isLatin1_aae02_18 : decode cJ0_isLatin1_aae02 18 = .ok (.ireturn, 1) := o172 ac_cJ0_isLatin1_aae02_16 2 rfl
def kb_cJ0_length_8abf5_0 : List Nat := [42, 180, 0, 9, 190, 42, 182, 1, 79, 122, 172]
theorem ac_cJ0_length_8abf5_0 : AL cJ0_length_8abf5 0 kb_cJ0_length_8abf5_0 := AL.of (m := 11) (by decide +kernel)
theorem dJ0_length_8abf5_0 : decode cJ0_length_8abf5 0 = .ok (.aload_n 0, 1) := o42 ac_cJ0_length_8abf5_0 0 rfl
theorem dJ0_length_8abf5_1 : decode cJ0_length_8abf5 1 = .ok (.getfield 9, 3) := o180 ac_cJ0_length_8abf5_0 1 0 9 rfl
theorem dJ0_length_8abf5_4 : decode cJ0_length_8abf5 4 = .ok (.arraylength, 1) := o190 ac_cJ0_length_8abf5_0 4 rfl
theorem dJ0_length_8abf5_5 : decode cJ0_length_8abf5 5 = .ok (.aload_n 0, 1) := o42 ac_cJ0_length_8abf5_0 5 rfl
theorem dJ0_length_8abf5_6 : decode cJ0_length_8abf5 6 = .ok (.invokevirtual 335, 3) := o182 ac_cJ0_length_8abf5_0 6 1 79 rfl
theorem dJ0_length_8abf5_9 : decode cJ0_length_8abf5 9 = .ok (.ishr, 1) := o122 ac_cJ0_length_8abf5_0 9 rfl
theorem dJ0_length_8abf5_10 : decode cJ0_length_8abf5 10 = .ok (.ireturn, 1) := o172 ac_cJ0_length_8abf5_0 10 rfl
def kb_cJ3_checkIndex_8e157_0 : List Nat := [26, 155, 0, 8, 26, 27, 161, 0, 10, 44, 26, 27, 184, 0, 95, 191, 26, 172]
theorem ac_cJ3_checkIndex_8e157_0 : AL cJ3_checkIndex_8e157 0 kb_cJ3_checkIndex_8e157_0 := AL.of (m := 18) (by decide +kernel)
theorem dJ3_checkIndex_8e157_0 : decode cJ3_checkIndex_8e157 0 = .ok (.iload_n 0, 1) := o26 ac_cJ3_checkIndex_8e157_0 0 rfl
theorem dJ3_checkIndex_8e157_1 : decode cJ3_checkIndex_8e157 1 = .ok (.ifCond .lt 8, 3) := o155p ac_cJ3_checkIndex_8e157_0 1 0 8 rfl rfl
theorem dJ3_checkIndex_8e157_4 : decode cJ3_checkIndex_8e157 4 = .ok (.iload_n 0, 1) := o26 ac_cJ3_checkIndex_8e157_0 4 rfl
theorem dJ3_checkIndex_8e157_5 : decode cJ3_checkIndex_8e157 5 = .ok (.iload_n 1, 1) := o27 ac_cJ3_checkIndex_8e157_0 5 rfl
theorem dJ3_checkIndex_8e157_6 : decode cJ3_checkIndex_8e157 6 = .ok (.if_icmp .lt 10, 3) := o161p ac_cJ3_checkIndex_8e157_0 6 0 10 rfl rfl
def kb_cJ3_checkIndex_8e157_16 : List Nat := [26, 172]
theorem ac_cJ3_checkIndex_8e157_16 : AL cJ3_checkIndex_8e157 16 kb_cJ3_checkIndex_8e157_16 := AL.of (m := 2) (by decide +kernel)
theorem dJ3_checkIndex_8e157_16 : decode cJ3_checkIndex_8e157 16 = .ok (.iload_n 0, 1) := o26 ac_cJ3_checkIndex_8e157_16 0 rfl
theorem dJ3_checkIndex_8e157_17 : decode cJ3_checkIndex_8e157 17 = .ok (.ireturn, 1) := o172 ac_cJ3_checkIndex_8e157_16 1 rfl
def kb_cJ0_checkIndex_df160_0 : List Nat := [26, 27, 178, 4, 29, 184, 4, 35, 87, 177]
theorem ac_cJ0_checkIndex_df160_0 : AL cJ0_checkIndex_df160 0 kb_cJ0_checkIndex_df160_0 := AL.of (m := 10) (by decide +kernel)
theorem dJ0_checkIndex_df160_0 : decode cJ0_checkIndex_df160 0 = .ok (.iload_n 0, 1) := o26 ac_cJ0_checkIndex_df160_0 0 rfl
theorem dJ0_checkIndex_df160_1 : decode cJ0_checkIndex_df160 1 = .ok (.iload_n 1, 1) := o27 ac_cJ0_checkIndex_df160_0 1 rfl
theorem dJ0_checkIndex_df160_2 : decode cJ0_checkIndex_df160 2 = .ok (.getstatic 1053, 3) := o178 ac_cJ0_checkIndex_df160_0 2 4 29 rfl
theorem dJ0_checkIndex_df160_5 : decode cJ0_checkIndex_df160 5 = .ok (.invokestatic 1059, 3) := o184 ac_cJ0_checkIndex_df160_0 5 4 35 rfl
theorem dJ0_checkIndex_df160_8 : decode cJ0_checkIndex_df160 8 = .ok (.pop, 1) := o87 ac_cJ0_checkIndex_df160_0 8 rfl
theorem dJ0_checkIndex_df160_9 : decode cJ0_checkIndex_df160 9 = .ok (.return_, 1) := o177 ac_cJ0_checkIndex_df160_0 9 rfl
def kb_cJ1_charAt_3b067_0 : List Nat := [27, 42, 190, 184, 0, 9, 42, 27, 51, 17, 0, 255, 126, 146, 172]
theorem ac_cJ1_charAt_3b067_0 : AL cJ1_charAt_3b067 0 kb_cJ1_charAt_3b067_0 := AL.of (m := 15) (by decide +kernel)
theorem dJ1_charAt_3b067_0 : decode cJ1_charAt_3b067 0 = .ok (.iload_n 1, 1) := o27 ac_cJ1_charAt_3b067_0 0 rfl
theorem dJ1_charAt_3b067_1 : decode cJ1_charAt_3b067 1 = .ok (.aload_n 0, 1) := o42 ac_cJ1_charAt_3b067_0 1 rfl
theorem dJ1_charAt_3b067_2 : decode cJ1_charAt_3b067 2 = .ok (.arraylength, 1) := o190 ac_cJ1_charAt_3b067_0 2 rfl
theorem dJ1_charAt_3b067_3 : decode cJ1_charAt_3b067 3 = .ok (.invokestatic 9, 3) := o184 ac_cJ1_charAt_3b067_0 3 0 9 rfl
theorem dJ1_charAt_3b067_6 : decode cJ1_charAt_3b067 6 = .ok (.aload_n 0, 1) := o42 ac_cJ1_charAt_3b067_0 6 rfl
theorem dJ1_charAt_3b067_7 : decode cJ1_charAt_3b067 7 = .ok (.iload_n 1, 1) := o27 ac_cJ1_charAt_3b067_0 7 rfl
theorem dJ1_charAt_3b067_8 : decode cJ1_charAt_3b067 8 = .ok (.baload, 1) := o51 ac_cJ1_charAt_3b067_0 8 rfl
theorem dJ1_charAt_3b067_9 : decode cJ1_charAt_3b067 9 = .ok (.sipush 255, 3) := o17p ac_cJ1_charAt_3b067_0 9 0 255 rfl rfl
theorem dJ1_charAt_3b067_12 : decode cJ1_charAt_3b067 12 = .ok (.iand, 1) := o126 ac_cJ1_charAt_3b067_0 12 rfl
theorem dJ1_charAt_3b067_13 : decode cJ1_charAt_3b067 13 = .ok (.i2c, 1) := o146 ac_cJ1_charAt_3b067_0 13 rfl
theorem dJ1_charAt_3b067_14 : decode cJ1_charAt_3b067 14 = .ok (.ireturn, 1) := o172 ac_cJ1_charAt_3b067_0 14 rfl
def kb_cJ0_charAt_5068e_0 : List Nat := [42, 182, 1, 236, 153, 0, 12, 42, 180, 0, 9, 27, 184, 1, 239, 172, 42, 180, 0, 9]
theorem ac_cJ0_charAt_5068e_0 : AL cJ0_charAt_5068e 0 kb_cJ0_charAt_5068e_0 := AL.of (m := 20) (by decide +kernel)
theorem dJ0_charAt_5068e_0 : decode cJ0_charAt_5068e 0 = .ok (.aload_n 0, 1) := o42 ac_cJ0_charAt_5068e_0 0 rfl
theorem dJ0_charAt_5068e_1 : decode cJ0_charAt_5068e 1 = .ok (.invokevirtual 492, 3) := o182 ac_cJ0_charAt_5068e_0 1 1 236 rfl
theorem dJ0_charAt_5068e_4 : decode cJ0_charAt_5068e 4 = .ok (.ifCond .eq 12, 3) := o153p ac_cJ0_charAt_5068e_0 4 0 12 rfl rfl
theorem dJ0_charAt_5068e_7 : decode cJ0_charAt_5068e 7 = .ok (.aload_n 0, 1) := o42 ac_cJ0_charAt_5068e_0 7 rfl
theorem dJ0_charAt_5068e_8 : decode cJ0_charAt_5068e 8 = .ok (.getfield 9, 3) := o180 ac_cJ0_charAt_5068e_0 8 0 9 rfl
theorem dJ0_charAt_5068e_11 : decode cJ0_charAt_5068e 11 = .ok (.iload_n 1, 1) := o27 ac_cJ0_charAt_5068e_0 11 rfl
theorem dJ0_charAt_5068e_12 : decode cJ0_charAt_5068e 12 = .ok (.invokestatic 495, 3) := o184 ac_cJ0_charAt_5068e_0 12 1 239 rfl
theorem dJ0_charAt_5068e_15 : decode cJ0_charAt_5068e 15 = .ok (.ireturn, 1) := o172 ac_cJ0_charAt_5068e_0 15 rfl
def kb_cJ1_canEncode_9a6ad_0 : List Nat := [26, 155, 0, 14, 26, 17, 0, 255, 163, 0, 7, 4, 167, 0, 4, 3, 172]
theorem ac_cJ1_canEncode_9a6ad_0 : AL cJ1_canEncode_9a6ad 0 kb_cJ1_canEncode_9a6ad_0 := AL.of (m := 17) (by decide +kernel)
theorem dJ1_canEncode_9a6ad_0 : decode cJ1_canEncode_9a6ad 0 = .ok (.iload_n 0, 1) := o26 ac_cJ1_canEncode_9a6ad_0 0 rfl
theorem dJ1_canEncode_9a6ad_1 : decode cJ1_canEncode_9a6ad 1 = .ok (.ifCond .lt 14, 3) := o155p ac_cJ1_canEncode_9a6ad_0 1 0 14 rfl rfl
theorem dJ1_canEncode_9a6ad_4 : decode cJ1_canEncode_9a6ad 4 = .ok (.iload_n 0, 1) := o26 ac_cJ1_canEncode_9a6ad_0 4 rfl
theorem dJ1_canEncode_9a6ad_5 : decode cJ1_canEncode_9a6ad 5 = .ok (.sipush 255, 3) := o17p ac_cJ1_canEncode_9a6ad_0 5 0 255 rfl rfl
theorem dJ1_canEncode_9a6ad_8 : decode cJ1_canEncode_9a6ad 8 = .ok (.if_icmp .gt 7, 3) := o163p ac_cJ1_canEncode_9a6ad_0 8 0 7 rfl rfl
theorem dJ1_canEncode_9a6ad_11 : decode cJ1_canEncode_9a6ad 11 = .ok (.iconst 1, 1) := o4 ac_cJ1_canEncode_9a6ad_0 11 rfl
theorem dJ1_canEncode_9a6ad_12 : decode cJ1_canEncode_9a6ad 12 = .ok (.goto 4, 3) := o167p ac_cJ1_canEncode_9a6ad_0 12 0 4 rfl rfl
theorem dJ1_canEncode_9a6ad_15 : decode cJ1_canEncode_9a6ad 15 = .ok (.iconst 0, 1) := o3 ac_cJ1_canEncode_9a6ad_0 15 rfl
def kb_cJ1_canEncode_9a6ad_16 : List Nat := [172]
theorem ac_cJ1_canEncode_9a6ad_16 : AL cJ1_canEncode_9a6ad 16 kb_cJ1_canEncode_9a6ad_16 := AL.of (m := 1) (by decide +kernel)
theorem dJ1_canEncode_9a6ad_16 : decode cJ1_canEncode_9a6ad 16 = .ok (.ireturn, 1) := o172 ac_cJ1_canEncode_9a6ad_16 0 rfl
def kb_cJ1_indexOfChar_4cfef_0 : List Nat := [27, 145, 54, 4, 28, 54, 5, 21, 5, 29, 162, 0, 21, 42, 21, 5, 51, 21, 4, 160]
theorem ac_cJ1_indexOfChar_4cfef_0 : AL cJ1_indexOfChar_4cfef 0 kb_cJ1_indexOfChar_4cfef_0 := AL.of (m := 20) (by decide +kernel)
theorem dJ1_indexOfChar_4cfef_0 : decode cJ1_indexOfChar_4cfef 0 = .ok (.iload_n 1, 1) := o27 ac_cJ1_indexOfChar_4cfef_0 0 rfl
theorem dJ1_indexOfChar_4cfef_1 : decode cJ1_indexOfChar_4cfef 1 = .ok (.i2b, 1) := o145 ac_cJ1_indexOfChar_4cfef_0 1 rfl
theorem dJ1_indexOfChar_4cfef_2 : decode cJ1_indexOfChar_4cfef 2 = .ok (.istore 4, 2) := o54 ac_cJ1_indexOfChar_4cfef_0 2 4 rfl
theorem dJ1_indexOfChar_4cfef_4 : decode cJ1_indexOfChar_4cfef 4 = .ok (.iload_n 2, 1) := o28 ac_cJ1_indexOfChar_4cfef_0 4 rfl
theorem dJ1_indexOfChar_4cfef_5 : decode cJ1_indexOfChar_4cfef 5 = .ok (.istore 5, 2) := o54 ac_cJ1_indexOfChar_4cfef_0 5 5 rfl
theorem dJ1_indexOfChar_4cfef_7 : decode cJ1_indexOfChar_4cfef 7 = .ok (.iload 5, 2) := o21 ac_cJ1_indexOfChar_4cfef_0 7 5 rfl
theorem dJ1_indexOfChar_4cfef_9 : decode cJ1_indexOfChar_4cfef 9 = .ok (.iload_n 3, 1) := o29 ac_cJ1_indexOfChar_4cfef_0 9 rfl
theorem dJ1_indexOfChar_4cfef_10 : decode cJ1_indexOfChar_4cfef 10 = .ok (.if_icmp .ge 21, 3) := o162p ac_cJ1_indexOfChar_4cfef_0 10 0 21 rfl rfl
theorem dJ1_indexOfChar_4cfef_13 : decode cJ1_indexOfChar_4cfef 13 = .ok (.aload_n 0, 1) := o42 ac_cJ1_indexOfChar_4cfef_0 13 rfl
theorem dJ1_indexOfChar_4cfef_14 : decode cJ1_indexOfChar_4cfef 14 = .ok (.iload 5, 2) := o21 ac_cJ1_indexOfChar_4cfef_0 14 5 rfl
def kb_cJ1_indexOfChar_4cfef_16 : List Nat := [51, 21, 4, 160, 0, 6, 21, 5, 172, 132, 5, 1, 167, 255, 235, 2, 172]
theorem ac_cJ1_indexOfChar_4cfef_16 : AL cJ1_indexOfChar_4cfef 16 kb_cJ1_indexOfChar_4cfef_16 := AL.of (m := 17) (by decide +kernel)
theorem dJ1_indexOfChar_4cfef_16 : decode cJ1_indexOfChar_4cfef 16 = .ok (.baload, 1) := o51 ac_cJ1_indexOfChar_4cfef_16 0 rfl
theorem dJ1_indexOfChar_4cfef_17 : decode cJ1_indexOfChar_4cfef 17 = .ok (.iload 4, 2) := o21 ac_cJ1_indexOfChar_4cfef_16 1 4 rfl
theorem dJ1_indexOfChar_4cfef_19 : decode cJ1_indexOfChar_4cfef 19 = .ok (.if_icmp .ne 6, 3) := o160p ac_cJ1_indexOfChar_4cfef_16 3 0 6 rfl rfl
theorem dJ1_indexOfChar_4cfef_22 : decode cJ1_indexOfChar_4cfef 22 = .ok (.iload 5, 2) := o21 ac_cJ1_indexOfChar_4cfef_16 6 5 rfl
theorem dJ1_indexOfChar_4cfef_24 : decode cJ1_indexOfChar_4cfef 24 = .ok (.ireturn, 1) := o172 ac_cJ1_indexOfChar_4cfef_16 8 rfl
theorem dJ1_indexOfChar_4cfef_25 : decode cJ1_indexOfChar_4cfef 25 = .ok (.iinc 5 1, 3) := o132p ac_cJ1_indexOfChar_4cfef_16 9 5 1 rfl rfl
theorem dJ1_indexOfChar_4cfef_28 : decode cJ1_indexOfChar_4cfef 28 = .ok (.goto (-21), 3) := o167n ac_cJ1_indexOfChar_4cfef_16 12 255 235 20 rfl rfl rfl
theorem dJ1_indexOfChar_4cfef_31 : decode cJ1_indexOfChar_4cfef 31 = .ok (.iconst (-1), 1) := o2 ac_cJ1_indexOfChar_4cfef_16 15 rfl
def kb_cJ1_indexOfChar_4cfef_32 : List Nat := [172]
theorem ac_cJ1_indexOfChar_4cfef_32 : AL cJ1_indexOfChar_4cfef 32 kb_cJ1_indexOfChar_4cfef_32 := AL.of (m := 1) (by decide +kernel)
theorem dJ1_indexOfChar_4cfef_32 : decode cJ1_indexOfChar_4cfef 32 = .ok (.ireturn, 1) := o172 ac_cJ1_indexOfChar_4cfef_32 0 rfl
def kb_cJ1_indexOf_4cfef_0 : List Nat := [27, 184, 0, 88, 154, 0, 5, 2, 172, 28, 3, 184, 0, 92, 61, 29, 42, 190, 184, 0]
theorem ac_cJ1_indexOf_4cfef_0 : AL cJ1_indexOf_4cfef 0 kb_cJ1_indexOf_4cfef_0 := AL.of (m := 20) (by decide +kernel)
theorem dJ1_indexOf_4cfef_0 : decode cJ1_indexOf_4cfef 0 = .ok (.iload_n 1, 1) := o27 ac_cJ1_indexOf_4cfef_0 0 rfl
theorem dJ1_indexOf_4cfef_1 : decode cJ1_indexOf_4cfef 1 = .ok (.invokestatic 88, 3) := o184 ac_cJ1_indexOf_4cfef_0 1 0 88 rfl
theorem dJ1_indexOf_4cfef_4 : decode cJ1_indexOf_4cfef 4 = .ok (.ifCond .ne 5, 3) := o154p ac_cJ1_indexOf_4cfef_0 4 0 5 rfl rfl
theorem dJ1_indexOf_4cfef_7 : decode cJ1_indexOf_4cfef 7 = .ok (.iconst (-1), 1) := o2 ac_cJ1_indexOf_4cfef_0 7 rfl
theorem dJ1_indexOf_4cfef_8 : decode cJ1_indexOf_4cfef 8 = .ok (.ireturn, 1) := o172 ac_cJ1_indexOf_4cfef_0 8 rfl
theorem dJ1_indexOf_4cfef_9 : decode cJ1_indexOf_4cfef 9 = .ok (.iload_n 2, 1) := o28 ac_cJ1_indexOf_4cfef_0 9 rfl
theorem dJ1_indexOf_4cfef_10 : decode cJ1_indexOf_4cfef 10 = .ok (.iconst 0, 1) := o3 ac_cJ1_indexOf_4cfef_0 10 rfl
theorem dJ1_indexOf_4cfef_11 : decode cJ1_indexOf_4cfef 11 = .ok (.invokestatic 92, 3) := o184 ac_cJ1_indexOf_4cfef_0 11 0 92 rfl
theorem dJ1_indexOf_4cfef_14 : decode cJ1_indexOf_4cfef 14 = .ok (.istore_n 2, 1) := o61 ac_cJ1_indexOf_4cfef_0 14 rfl
theorem dJ1_indexOf_4cfef_15 : decode cJ1_indexOf_4cfef 15 = .ok (.iload_n 3, 1) := o29 ac_cJ1_indexOf_4cfef_0 15 rfl
def kb_cJ1_indexOf_4cfef_16 : List Nat := [42, 190, 184, 0, 38, 62, 28, 29, 161, 0, 5, 2, 172, 42, 27, 28, 29, 184, 0, 95]
theorem ac_cJ1_indexOf_4cfef_16 : AL cJ1_indexOf_4cfef 16 kb_cJ1_indexOf_4cfef_16 := AL.of (m := 20) (by decide +kernel)
theorem dJ1_indexOf_4cfef_16 : decode cJ1_indexOf_4cfef 16 = .ok (.aload_n 0, 1) := o42 ac_cJ1_indexOf_4cfef_16 0 rfl
theorem dJ1_indexOf_4cfef_17 : decode cJ1_indexOf_4cfef 17 = .ok (.arraylength, 1) := o190 ac_cJ1_indexOf_4cfef_16 1 rfl
theorem dJ1_indexOf_4cfef_18 : decode cJ1_indexOf_4cfef 18 = .ok (.invokestatic 38, 3) := o184 ac_cJ1_indexOf_4cfef_16 2 0 38 rfl
theorem dJ1_indexOf_4cfef_21 : decode cJ1_indexOf_4cfef 21 = .ok (.istore_n 3, 1) := o62 ac_cJ1_indexOf_4cfef_16 5 rfl
theorem dJ1_indexOf_4cfef_22 : decode cJ1_indexOf_4cfef 22 = .ok (.iload_n 2, 1) := o28 ac_cJ1_indexOf_4cfef_16 6 rfl
theorem dJ1_indexOf_4cfef_23 : decode cJ1_indexOf_4cfef 23 = .ok (.iload_n 3, 1) := o29 ac_cJ1_indexOf_4cfef_16 7 rfl
theorem dJ1_indexOf_4cfef_24 : decode cJ1_indexOf_4cfef 24 = .ok (.if_icmp .lt 5, 3) := o161p ac_cJ1_indexOf_4cfef_16 8 0 5 rfl rfl
theorem dJ1_indexOf_4cfef_27 : decode cJ1_indexOf_4cfef 27 = .ok (.iconst (-1), 1) := o2 ac_cJ1_indexOf_4cfef_16 11 rfl
theorem dJ1_indexOf_4cfef_28 : decode cJ1_indexOf_4cfef 28 = .ok (.ireturn, 1) := o172 ac_cJ1_indexOf_4cfef_16 12 rfl
theorem dJ1_indexOf_4cfef_29 : decode cJ1_indexOf_4cfef 29 = .ok (.aload_n 0, 1) := o42 ac_cJ1_indexOf_4cfef_16 13 rfl
theorem dJ1_indexOf_4cfef_30 : decode cJ1_indexOf_4cfef 30 = .ok (.iload_n 1, 1) := o27 ac_cJ1_indexOf_4cfef_16 14 rfl
theorem dJ1_indexOf_4cfef_31 : decode cJ1_indexOf_4cfef 31 = .ok (.iload_n 2, 1) := o28 ac_cJ1_indexOf_4cfef_16 15 rfl
def kb_cJ1_indexOf_4cfef_32 : List Nat := [29, 184, 0, 95, 172]
theorem ac_cJ1_indexOf_4cfef_32 : AL cJ1_indexOf_4cfef 32 kb_cJ1_indexOf_4cfef_32 := AL.of (m := 5) (by decide +kernel)
theorem dJ1_indexOf_4cfef_32 : decode cJ1_indexOf_4cfef 32 = .ok (.iload_n 3, 1) := o29 ac_cJ1_indexOf_4cfef_32 0 rfl
theorem dJ1_indexOf_4cfef_33 : decode cJ1_indexOf_4cfef 33 = .ok (.invokestatic 95, 3) := o184 ac_cJ1_indexOf_4cfef_32 1 0 95 rfl
theorem dJ1_indexOf_4cfef_36 : decode cJ1_indexOf_4cfef 36 = .ok (.ireturn, 1) := o172 ac_cJ1_indexOf_4cfef_32 4 rfl
def kb_cJ0_indexOf_7cf53_0 : List Nat := [42, 182, 1, 236, 153, 0, 19, 42, 180, 0, 9, 27, 28, 42, 182, 1, 249, 184, 2, 125]
theorem ac_cJ0_indexOf_7cf53_0 : AL cJ0_indexOf_7cf53 0 kb_cJ0_indexOf_7cf53_0 := AL.of (m := 20) (by decide +kernel)
theorem dJ0_indexOf_7cf53_0 : decode cJ0_indexOf_7cf53 0 = .ok (.aload_n 0, 1) := o42 ac_cJ0_indexOf_7cf53_0 0 rfl
theorem dJ0_indexOf_7cf53_1 : decode cJ0_indexOf_7cf53 1 = .ok (.invokevirtual 492, 3) := o182 ac_cJ0_indexOf_7cf53_0 1 1 236 rfl
theorem dJ0_indexOf_7cf53_4 : decode cJ0_indexOf_7cf53 4 = .ok (.ifCond .eq 19, 3) := o153p ac_cJ0_indexOf_7cf53_0 4 0 19 rfl rfl
theorem dJ0_indexOf_7cf53_7 : decode cJ0_indexOf_7cf53 7 = .ok (.aload_n 0, 1) := o42 ac_cJ0_indexOf_7cf53_0 7 rfl
theorem dJ0_indexOf_7cf53_8 : decode cJ0_indexOf_7cf53 8 = .ok (.getfield 9, 3) := o180 ac_cJ0_indexOf_7cf53_0 8 0 9 rfl
theorem dJ0_indexOf_7cf53_11 : decode cJ0_indexOf_7cf53 11 = .ok (.iload_n 1, 1) := o27 ac_cJ0_indexOf_7cf53_0 11 rfl
theorem dJ0_indexOf_7cf53_12 : decode cJ0_indexOf_7cf53 12 = .ok (.iload_n 2, 1) := o28 ac_cJ0_indexOf_7cf53_0 12 rfl
theorem dJ0_indexOf_7cf53_13 : decode cJ0_indexOf_7cf53 13 = .ok (.aload_n 0, 1) := o42 ac_cJ0_indexOf_7cf53_0 13 rfl
theorem dJ0_indexOf_7cf53_14 : decode cJ0_indexOf_7cf53 14 = .ok (.invokevirtual 505, 3) := o182 ac_cJ0_indexOf_7cf53_0 14 1 249 rfl
def kb_cJ0_indexOf_7cf53_16 : List Nat := [249, 184, 2, 125, 167, 0, 16, 42, 180, 0, 9, 27, 28, 42, 182, 1, 249, 184, 2, 128]
theorem ac_cJ0_indexOf_7cf53_16 : AL cJ0_indexOf_7cf53 16 kb_cJ0_indexOf_7cf53_16 := AL.of (m := 20) (by decide +kernel)
theorem dJ0_indexOf_7cf53_17 : decode cJ0_indexOf_7cf53 17 = .ok (.invokestatic 637, 3) := o184 ac_cJ0_indexOf_7cf53_16 1 2 125 rfl
theorem dJ0_indexOf_7cf53_20 : decode cJ0_indexOf_7cf53 20 = .ok (.goto 16, 3) := o167p ac_cJ0_indexOf_7cf53_16 4 0 16 rfl rfl
theorem dJ0_indexOf_7cf53_23 : decode cJ0_indexOf_7cf53 23 = .ok (.aload_n 0, 1) := o42 ac_cJ0_indexOf_7cf53_16 7 rfl
theorem dJ0_indexOf_7cf53_24 : decode cJ0_indexOf_7cf53 24 = .ok (.getfield 9, 3) := o180 ac_cJ0_indexOf_7cf53_16 8 0 9 rfl
theorem dJ0_indexOf_7cf53_27 : decode cJ0_indexOf_7cf53 27 = .ok (.iload_n 1, 1) := o27 ac_cJ0_indexOf_7cf53_16 11 rfl
theorem dJ0_indexOf_7cf53_28 : decode cJ0_indexOf_7cf53 28 = .ok (.iload_n 2, 1) := o28 ac_cJ0_indexOf_7cf53_16 12 rfl
theorem dJ0_indexOf_7cf53_29 : decode cJ0_indexOf_7cf53 29 = .ok (.aload_n 0, 1) := o42 ac_cJ0_indexOf_7cf53_16 13 rfl
theorem dJ0_indexOf_7cf53_30 : decode cJ0_indexOf_7cf53 30 = .ok (.invokevirtual 505, 3) := o182 ac_cJ0_indexOf_7cf53_16 14 1 249 rfl
def kb_cJ0_indexOf_7cf53_32 : List Nat := [249, 184, 2, 128, 172]
theorem ac_cJ0_indexOf_7cf53_32 : AL cJ0_indexOf_7cf53 32 kb_cJ0_indexOf_7cf53_32 := AL.of (m := 5) (by decide +kernel)
theorem dJ0_indexOf_7cf53_36 : decode cJ0_indexOf_7cf53 36 = .ok (.ireturn, 1) := o172 ac_cJ0_indexOf_7cf53_32 4 rfl
def kb_cJ0_indexOf_0f7a4_0 : List Nat := [42, 27, 3, 182, 2, 121, 172]
theorem ac_cJ0_indexOf_0f7a4_0 : AL cJ0_indexOf_0f7a4 0 kb_cJ0_indexOf_0f7a4_0 := AL.of (m := 7) (by decide +kernel)
theorem dJ0_indexOf_0f7a4_0 : decode cJ0_indexOf_0f7a4 0 = .ok (.aload_n 0, 1) := o42 ac_cJ0_indexOf_0f7a4_0 0 rfl
theorem dJ0_indexOf_0f7a4_1 : decode cJ0_indexOf_0f7a4 1 = .ok (.iload_n 1, 1) := o27 ac_cJ0_indexOf_0f7a4_0 1 rfl
theorem dJ0_indexOf_0f7a4_2 : decode cJ0_indexOf_0f7a4 2 = .ok (.iconst 0, 1) := o3 ac_cJ0_indexOf_0f7a4_0 2 rfl
theorem dJ0_indexOf_0f7a4_3 : decode cJ0_indexOf_0f7a4 3 = .ok (.invokevirtual 633, 3) := o182 ac_cJ0_indexOf_0f7a4_0 3 2 121 rfl
theorem dJ0_indexOf_0f7a4_6 : decode cJ0_indexOf_0f7a4 6 = .ok (.ireturn, 1) := o172 ac_cJ0_indexOf_0f7a4_0 6 rfl
theorem fw_val : Cond.fieldLink RJ0 9 RJ0 "value" "[B" ∈ gw_tbl := gw8 23 (by decide +kernel) rfl
theorem fw_cod : Cond.fieldLink RJ0 15 RJ0 "coder" "B" ∈ gw_tbl := gw8 24 (by decide +kernel) rfl
theorem fw_cmp : Cond.fieldLink RJ0 38 RJ0 "COMPACT_STRINGS" "Z" ∈ gw_tbl := gw2 224 (by decide +kernel) rfl
theorem fw_fmt : Cond.fieldLink RJ0 1053 RJ3 "SIOOBE_FORMATTER" "Ljava/util/function/BiFunction;" ∈ gw_tbl := gw3 0 (by decide +kernel) rfl
theorem ls_shr : ∀ i, i < 2 → Int32.ofNat (lenS.getD i 0) >>> ((0 : Int32) &&& 31) = Int32.ofNat (lenS.getD i 0) := by decide +kernel
theorem ls_int : ∀ i, i < 2 → (Int32.ofNat (lenS.getD i 0)).toInt = (lenS.getD i 0 : Nat) := by decide +kernel
theorem ls_nar : ∀ i, i < 2 → ∀ j, j < lenS.getD i 0 → (chS i j).toUInt32.toUInt16.toUInt32.toInt32 = chS i j := by decide +kernel
set_option maxRecDepth 10000 in
theorem J_coder {l : Launch} {D : va_G} {ids : List Nat} {ad : Nat → Nat} {ca : Nat → ClassId} {K : (Nat → Nat) × (Nat → Nat)} {σ : HS} {i : Nat} (hi : i < 2) : KiS l D ids ad ca K yJ0_coder_7d493 cJ0_coder_7d493 1 .byte 0 0 [.ref (K.1 i)] σ (fun r σ' => r = 0 ∧ σ' = σ) := by
  refine KiS.ofF (by decide +kernel) (Nat.le_of_ble_eq_true rfl) 0 (fun Γ C E Rt => ?_)
  show AW ids ad ca Γ 0 [some (.ref (K.1 i))] [] σ
  refine a_scmp C E fw_cmp dJ0_coder_7d493_0 ?_
  refine a_if_eq C dJ0_coder_7d493_3 rfl (fun h => absurd h (by decide)) (fun _ => ?_)
  refine a_aload_n C dJ0_coder_7d493_6 rfl rfl ?_
  refine a_scod C E hi fw_cod dJ0_coder_7d493_7 ?_
  refine a_goto C dJ0_coder_7d493_10 rfl ?_
  exact a_iret Rt dJ0_coder_7d493_14 rfl ⟨rfl, rfl⟩
set_option maxRecDepth 10000 in
theorem J_isLatin1 {l : Launch} {D : va_G} {ids : List Nat} {ad : Nat → Nat} {ca : Nat → ClassId} {K : (Nat → Nat) × (Nat → Nat)} {σ : HS} {i : Nat} (hi : i < 2) : KiS l D ids ad ca K yJ0_isLatin1_aae02 cJ0_isLatin1_aae02 1 .boolean 0 0 [.ref (K.1 i)] σ (fun r σ' => r = 1 ∧ σ' = σ) := by
  refine KiS.ofF (by decide +kernel) (Nat.le_of_ble_eq_true rfl) 0 (fun Γ C E Rt => ?_)
  show AW ids ad ca Γ 0 [some (.ref (K.1 i))] [] σ
  refine a_scmp C E fw_cmp dJ0_isLatin1_aae02_0 ?_
  refine a_if_eq C dJ0_isLatin1_aae02_3 rfl (fun h => absurd h (by decide)) (fun _ => ?_)
  refine a_aload_n C dJ0_isLatin1_aae02_6 rfl rfl ?_
  refine a_scod C E hi fw_cod dJ0_isLatin1_aae02_7 ?_
  refine a_if_ne C dJ0_isLatin1_aae02_10 rfl (fun h => absurd rfl h) (fun _ => ?_)
  refine a_iconst C dJ0_isLatin1_aae02_13 rfl ?_
  refine a_goto C dJ0_isLatin1_aae02_14 rfl ?_
  exact a_iret Rt dJ0_isLatin1_aae02_18 rfl ⟨rfl, rfl⟩
set_option maxRecDepth 10000 in
theorem J_length {l : Launch} {D : va_G} {ids : List Nat} {ad : Nat → Nat} {ca : Nat → ClassId} {K : (Nat → Nat) × (Nat → Nat)} {σ : HS} {i : Nat} (hi : i < 2) : KiS l D ids ad ca K yJ0_length_8abf5 cJ0_length_8abf5 1 .int 1 20 [.ref (K.1 i)] σ (fun r σ' => r.toInt = (lenS.getD i 0 : Nat) ∧ σ' = σ) := by
  refine KiS.ofF (by decide +kernel) (Nat.le_of_ble_eq_true rfl) 0 (fun Γ C E Rt => ?_)
  show AW ids ad ca Γ 0 [some (.ref (K.1 i))] [] σ
  refine a_aload_n C dJ0_length_8abf5_0 rfl rfl ?_
  refine a_sval C E hi fw_val dJ0_length_8abf5_1 ?_
  refine a_slen C E hi dJ0_length_8abf5_4 ?_
  refine a_aload_n C dJ0_length_8abf5_5 rfl rfl ?_
  refine a_cTiS C E (As := []) hi rfl (J_coder hi) mi_J0_coder_7d493 ml_RJ0_335 rfl rfl (Nat.le_of_ble_eq_true rfl) (Nat.le_of_ble_eq_true rfl) (Nat.le_of_ble_eq_true rfl) dJ0_length_8abf5_6 (fun r σ1 q => ?_)
  obtain ⟨rfl, rfl⟩ := q
  refine a_ishr C dJ0_length_8abf5_9 ?_
  rw [ls_shr i hi]
  exact a_iret Rt dJ0_length_8abf5_10 rfl ⟨ls_int i hi, rfl⟩
set_option maxRecDepth 10000 in
theorem J_pciN {l : Launch} {D : va_G} {ids : List Nat} {ad : Nat → Nat} {ca : Nat → ClassId} {K : (Nat → Nat) × (Nat → Nat)} {σ : HS} {x n : Int32} (h0 : 0 ≤ x.toInt) (h1 : x.toInt < n.toInt) : KiS l D ids ad ca K yJ3_checkIndex_8e157 cJ3_checkIndex_8e157 3 .int 0 0 [.int x, .int n, .null] σ (fun r σ' => σ' = σ) := by
  refine KiS.ofF (by decide +kernel) (Nat.le_of_ble_eq_true rfl) 0 (fun Γ C E Rt => ?_)
  show AW ids ad ca Γ 0 [some (.int x), some (.int n), some (.null)] [] σ
  refine a_iload_n C dJ3_checkIndex_8e157_0 rfl rfl ?_
  refine s_if_lt C dJ3_checkIndex_8e157_1 rfl (fun h => absurd h (by omega)) (fun _ => ?_)
  refine a_iload_n C dJ3_checkIndex_8e157_4 rfl rfl ?_
  refine a_iload_n C dJ3_checkIndex_8e157_5 rfl rfl ?_
  refine s_ic_lt C dJ3_checkIndex_8e157_6 rfl (fun _ => ?_) (fun h => absurd h (by omega))
  refine a_iload_n C dJ3_checkIndex_8e157_16 rfl rfl ?_
  exact a_iret Rt dJ3_checkIndex_8e157_17 rfl rfl
set_option maxRecDepth 10000 in
theorem J_pciR {l : Launch} {D : va_G} {ids : List Nat} {ad : Nat → Nat} {ca : Nat → ClassId} {K : (Nat → Nat) × (Nat → Nat)} {σ : HS} {x n : Int32} {t : Nat} (h0 : 0 ≤ x.toInt) (h1 : x.toInt < n.toInt) : KiS l D ids ad ca K yJ3_checkIndex_8e157 cJ3_checkIndex_8e157 3 .int 0 0 [.int x, .int n, .ref t] σ (fun r σ' => σ' = σ) := by
  refine KiS.ofF (by decide +kernel) (Nat.le_of_ble_eq_true rfl) 0 (fun Γ C E Rt => ?_)
  show AW ids ad ca Γ 0 [some (.int x), some (.int n), some (.ref t)] [] σ
  refine a_iload_n C dJ3_checkIndex_8e157_0 rfl rfl ?_
  refine s_if_lt C dJ3_checkIndex_8e157_1 rfl (fun h => absurd h (by omega)) (fun _ => ?_)
  refine a_iload_n C dJ3_checkIndex_8e157_4 rfl rfl ?_
  refine a_iload_n C dJ3_checkIndex_8e157_5 rfl rfl ?_
  refine s_ic_lt C dJ3_checkIndex_8e157_6 rfl (fun _ => ?_) (fun h => absurd h (by omega))
  refine a_iload_n C dJ3_checkIndex_8e157_16 rfl rfl ?_
  exact a_iret Rt dJ3_checkIndex_8e157_17 rfl rfl
set_option maxRecDepth 10000 in
theorem J_sci {l : Launch} {D : va_G} {ids : List Nat} {ad : Nat → Nat} {ca : Nat → ClassId} {K : (Nat → Nat) × (Nat → Nat)} {σ : HS} {x n : Int32} (h0 : 0 ≤ x.toInt) (h1 : x.toInt < n.toInt) : KvS l D ids ad ca K yJ0_checkIndex_df160 cJ0_checkIndex_df160 2 1 22 [.int x, .int n] σ (fun σ' => σ' = σ) := by
  refine KvS.ofF (by decide +kernel) (Nat.le_of_ble_eq_true rfl) 0 (fun Γ C E Rt => ?_)
  show AW ids ad ca Γ 0 [some (.int x), some (.int n)] [] σ
  refine a_iload_n C dJ0_checkIndex_df160_0 rfl rfl ?_
  refine a_iload_n C dJ0_checkIndex_df160_1 rfl rfl ?_
  refine a_sfmt C E fw_fmt dJ0_checkIndex_df160_2 ?_ (fun t => ?_)
  · refine a_cSiS C E (As := [.int x, .int n, .null]) (J_pciN h0 h1) ms_J3_checkIndex_8e157 ml_RJ0_1059 rfl rfl (Nat.le_of_ble_eq_true rfl) (Nat.le_of_ble_eq_true rfl) (Nat.le_of_ble_eq_true rfl) dJ0_checkIndex_df160_5 (fun r σ1 q => ?_)
    subst q
    refine a_pop C dJ0_checkIndex_df160_8 rfl ?_
    exact a_vret Rt dJ0_checkIndex_df160_9 rfl
  · refine a_cSiS C E (As := [.int x, .int n, .ref t]) (J_pciR h0 h1) ms_J3_checkIndex_8e157 ml_RJ0_1059 rfl rfl (Nat.le_of_ble_eq_true rfl) (Nat.le_of_ble_eq_true rfl) (Nat.le_of_ble_eq_true rfl) dJ0_checkIndex_df160_5 (fun r σ1 q => ?_)
    subst q
    refine a_pop C dJ0_checkIndex_df160_8 rfl ?_
    exact a_vret Rt dJ0_checkIndex_df160_9 rfl
set_option maxRecDepth 10000 in
theorem J_lca {l : Launch} {D : va_G} {ids : List Nat} {ad : Nat → Nat} {ca : Nat → ClassId} {K : (Nat → Nat) × (Nat → Nat)} {σ : HS} {i : Nat} (hi : i < 2) {x : Int32} (h0 : 0 ≤ x.toInt) (h1 : x.toInt < (lenS.getD i 0 : Nat)) : KiS l D ids ad ca K yJ1_charAt_3b067 cJ1_charAt_3b067 2 .char 2 43 [.ref (K.2 i), .int x] σ (fun r σ' => (∃ j : Nat, (j : Int) = x.toInt ∧ r = chS i j) ∧ σ' = σ) := by
  refine KiS.ofF (by decide +kernel) (Nat.le_of_ble_eq_true rfl) 0 (fun Γ C E Rt => ?_)
  show AW ids ad ca Γ 0 [some (.ref (K.2 i)), some (.int x)] [] σ
  refine a_iload_n C dJ1_charAt_3b067_0 rfl rfl ?_
  refine a_aload_n C dJ1_charAt_3b067_1 rfl rfl ?_
  refine a_slen C E hi dJ1_charAt_3b067_2 ?_
  refine a_cSvS C E (As := [.int x, .int (Int32.ofNat (lenS.getD i 0))]) (J_sci h0 (by rw [ls_int i hi]; exact h1)) ms_J0_checkIndex_df160 ml_RJ1_9 rfl rfl (Nat.le_of_ble_eq_true rfl) (Nat.le_of_ble_eq_true rfl) (Nat.le_of_ble_eq_true rfl) dJ1_charAt_3b067_3 (fun σ1 q => ?_)
  subst q
  refine a_aload_n C dJ1_charAt_3b067_6 rfl rfl ?_
  refine a_iload_n C dJ1_charAt_3b067_7 rfl rfl ?_
  refine a_sbald C E hi h0 h1 dJ1_charAt_3b067_8 (fun jn hj => ?_)
  refine a_sipush C dJ1_charAt_3b067_9 (v := 255) rfl ?_
  refine a_iand C dJ1_charAt_3b067_12 ?_
  refine a_i2c C dJ1_charAt_3b067_13 ?_
  exact a_iret Rt dJ1_charAt_3b067_14 (congrArg Value.int (ls_nar i hi jn (by omega))) ⟨⟨jn, hj, rfl⟩, rfl⟩
set_option maxRecDepth 10000 in
theorem J_charAt {l : Launch} {D : va_G} {ids : List Nat} {ad : Nat → Nat} {ca : Nat → ClassId} {K : (Nat → Nat) × (Nat → Nat)} {σ : HS} {i : Nat} (hi : i < 2) {x : Int32} (h0 : 0 ≤ x.toInt) (h1 : x.toInt < (lenS.getD i 0 : Nat)) : KiS l D ids ad ca K yJ0_charAt_5068e cJ0_charAt_5068e 2 .char 3 70 [.ref (K.1 i), .int x] σ (fun r σ' => (∃ j : Nat, (j : Int) = x.toInt ∧ r = chS i j) ∧ σ' = σ) := by
  refine KiS.ofF (by decide +kernel) (Nat.le_of_ble_eq_true rfl) 0 (fun Γ C E Rt => ?_)
  show AW ids ad ca Γ 0 [some (.ref (K.1 i)), some (.int x)] [] σ
  refine a_aload_n C dJ0_charAt_5068e_0 rfl rfl ?_
  refine a_cTiS C E (As := []) hi rfl (J_isLatin1 hi) mi_J0_isLatin1_aae02 ml_RJ0_492 rfl rfl (Nat.le_of_ble_eq_true rfl) (Nat.le_of_ble_eq_true rfl) (Nat.le_of_ble_eq_true rfl) dJ0_charAt_5068e_1 (fun r σ1 q => ?_)
  obtain ⟨rfl, rfl⟩ := q
  refine a_if_eq C dJ0_charAt_5068e_4 rfl (fun h => absurd h (by decide)) (fun _ => ?_)
  refine a_aload_n C dJ0_charAt_5068e_7 rfl rfl ?_
  refine a_sval C E hi fw_val dJ0_charAt_5068e_8 ?_
  refine a_iload_n C dJ0_charAt_5068e_11 rfl rfl ?_
  refine a_cSiS C E (As := [.ref (K.2 i), .int x]) (J_lca hi h0 h1) ms_J1_charAt_3b067 ml_RJ0_495 rfl rfl (Nat.le_of_ble_eq_true rfl) (Nat.le_of_ble_eq_true rfl) (Nat.le_of_ble_eq_true rfl) dJ0_charAt_5068e_12 (fun r σ1 q => ?_)
  obtain ⟨⟨j, hj, rfl⟩, rfl⟩ := q
  exact a_iret Rt dJ0_charAt_5068e_15 (congrArg Value.int (ls_nar i hi j (by omega))) ⟨⟨j, hj, rfl⟩, rfl⟩
/-! the tape cut into tokens -/
def kb_cX9_isBlank_0 : List Nat := [26, 16, 9, 159, 0, 21, 26, 16, 10, 159, 0, 15, 26, 16, 13, 159, 0, 9, 26, 16]
theorem ac_cX9_isBlank_0 : AL cX9_isBlank 0 kb_cX9_isBlank_0 := AL.of (m := 20) (by decide +kernel)
theorem dX9_isBlank_0 : decode cX9_isBlank 0 = .ok (.iload_n 0, 1) := o26 ac_cX9_isBlank_0 0 rfl
theorem dX9_isBlank_1 : decode cX9_isBlank 1 = .ok (.bipush 9, 2) := o16p ac_cX9_isBlank_0 1 9 rfl rfl
theorem dX9_isBlank_3 : decode cX9_isBlank 3 = .ok (.if_icmp .eq 21, 3) := o159p ac_cX9_isBlank_0 3 0 21 rfl rfl
theorem dX9_isBlank_6 : decode cX9_isBlank 6 = .ok (.iload_n 0, 1) := o26 ac_cX9_isBlank_0 6 rfl
theorem dX9_isBlank_7 : decode cX9_isBlank 7 = .ok (.bipush 10, 2) := o16p ac_cX9_isBlank_0 7 10 rfl rfl
theorem dX9_isBlank_9 : decode cX9_isBlank 9 = .ok (.if_icmp .eq 15, 3) := o159p ac_cX9_isBlank_0 9 0 15 rfl rfl
theorem dX9_isBlank_12 : decode cX9_isBlank 12 = .ok (.iload_n 0, 1) := o26 ac_cX9_isBlank_0 12 rfl
theorem dX9_isBlank_13 : decode cX9_isBlank 13 = .ok (.bipush 13, 2) := o16p ac_cX9_isBlank_0 13 13 rfl rfl
theorem dX9_isBlank_15 : decode cX9_isBlank 15 = .ok (.if_icmp .eq 9, 3) := o159p ac_cX9_isBlank_0 15 0 9 rfl rfl
def kb_cX9_isBlank_16 : List Nat := [0, 9, 26, 16, 32, 160, 0, 7, 4, 167, 0, 4, 3, 172]
theorem ac_cX9_isBlank_16 : AL cX9_isBlank 16 kb_cX9_isBlank_16 := AL.of (m := 14) (by decide +kernel)
theorem dX9_isBlank_18 : decode cX9_isBlank 18 = .ok (.iload_n 0, 1) := o26 ac_cX9_isBlank_16 2 rfl
theorem dX9_isBlank_19 : decode cX9_isBlank 19 = .ok (.bipush 32, 2) := o16p ac_cX9_isBlank_16 3 32 rfl rfl
theorem dX9_isBlank_21 : decode cX9_isBlank 21 = .ok (.if_icmp .ne 7, 3) := o160p ac_cX9_isBlank_16 5 0 7 rfl rfl
theorem dX9_isBlank_24 : decode cX9_isBlank 24 = .ok (.iconst 1, 1) := o4 ac_cX9_isBlank_16 8 rfl
theorem dX9_isBlank_25 : decode cX9_isBlank 25 = .ok (.goto 4, 3) := o167p ac_cX9_isBlank_16 9 0 4 rfl rfl
theorem dX9_isBlank_28 : decode cX9_isBlank 28 = .ok (.iconst 0, 1) := o3 ac_cX9_isBlank_16 12 rfl
theorem dX9_isBlank_29 : decode cX9_isBlank 29 = .ok (.ireturn, 1) := o172 ac_cX9_isBlank_16 13 rfl
def kb_cX9_isLetter_0 : List Nat := [26, 16, 97, 161, 0, 13, 26, 16, 122, 163, 0, 7, 4, 167, 0, 4, 3, 172]
theorem ac_cX9_isLetter_0 : AL cX9_isLetter 0 kb_cX9_isLetter_0 := AL.of (m := 18) (by decide +kernel)
theorem dX9_isLetter_0 : decode cX9_isLetter 0 = .ok (.iload_n 0, 1) := o26 ac_cX9_isLetter_0 0 rfl
theorem dX9_isLetter_1 : decode cX9_isLetter 1 = .ok (.bipush 97, 2) := o16p ac_cX9_isLetter_0 1 97 rfl rfl
theorem dX9_isLetter_3 : decode cX9_isLetter 3 = .ok (.if_icmp .lt 13, 3) := o161p ac_cX9_isLetter_0 3 0 13 rfl rfl
theorem dX9_isLetter_6 : decode cX9_isLetter 6 = .ok (.iload_n 0, 1) := o26 ac_cX9_isLetter_0 6 rfl
theorem dX9_isLetter_7 : decode cX9_isLetter 7 = .ok (.bipush 122, 2) := o16p ac_cX9_isLetter_0 7 122 rfl rfl
theorem dX9_isLetter_9 : decode cX9_isLetter 9 = .ok (.if_icmp .gt 7, 3) := o163p ac_cX9_isLetter_0 9 0 7 rfl rfl
theorem dX9_isLetter_12 : decode cX9_isLetter 12 = .ok (.iconst 1, 1) := o4 ac_cX9_isLetter_0 12 rfl
theorem dX9_isLetter_13 : decode cX9_isLetter 13 = .ok (.goto 4, 3) := o167p ac_cX9_isLetter_0 13 0 4 rfl rfl
def kb_cX9_isLetter_16 : List Nat := [3, 172]
theorem ac_cX9_isLetter_16 : AL cX9_isLetter 16 kb_cX9_isLetter_16 := AL.of (m := 2) (by decide +kernel)
theorem dX9_isLetter_16 : decode cX9_isLetter 16 = .ok (.iconst 0, 1) := o3 ac_cX9_isLetter_16 0 rfl
theorem dX9_isLetter_17 : decode cX9_isLetter 17 = .ok (.ireturn, 1) := o172 ac_cX9_isLetter_16 1 rfl
def kb_cX9_isDigit_0 : List Nat := [26, 16, 48, 161, 0, 13, 26, 16, 57, 163, 0, 7, 4, 167, 0, 4, 3, 172]
theorem ac_cX9_isDigit_0 : AL cX9_isDigit 0 kb_cX9_isDigit_0 := AL.of (m := 18) (by decide +kernel)
theorem dX9_isDigit_0 : decode cX9_isDigit 0 = .ok (.iload_n 0, 1) := o26 ac_cX9_isDigit_0 0 rfl
theorem dX9_isDigit_1 : decode cX9_isDigit 1 = .ok (.bipush 48, 2) := o16p ac_cX9_isDigit_0 1 48 rfl rfl
theorem dX9_isDigit_3 : decode cX9_isDigit 3 = .ok (.if_icmp .lt 13, 3) := o161p ac_cX9_isDigit_0 3 0 13 rfl rfl
theorem dX9_isDigit_6 : decode cX9_isDigit 6 = .ok (.iload_n 0, 1) := o26 ac_cX9_isDigit_0 6 rfl
theorem dX9_isDigit_7 : decode cX9_isDigit 7 = .ok (.bipush 57, 2) := o16p ac_cX9_isDigit_0 7 57 rfl rfl
theorem dX9_isDigit_9 : decode cX9_isDigit 9 = .ok (.if_icmp .gt 7, 3) := o163p ac_cX9_isDigit_0 9 0 7 rfl rfl
theorem dX9_isDigit_12 : decode cX9_isDigit 12 = .ok (.iconst 1, 1) := o4 ac_cX9_isDigit_0 12 rfl
theorem dX9_isDigit_13 : decode cX9_isDigit 13 = .ok (.goto 4, 3) := o167p ac_cX9_isDigit_0 13 0 4 rfl rfl
def kb_cX9_isDigit_16 : List Nat := [3, 172]
theorem ac_cX9_isDigit_16 : AL cX9_isDigit 16 kb_cX9_isDigit_16 := AL.of (m := 2) (by decide +kernel)
theorem dX9_isDigit_16 : decode cX9_isDigit 16 = .ok (.iconst 0, 1) := o3 ac_cX9_isDigit_16 0 rfl
theorem dX9_isDigit_17 : decode cX9_isDigit 17 = .ok (.ireturn, 1) := o172 ac_cX9_isDigit_16 1 rfl
def kb_cX9_wordAt_0 : List Nat := [3, 62, 3, 54, 4, 3, 54, 5, 21, 5, 18, 67, 182, 0, 69, 162, 0, 76, 18, 67]
theorem ac_cX9_wordAt_0 : AL cX9_wordAt 0 kb_cX9_wordAt_0 := AL.of (m := 20) (by decide +kernel)
theorem dX9_wordAt_0 : decode cX9_wordAt 0 = .ok (.iconst 0, 1) := o3 ac_cX9_wordAt_0 0 rfl
theorem dX9_wordAt_1 : decode cX9_wordAt 1 = .ok (.istore_n 3, 1) := o62 ac_cX9_wordAt_0 1 rfl
theorem dX9_wordAt_2 : decode cX9_wordAt 2 = .ok (.iconst 0, 1) := o3 ac_cX9_wordAt_0 2 rfl
theorem dX9_wordAt_3 : decode cX9_wordAt 3 = .ok (.istore 4, 2) := o54 ac_cX9_wordAt_0 3 4 rfl
theorem dX9_wordAt_5 : decode cX9_wordAt 5 = .ok (.iconst 0, 1) := o3 ac_cX9_wordAt_0 5 rfl
theorem dX9_wordAt_6 : decode cX9_wordAt 6 = .ok (.istore 5, 2) := o54 ac_cX9_wordAt_0 6 5 rfl
theorem dX9_wordAt_8 : decode cX9_wordAt 8 = .ok (.iload 5, 2) := o21 ac_cX9_wordAt_0 8 5 rfl
theorem dX9_wordAt_10 : decode cX9_wordAt 10 = .ok (.ldc 67, 2) := o18 ac_cX9_wordAt_0 10 67 rfl
theorem dX9_wordAt_12 : decode cX9_wordAt 12 = .ok (.invokevirtual 69, 3) := o182 ac_cX9_wordAt_0 12 0 69 rfl
theorem dX9_wordAt_15 : decode cX9_wordAt 15 = .ok (.if_icmp .ge 76, 3) := o162p ac_cX9_wordAt_0 15 0 76 rfl rfl
def kb_cX9_wordAt_16 : List Nat := [0, 76, 18, 67, 21, 5, 182, 0, 73, 54, 6, 21, 6, 16, 32, 160, 0, 20, 21, 4]
theorem ac_cX9_wordAt_16 : AL cX9_wordAt 16 kb_cX9_wordAt_16 := AL.of (m := 20) (by decide +kernel)
theorem dX9_wordAt_18 : decode cX9_wordAt 18 = .ok (.ldc 67, 2) := o18 ac_cX9_wordAt_16 2 67 rfl
theorem dX9_wordAt_20 : decode cX9_wordAt 20 = .ok (.iload 5, 2) := o21 ac_cX9_wordAt_16 4 5 rfl
theorem dX9_wordAt_22 : decode cX9_wordAt 22 = .ok (.invokevirtual 73, 3) := o182 ac_cX9_wordAt_16 6 0 73 rfl
theorem dX9_wordAt_25 : decode cX9_wordAt 25 = .ok (.istore 6, 2) := o54 ac_cX9_wordAt_16 9 6 rfl
theorem dX9_wordAt_27 : decode cX9_wordAt 27 = .ok (.iload 6, 2) := o21 ac_cX9_wordAt_16 11 6 rfl
theorem dX9_wordAt_29 : decode cX9_wordAt 29 = .ok (.bipush 32, 2) := o16p ac_cX9_wordAt_16 13 32 rfl rfl
theorem dX9_wordAt_31 : decode cX9_wordAt 31 = .ok (.if_icmp .ne 20, 3) := o160p ac_cX9_wordAt_16 15 0 20 rfl rfl
def kb_cX9_wordAt_32 : List Nat := [0, 20, 21, 4, 28, 160, 0, 5, 29, 172, 132, 3, 1, 3, 54, 4, 167, 0, 37, 21]
theorem ac_cX9_wordAt_32 : AL cX9_wordAt 32 kb_cX9_wordAt_32 := AL.of (m := 20) (by decide +kernel)
theorem dX9_wordAt_34 : decode cX9_wordAt 34 = .ok (.iload 4, 2) := o21 ac_cX9_wordAt_32 2 4 rfl
theorem dX9_wordAt_36 : decode cX9_wordAt 36 = .ok (.iload_n 2, 1) := o28 ac_cX9_wordAt_32 4 rfl
theorem dX9_wordAt_37 : decode cX9_wordAt 37 = .ok (.if_icmp .ne 5, 3) := o160p ac_cX9_wordAt_32 5 0 5 rfl rfl
theorem dX9_wordAt_40 : decode cX9_wordAt 40 = .ok (.iload_n 3, 1) := o29 ac_cX9_wordAt_32 8 rfl
theorem dX9_wordAt_41 : decode cX9_wordAt 41 = .ok (.ireturn, 1) := o172 ac_cX9_wordAt_32 9 rfl
theorem dX9_wordAt_42 : decode cX9_wordAt 42 = .ok (.iinc 3 1, 3) := o132p ac_cX9_wordAt_32 10 3 1 rfl rfl
theorem dX9_wordAt_45 : decode cX9_wordAt 45 = .ok (.iconst 0, 1) := o3 ac_cX9_wordAt_32 13 rfl
theorem dX9_wordAt_46 : decode cX9_wordAt 46 = .ok (.istore 4, 2) := o54 ac_cX9_wordAt_32 14 4 rfl
def kb_cX9_wordAt_48 : List Nat := [167, 0, 37, 21, 4, 155, 0, 29, 21, 4, 28, 162, 0, 23, 42, 180, 0, 9, 27, 21]
theorem ac_cX9_wordAt_48 : AL cX9_wordAt 48 kb_cX9_wordAt_48 := AL.of (m := 20) (by decide +kernel)
theorem dX9_wordAt_48 : decode cX9_wordAt 48 = .ok (.goto 37, 3) := o167p ac_cX9_wordAt_48 0 0 37 rfl rfl
theorem dX9_wordAt_51 : decode cX9_wordAt 51 = .ok (.iload 4, 2) := o21 ac_cX9_wordAt_48 3 4 rfl
theorem dX9_wordAt_53 : decode cX9_wordAt 53 = .ok (.ifCond .lt 29, 3) := o155p ac_cX9_wordAt_48 5 0 29 rfl rfl
theorem dX9_wordAt_56 : decode cX9_wordAt 56 = .ok (.iload 4, 2) := o21 ac_cX9_wordAt_48 8 4 rfl
theorem dX9_wordAt_58 : decode cX9_wordAt 58 = .ok (.iload_n 2, 1) := o28 ac_cX9_wordAt_48 10 rfl
theorem dX9_wordAt_59 : decode cX9_wordAt 59 = .ok (.if_icmp .ge 23, 3) := o162p ac_cX9_wordAt_48 11 0 23 rfl rfl
theorem dX9_wordAt_62 : decode cX9_wordAt 62 = .ok (.aload_n 0, 1) := o42 ac_cX9_wordAt_48 14 rfl
theorem dX9_wordAt_63 : decode cX9_wordAt 63 = .ok (.getfield 9, 3) := o180 ac_cX9_wordAt_48 15 0 9 rfl
def kb_cX9_wordAt_64 : List Nat := [0, 9, 27, 21, 4, 96, 46, 21, 6, 160, 0, 9, 132, 4, 1, 167, 0, 6, 2, 54]
theorem ac_cX9_wordAt_64 : AL cX9_wordAt 64 kb_cX9_wordAt_64 := AL.of (m := 20) (by decide +kernel)
theorem dX9_wordAt_66 : decode cX9_wordAt 66 = .ok (.iload_n 1, 1) := o27 ac_cX9_wordAt_64 2 rfl
theorem dX9_wordAt_67 : decode cX9_wordAt 67 = .ok (.iload 4, 2) := o21 ac_cX9_wordAt_64 3 4 rfl
theorem dX9_wordAt_69 : decode cX9_wordAt 69 = .ok (.iadd, 1) := o96 ac_cX9_wordAt_64 5 rfl
theorem dX9_wordAt_70 : decode cX9_wordAt 70 = .ok (.iaload, 1) := o46 ac_cX9_wordAt_64 6 rfl
theorem dX9_wordAt_71 : decode cX9_wordAt 71 = .ok (.iload 6, 2) := o21 ac_cX9_wordAt_64 7 6 rfl
theorem dX9_wordAt_73 : decode cX9_wordAt 73 = .ok (.if_icmp .ne 9, 3) := o160p ac_cX9_wordAt_64 9 0 9 rfl rfl
theorem dX9_wordAt_76 : decode cX9_wordAt 76 = .ok (.iinc 4 1, 3) := o132p ac_cX9_wordAt_64 12 4 1 rfl rfl
theorem dX9_wordAt_79 : decode cX9_wordAt 79 = .ok (.goto 6, 3) := o167p ac_cX9_wordAt_64 15 0 6 rfl rfl
def kb_cX9_wordAt_80 : List Nat := [0, 6, 2, 54, 4, 132, 5, 1, 167, 255, 176, 2, 172]
theorem ac_cX9_wordAt_80 : AL cX9_wordAt 80 kb_cX9_wordAt_80 := AL.of (m := 13) (by decide +kernel)
theorem dX9_wordAt_82 : decode cX9_wordAt 82 = .ok (.iconst (-1), 1) := o2 ac_cX9_wordAt_80 2 rfl
theorem dX9_wordAt_83 : decode cX9_wordAt 83 = .ok (.istore 4, 2) := o54 ac_cX9_wordAt_80 3 4 rfl
theorem dX9_wordAt_85 : decode cX9_wordAt 85 = .ok (.iinc 5 1, 3) := o132p ac_cX9_wordAt_80 5 5 1 rfl rfl
theorem dX9_wordAt_88 : decode cX9_wordAt 88 = .ok (.goto (-80), 3) := o167n ac_cX9_wordAt_80 8 255 176 79 rfl rfl rfl
theorem dX9_wordAt_91 : decode cX9_wordAt 91 = .ok (.iconst (-1), 1) := o2 ac_cX9_wordAt_80 11 rfl
theorem dX9_wordAt_92 : decode cX9_wordAt 92 = .ok (.ireturn, 1) := o172 ac_cX9_wordAt_80 12 rfl
def kb_cX9_cutInt_0 : List Nat := [42, 180, 0, 29, 61, 9, 66, 42, 180, 0, 29, 42, 180, 0, 25, 162, 0, 51, 42, 180]
theorem ac_cX9_cutInt_0 : AL cX9_cutInt 0 kb_cX9_cutInt_0 := AL.of (m := 20) (by decide +kernel)
theorem dX9_cutInt_0 : decode cX9_cutInt 0 = .ok (.aload_n 0, 1) := o42 ac_cX9_cutInt_0 0 rfl
theorem dX9_cutInt_1 : decode cX9_cutInt 1 = .ok (.getfield 29, 3) := o180 ac_cX9_cutInt_0 1 0 29 rfl
theorem dX9_cutInt_4 : decode cX9_cutInt 4 = .ok (.istore_n 2, 1) := o61 ac_cX9_cutInt_0 4 rfl
theorem dX9_cutInt_5 : decode cX9_cutInt 5 = .ok (.lconst 0, 1) := o9 ac_cX9_cutInt_0 5 rfl
theorem dX9_cutInt_6 : decode cX9_cutInt 6 = .ok (.lstore_n 3, 1) := o66 ac_cX9_cutInt_0 6 rfl
theorem dX9_cutInt_7 : decode cX9_cutInt 7 = .ok (.aload_n 0, 1) := o42 ac_cX9_cutInt_0 7 rfl
theorem dX9_cutInt_8 : decode cX9_cutInt 8 = .ok (.getfield 29, 3) := o180 ac_cX9_cutInt_0 8 0 29 rfl
theorem dX9_cutInt_11 : decode cX9_cutInt 11 = .ok (.aload_n 0, 1) := o42 ac_cX9_cutInt_0 11 rfl
theorem dX9_cutInt_12 : decode cX9_cutInt 12 = .ok (.getfield 25, 3) := o180 ac_cX9_cutInt_0 12 0 25 rfl
theorem dX9_cutInt_15 : decode cX9_cutInt 15 = .ok (.if_icmp .ge 51, 3) := o162p ac_cX9_cutInt_0 15 0 51 rfl rfl
def kb_cX9_cutInt_16 : List Nat := [0, 51, 42, 180, 0, 9, 42, 180, 0, 29, 46, 184, 0, 46, 153, 0, 36, 33, 20, 0]
theorem ac_cX9_cutInt_16 : AL cX9_cutInt 16 kb_cX9_cutInt_16 := AL.of (m := 20) (by decide +kernel)
theorem dX9_cutInt_18 : decode cX9_cutInt 18 = .ok (.aload_n 0, 1) := o42 ac_cX9_cutInt_16 2 rfl
theorem dX9_cutInt_19 : decode cX9_cutInt 19 = .ok (.getfield 9, 3) := o180 ac_cX9_cutInt_16 3 0 9 rfl
theorem dX9_cutInt_22 : decode cX9_cutInt 22 = .ok (.aload_n 0, 1) := o42 ac_cX9_cutInt_16 6 rfl
theorem dX9_cutInt_23 : decode cX9_cutInt 23 = .ok (.getfield 29, 3) := o180 ac_cX9_cutInt_16 7 0 29 rfl
theorem dX9_cutInt_26 : decode cX9_cutInt 26 = .ok (.iaload, 1) := o46 ac_cX9_cutInt_16 10 rfl
theorem dX9_cutInt_27 : decode cX9_cutInt 27 = .ok (.invokestatic 46, 3) := o184 ac_cX9_cutInt_16 11 0 46 rfl
theorem dX9_cutInt_30 : decode cX9_cutInt 30 = .ok (.ifCond .eq 36, 3) := o153p ac_cX9_cutInt_16 14 0 36 rfl rfl
def kb_cX9_cutInt_32 : List Nat := [36, 33, 20, 0, 65, 105, 42, 180, 0, 9, 42, 180, 0, 29, 46, 16, 48, 100, 133, 97]
theorem ac_cX9_cutInt_32 : AL cX9_cutInt 32 kb_cX9_cutInt_32 := AL.of (m := 20) (by decide +kernel)
theorem dX9_cutInt_33 : decode cX9_cutInt 33 = .ok (.lload_n 3, 1) := o33 ac_cX9_cutInt_32 1 rfl
theorem dX9_cutInt_34 : decode cX9_cutInt 34 = .ok (.ldc2_w 65, 3) := o20 ac_cX9_cutInt_32 2 0 65 rfl
theorem dX9_cutInt_37 : decode cX9_cutInt 37 = .ok (.lmul, 1) := o105 ac_cX9_cutInt_32 5 rfl
theorem dX9_cutInt_38 : decode cX9_cutInt 38 = .ok (.aload_n 0, 1) := o42 ac_cX9_cutInt_32 6 rfl
theorem dX9_cutInt_39 : decode cX9_cutInt 39 = .ok (.getfield 9, 3) := o180 ac_cX9_cutInt_32 7 0 9 rfl
theorem dX9_cutInt_42 : decode cX9_cutInt 42 = .ok (.aload_n 0, 1) := o42 ac_cX9_cutInt_32 10 rfl
theorem dX9_cutInt_43 : decode cX9_cutInt 43 = .ok (.getfield 29, 3) := o180 ac_cX9_cutInt_32 11 0 29 rfl
theorem dX9_cutInt_46 : decode cX9_cutInt 46 = .ok (.iaload, 1) := o46 ac_cX9_cutInt_32 14 rfl
theorem dX9_cutInt_47 : decode cX9_cutInt 47 = .ok (.bipush 48, 2) := o16p ac_cX9_cutInt_32 15 48 rfl rfl
def kb_cX9_cutInt_48 : List Nat := [48, 100, 133, 97, 66, 42, 89, 180, 0, 29, 4, 96, 181, 0, 29, 167, 255, 200, 42, 180]
theorem ac_cX9_cutInt_48 : AL cX9_cutInt 48 kb_cX9_cutInt_48 := AL.of (m := 20) (by decide +kernel)
theorem dX9_cutInt_49 : decode cX9_cutInt 49 = .ok (.isub, 1) := o100 ac_cX9_cutInt_48 1 rfl
theorem dX9_cutInt_50 : decode cX9_cutInt 50 = .ok (.i2l, 1) := o133 ac_cX9_cutInt_48 2 rfl
theorem dX9_cutInt_51 : decode cX9_cutInt 51 = .ok (.ladd, 1) := o97 ac_cX9_cutInt_48 3 rfl
theorem dX9_cutInt_52 : decode cX9_cutInt 52 = .ok (.lstore_n 3, 1) := o66 ac_cX9_cutInt_48 4 rfl
theorem dX9_cutInt_53 : decode cX9_cutInt 53 = .ok (.aload_n 0, 1) := o42 ac_cX9_cutInt_48 5 rfl
theorem dX9_cutInt_54 : decode cX9_cutInt 54 = .ok (.dup, 1) := o89 ac_cX9_cutInt_48 6 rfl
theorem dX9_cutInt_55 : decode cX9_cutInt 55 = .ok (.getfield 29, 3) := o180 ac_cX9_cutInt_48 7 0 29 rfl
theorem dX9_cutInt_58 : decode cX9_cutInt 58 = .ok (.iconst 1, 1) := o4 ac_cX9_cutInt_48 10 rfl
theorem dX9_cutInt_59 : decode cX9_cutInt 59 = .ok (.iadd, 1) := o96 ac_cX9_cutInt_48 11 rfl
theorem dX9_cutInt_60 : decode cX9_cutInt 60 = .ok (.putfield 29, 3) := o181 ac_cX9_cutInt_48 12 0 29 rfl
theorem dX9_cutInt_63 : decode cX9_cutInt 63 = .ok (.goto (-56), 3) := o167n ac_cX9_cutInt_48 15 255 200 55 rfl rfl rfl
def kb_cX9_cutInt_64 : List Nat := [255, 200, 42, 180, 0, 21, 27, 33, 80, 42, 180, 0, 29, 28, 100, 7, 163, 0, 8, 16]
theorem ac_cX9_cutInt_64 : AL cX9_cutInt 64 kb_cX9_cutInt_64 := AL.of (m := 20) (by decide +kernel)
theorem dX9_cutInt_66 : decode cX9_cutInt 66 = .ok (.aload_n 0, 1) := o42 ac_cX9_cutInt_64 2 rfl
theorem dX9_cutInt_67 : decode cX9_cutInt 67 = .ok (.getfield 21, 3) := o180 ac_cX9_cutInt_64 3 0 21 rfl
theorem dX9_cutInt_70 : decode cX9_cutInt 70 = .ok (.iload_n 1, 1) := o27 ac_cX9_cutInt_64 6 rfl
theorem dX9_cutInt_71 : decode cX9_cutInt 71 = .ok (.lload_n 3, 1) := o33 ac_cX9_cutInt_64 7 rfl
theorem dX9_cutInt_72 : decode cX9_cutInt 72 = .ok (.lastore, 1) := o80 ac_cX9_cutInt_64 8 rfl
theorem dX9_cutInt_73 : decode cX9_cutInt 73 = .ok (.aload_n 0, 1) := o42 ac_cX9_cutInt_64 9 rfl
theorem dX9_cutInt_74 : decode cX9_cutInt 74 = .ok (.getfield 29, 3) := o180 ac_cX9_cutInt_64 10 0 29 rfl
theorem dX9_cutInt_77 : decode cX9_cutInt 77 = .ok (.iload_n 2, 1) := o28 ac_cX9_cutInt_64 13 rfl
theorem dX9_cutInt_78 : decode cX9_cutInt 78 = .ok (.isub, 1) := o100 ac_cX9_cutInt_64 14 rfl
theorem dX9_cutInt_79 : decode cX9_cutInt 79 = .ok (.iconst 4, 1) := o7 ac_cX9_cutInt_64 15 rfl
def kb_cX9_cutInt_80 : List Nat := [163, 0, 8, 16, 21, 167, 0, 5, 16, 23, 172]
theorem ac_cX9_cutInt_80 : AL cX9_cutInt 80 kb_cX9_cutInt_80 := AL.of (m := 11) (by decide +kernel)
theorem dX9_cutInt_80 : decode cX9_cutInt 80 = .ok (.if_icmp .gt 8, 3) := o163p ac_cX9_cutInt_80 0 0 8 rfl rfl
theorem dX9_cutInt_83 : decode cX9_cutInt 83 = .ok (.bipush 21, 2) := o16p ac_cX9_cutInt_80 3 21 rfl rfl
theorem dX9_cutInt_85 : decode cX9_cutInt 85 = .ok (.goto 5, 3) := o167p ac_cX9_cutInt_80 5 0 5 rfl rfl
theorem dX9_cutInt_88 : decode cX9_cutInt 88 = .ok (.bipush 23, 2) := o16p ac_cX9_cutInt_80 8 23 rfl rfl
theorem dX9_cutInt_90 : decode cX9_cutInt 90 = .ok (.ireturn, 1) := o172 ac_cX9_cutInt_80 10 rfl
def kb_cX9_cutWord_0 : List Nat := [42, 180, 0, 29, 61, 9, 66, 42, 180, 0, 29, 42, 180, 0, 25, 162, 0, 53, 42, 180]
theorem ac_cX9_cutWord_0 : AL cX9_cutWord 0 kb_cX9_cutWord_0 := AL.of (m := 20) (by decide +kernel)
theorem dX9_cutWord_0 : decode cX9_cutWord 0 = .ok (.aload_n 0, 1) := o42 ac_cX9_cutWord_0 0 rfl
theorem dX9_cutWord_1 : decode cX9_cutWord 1 = .ok (.getfield 29, 3) := o180 ac_cX9_cutWord_0 1 0 29 rfl
theorem dX9_cutWord_4 : decode cX9_cutWord 4 = .ok (.istore_n 2, 1) := o61 ac_cX9_cutWord_0 4 rfl
theorem dX9_cutWord_5 : decode cX9_cutWord 5 = .ok (.lconst 0, 1) := o9 ac_cX9_cutWord_0 5 rfl
theorem dX9_cutWord_6 : decode cX9_cutWord 6 = .ok (.lstore_n 3, 1) := o66 ac_cX9_cutWord_0 6 rfl
theorem dX9_cutWord_7 : decode cX9_cutWord 7 = .ok (.aload_n 0, 1) := o42 ac_cX9_cutWord_0 7 rfl
theorem dX9_cutWord_8 : decode cX9_cutWord 8 = .ok (.getfield 29, 3) := o180 ac_cX9_cutWord_0 8 0 29 rfl
theorem dX9_cutWord_11 : decode cX9_cutWord 11 = .ok (.aload_n 0, 1) := o42 ac_cX9_cutWord_0 11 rfl
theorem dX9_cutWord_12 : decode cX9_cutWord 12 = .ok (.getfield 25, 3) := o180 ac_cX9_cutWord_0 12 0 25 rfl
theorem dX9_cutWord_15 : decode cX9_cutWord 15 = .ok (.if_icmp .ge 53, 3) := o162p ac_cX9_cutWord_0 15 0 53 rfl rfl
def kb_cX9_cutWord_16 : List Nat := [0, 53, 42, 180, 0, 9, 42, 180, 0, 29, 46, 184, 0, 40, 153, 0, 38, 33, 20, 0]
theorem ac_cX9_cutWord_16 : AL cX9_cutWord 16 kb_cX9_cutWord_16 := AL.of (m := 20) (by decide +kernel)
theorem dX9_cutWord_18 : decode cX9_cutWord 18 = .ok (.aload_n 0, 1) := o42 ac_cX9_cutWord_16 2 rfl
theorem dX9_cutWord_19 : decode cX9_cutWord 19 = .ok (.getfield 9, 3) := o180 ac_cX9_cutWord_16 3 0 9 rfl
theorem dX9_cutWord_22 : decode cX9_cutWord 22 = .ok (.aload_n 0, 1) := o42 ac_cX9_cutWord_16 6 rfl
theorem dX9_cutWord_23 : decode cX9_cutWord 23 = .ok (.getfield 29, 3) := o180 ac_cX9_cutWord_16 7 0 29 rfl
theorem dX9_cutWord_26 : decode cX9_cutWord 26 = .ok (.iaload, 1) := o46 ac_cX9_cutWord_16 10 rfl
theorem dX9_cutWord_27 : decode cX9_cutWord 27 = .ok (.invokestatic 40, 3) := o184 ac_cX9_cutWord_16 11 0 40 rfl
theorem dX9_cutWord_30 : decode cX9_cutWord 30 = .ok (.ifCond .eq 38, 3) := o153p ac_cX9_cutWord_16 14 0 38 rfl rfl
def kb_cX9_cutWord_32 : List Nat := [38, 33, 20, 0, 59, 105, 42, 180, 0, 9, 42, 180, 0, 29, 46, 16, 97, 100, 4, 96]
theorem ac_cX9_cutWord_32 : AL cX9_cutWord 32 kb_cX9_cutWord_32 := AL.of (m := 20) (by decide +kernel)
theorem dX9_cutWord_33 : decode cX9_cutWord 33 = .ok (.lload_n 3, 1) := o33 ac_cX9_cutWord_32 1 rfl
theorem dX9_cutWord_34 : decode cX9_cutWord 34 = .ok (.ldc2_w 59, 3) := o20 ac_cX9_cutWord_32 2 0 59 rfl
theorem dX9_cutWord_37 : decode cX9_cutWord 37 = .ok (.lmul, 1) := o105 ac_cX9_cutWord_32 5 rfl
theorem dX9_cutWord_38 : decode cX9_cutWord 38 = .ok (.aload_n 0, 1) := o42 ac_cX9_cutWord_32 6 rfl
theorem dX9_cutWord_39 : decode cX9_cutWord 39 = .ok (.getfield 9, 3) := o180 ac_cX9_cutWord_32 7 0 9 rfl
theorem dX9_cutWord_42 : decode cX9_cutWord 42 = .ok (.aload_n 0, 1) := o42 ac_cX9_cutWord_32 10 rfl
theorem dX9_cutWord_43 : decode cX9_cutWord 43 = .ok (.getfield 29, 3) := o180 ac_cX9_cutWord_32 11 0 29 rfl
theorem dX9_cutWord_46 : decode cX9_cutWord 46 = .ok (.iaload, 1) := o46 ac_cX9_cutWord_32 14 rfl
theorem dX9_cutWord_47 : decode cX9_cutWord 47 = .ok (.bipush 97, 2) := o16p ac_cX9_cutWord_32 15 97 rfl rfl
def kb_cX9_cutWord_48 : List Nat := [97, 100, 4, 96, 133, 97, 66, 42, 89, 180, 0, 29, 4, 96, 181, 0, 29, 167, 255, 198]
theorem ac_cX9_cutWord_48 : AL cX9_cutWord 48 kb_cX9_cutWord_48 := AL.of (m := 20) (by decide +kernel)
theorem dX9_cutWord_49 : decode cX9_cutWord 49 = .ok (.isub, 1) := o100 ac_cX9_cutWord_48 1 rfl
theorem dX9_cutWord_50 : decode cX9_cutWord 50 = .ok (.iconst 1, 1) := o4 ac_cX9_cutWord_48 2 rfl
theorem dX9_cutWord_51 : decode cX9_cutWord 51 = .ok (.iadd, 1) := o96 ac_cX9_cutWord_48 3 rfl
theorem dX9_cutWord_52 : decode cX9_cutWord 52 = .ok (.i2l, 1) := o133 ac_cX9_cutWord_48 4 rfl
theorem dX9_cutWord_53 : decode cX9_cutWord 53 = .ok (.ladd, 1) := o97 ac_cX9_cutWord_48 5 rfl
theorem dX9_cutWord_54 : decode cX9_cutWord 54 = .ok (.lstore_n 3, 1) := o66 ac_cX9_cutWord_48 6 rfl
theorem dX9_cutWord_55 : decode cX9_cutWord 55 = .ok (.aload_n 0, 1) := o42 ac_cX9_cutWord_48 7 rfl
theorem dX9_cutWord_56 : decode cX9_cutWord 56 = .ok (.dup, 1) := o89 ac_cX9_cutWord_48 8 rfl
theorem dX9_cutWord_57 : decode cX9_cutWord 57 = .ok (.getfield 29, 3) := o180 ac_cX9_cutWord_48 9 0 29 rfl
theorem dX9_cutWord_60 : decode cX9_cutWord 60 = .ok (.iconst 1, 1) := o4 ac_cX9_cutWord_48 12 rfl
theorem dX9_cutWord_61 : decode cX9_cutWord 61 = .ok (.iadd, 1) := o96 ac_cX9_cutWord_48 13 rfl
theorem dX9_cutWord_62 : decode cX9_cutWord 62 = .ok (.putfield 29, 3) := o181 ac_cX9_cutWord_48 14 0 29 rfl
def kb_cX9_cutWord_64 : List Nat := [29, 167, 255, 198, 42, 180, 0, 21, 27, 33, 80, 42, 28, 42, 180, 0, 29, 28, 100, 182]
theorem ac_cX9_cutWord_64 : AL cX9_cutWord 64 kb_cX9_cutWord_64 := AL.of (m := 20) (by decide +kernel)
theorem dX9_cutWord_65 : decode cX9_cutWord 65 = .ok (.goto (-58), 3) := o167n ac_cX9_cutWord_64 1 255 198 57 rfl rfl rfl
theorem dX9_cutWord_68 : decode cX9_cutWord 68 = .ok (.aload_n 0, 1) := o42 ac_cX9_cutWord_64 4 rfl
theorem dX9_cutWord_69 : decode cX9_cutWord 69 = .ok (.getfield 21, 3) := o180 ac_cX9_cutWord_64 5 0 21 rfl
theorem dX9_cutWord_72 : decode cX9_cutWord 72 = .ok (.iload_n 1, 1) := o27 ac_cX9_cutWord_64 8 rfl
theorem dX9_cutWord_73 : decode cX9_cutWord 73 = .ok (.lload_n 3, 1) := o33 ac_cX9_cutWord_64 9 rfl
theorem dX9_cutWord_74 : decode cX9_cutWord 74 = .ok (.lastore, 1) := o80 ac_cX9_cutWord_64 10 rfl
theorem dX9_cutWord_75 : decode cX9_cutWord 75 = .ok (.aload_n 0, 1) := o42 ac_cX9_cutWord_64 11 rfl
theorem dX9_cutWord_76 : decode cX9_cutWord 76 = .ok (.iload_n 2, 1) := o28 ac_cX9_cutWord_64 12 rfl
theorem dX9_cutWord_77 : decode cX9_cutWord 77 = .ok (.aload_n 0, 1) := o42 ac_cX9_cutWord_64 13 rfl
theorem dX9_cutWord_78 : decode cX9_cutWord 78 = .ok (.getfield 29, 3) := o180 ac_cX9_cutWord_64 14 0 29 rfl
def kb_cX9_cutWord_80 : List Nat := [29, 28, 100, 182, 0, 61, 54, 5, 21, 5, 2, 159, 0, 6, 21, 5, 172, 42, 180, 0]
theorem ac_cX9_cutWord_80 : AL cX9_cutWord 80 kb_cX9_cutWord_80 := AL.of (m := 20) (by decide +kernel)
theorem dX9_cutWord_81 : decode cX9_cutWord 81 = .ok (.iload_n 2, 1) := o28 ac_cX9_cutWord_80 1 rfl
theorem dX9_cutWord_82 : decode cX9_cutWord 82 = .ok (.isub, 1) := o100 ac_cX9_cutWord_80 2 rfl
theorem dX9_cutWord_83 : decode cX9_cutWord 83 = .ok (.invokevirtual 61, 3) := o182 ac_cX9_cutWord_80 3 0 61 rfl
theorem dX9_cutWord_86 : decode cX9_cutWord 86 = .ok (.istore 5, 2) := o54 ac_cX9_cutWord_80 6 5 rfl
theorem dX9_cutWord_88 : decode cX9_cutWord 88 = .ok (.iload 5, 2) := o21 ac_cX9_cutWord_80 8 5 rfl
theorem dX9_cutWord_90 : decode cX9_cutWord 90 = .ok (.iconst (-1), 1) := o2 ac_cX9_cutWord_80 10 rfl
theorem dX9_cutWord_91 : decode cX9_cutWord 91 = .ok (.if_icmp .eq 6, 3) := o159p ac_cX9_cutWord_80 11 0 6 rfl rfl
theorem dX9_cutWord_94 : decode cX9_cutWord 94 = .ok (.iload 5, 2) := o21 ac_cX9_cutWord_80 14 5 rfl
def kb_cX9_cutWord_96 : List Nat := [172, 42, 180, 0, 29, 28, 100, 16, 8, 163, 0, 8, 16, 20, 167, 0, 5, 16, 23, 172]
theorem ac_cX9_cutWord_96 : AL cX9_cutWord 96 kb_cX9_cutWord_96 := AL.of (m := 20) (by decide +kernel)
theorem dX9_cutWord_96 : decode cX9_cutWord 96 = .ok (.ireturn, 1) := o172 ac_cX9_cutWord_96 0 rfl
theorem dX9_cutWord_97 : decode cX9_cutWord 97 = .ok (.aload_n 0, 1) := o42 ac_cX9_cutWord_96 1 rfl
theorem dX9_cutWord_98 : decode cX9_cutWord 98 = .ok (.getfield 29, 3) := o180 ac_cX9_cutWord_96 2 0 29 rfl
theorem dX9_cutWord_101 : decode cX9_cutWord 101 = .ok (.iload_n 2, 1) := o28 ac_cX9_cutWord_96 5 rfl
theorem dX9_cutWord_102 : decode cX9_cutWord 102 = .ok (.isub, 1) := o100 ac_cX9_cutWord_96 6 rfl
theorem dX9_cutWord_103 : decode cX9_cutWord 103 = .ok (.bipush 8, 2) := o16p ac_cX9_cutWord_96 7 8 rfl rfl
theorem dX9_cutWord_105 : decode cX9_cutWord 105 = .ok (.if_icmp .gt 8, 3) := o163p ac_cX9_cutWord_96 9 0 8 rfl rfl
theorem dX9_cutWord_108 : decode cX9_cutWord 108 = .ok (.bipush 20, 2) := o16p ac_cX9_cutWord_96 12 20 rfl rfl
theorem dX9_cutWord_110 : decode cX9_cutWord 110 = .ok (.goto 5, 3) := o167p ac_cX9_cutWord_96 14 0 5 rfl rfl
def kb_cX9_cutWord_112 : List Nat := [5, 16, 23, 172]
theorem ac_cX9_cutWord_112 : AL cX9_cutWord 112 kb_cX9_cutWord_112 := AL.of (m := 4) (by decide +kernel)
theorem dX9_cutWord_113 : decode cX9_cutWord 113 = .ok (.bipush 23, 2) := o16p ac_cX9_cutWord_112 1 23 rfl rfl
theorem dX9_cutWord_115 : decode cX9_cutWord 115 = .ok (.ireturn, 1) := o172 ac_cX9_cutWord_112 3 rfl
theorem dX9_cutOne_14 : decode cX9_cutOne 14 = .ok (.aload_n 0, 1) := o42 ac_cX9_cutOne_0 14 rfl
theorem dX9_cutOne_15 : decode cX9_cutOne 15 = .ok (.getfield 9, 3) := o180 ac_cX9_cutOne_0 15 0 9 rfl
def kb_cX9_cutOne_16 : List Nat := [0, 9, 42, 180, 0, 29, 46, 184, 0, 40, 153, 0, 9, 42, 27, 182, 0, 43, 172, 42]
theorem ac_cX9_cutOne_16 : AL cX9_cutOne 16 kb_cX9_cutOne_16 := AL.of (m := 20) (by decide +kernel)
theorem dX9_cutOne_18 : decode cX9_cutOne 18 = .ok (.aload_n 0, 1) := o42 ac_cX9_cutOne_16 2 rfl
theorem dX9_cutOne_19 : decode cX9_cutOne 19 = .ok (.getfield 29, 3) := o180 ac_cX9_cutOne_16 3 0 29 rfl
theorem dX9_cutOne_22 : decode cX9_cutOne 22 = .ok (.iaload, 1) := o46 ac_cX9_cutOne_16 6 rfl
theorem dX9_cutOne_23 : decode cX9_cutOne 23 = .ok (.invokestatic 40, 3) := o184 ac_cX9_cutOne_16 7 0 40 rfl
theorem dX9_cutOne_26 : decode cX9_cutOne 26 = .ok (.ifCond .eq 9, 3) := o153p ac_cX9_cutOne_16 10 0 9 rfl rfl
theorem dX9_cutOne_29 : decode cX9_cutOne 29 = .ok (.aload_n 0, 1) := o42 ac_cX9_cutOne_16 13 rfl
theorem dX9_cutOne_30 : decode cX9_cutOne 30 = .ok (.iload_n 1, 1) := o27 ac_cX9_cutOne_16 14 rfl
theorem dX9_cutOne_31 : decode cX9_cutOne 31 = .ok (.invokevirtual 43, 3) := o182 ac_cX9_cutOne_16 15 0 43 rfl
def kb_cX9_cutOne_32 : List Nat := [0, 43, 172, 42, 180, 0, 9, 42, 180, 0, 29, 46, 184, 0, 46, 153, 0, 9, 42, 27]
theorem ac_cX9_cutOne_32 : AL cX9_cutOne 32 kb_cX9_cutOne_32 := AL.of (m := 20) (by decide +kernel)
theorem dX9_cutOne_34 : decode cX9_cutOne 34 = .ok (.ireturn, 1) := o172 ac_cX9_cutOne_32 2 rfl
theorem dX9_cutOne_35 : decode cX9_cutOne 35 = .ok (.aload_n 0, 1) := o42 ac_cX9_cutOne_32 3 rfl
theorem dX9_cutOne_36 : decode cX9_cutOne 36 = .ok (.getfield 9, 3) := o180 ac_cX9_cutOne_32 4 0 9 rfl
theorem dX9_cutOne_39 : decode cX9_cutOne 39 = .ok (.aload_n 0, 1) := o42 ac_cX9_cutOne_32 7 rfl
theorem dX9_cutOne_40 : decode cX9_cutOne 40 = .ok (.getfield 29, 3) := o180 ac_cX9_cutOne_32 8 0 29 rfl
theorem dX9_cutOne_43 : decode cX9_cutOne 43 = .ok (.iaload, 1) := o46 ac_cX9_cutOne_32 11 rfl
theorem dX9_cutOne_44 : decode cX9_cutOne 44 = .ok (.invokestatic 46, 3) := o184 ac_cX9_cutOne_32 12 0 46 rfl
theorem dX9_cutOne_47 : decode cX9_cutOne 47 = .ok (.ifCond .eq 9, 3) := o153p ac_cX9_cutOne_32 15 0 9 rfl rfl
def kb_cX9_cutOne_48 : List Nat := [0, 9, 42, 27, 182, 0, 49, 172, 42, 180, 0, 9, 42, 180, 0, 29, 46, 61, 42, 89]
theorem ac_cX9_cutOne_48 : AL cX9_cutOne 48 kb_cX9_cutOne_48 := AL.of (m := 20) (by decide +kernel)
theorem dX9_cutOne_50 : decode cX9_cutOne 50 = .ok (.aload_n 0, 1) := o42 ac_cX9_cutOne_48 2 rfl
theorem dX9_cutOne_51 : decode cX9_cutOne 51 = .ok (.iload_n 1, 1) := o27 ac_cX9_cutOne_48 3 rfl
theorem dX9_cutOne_52 : decode cX9_cutOne 52 = .ok (.invokevirtual 49, 3) := o182 ac_cX9_cutOne_48 4 0 49 rfl
theorem dX9_cutOne_55 : decode cX9_cutOne 55 = .ok (.ireturn, 1) := o172 ac_cX9_cutOne_48 7 rfl
theorem dX9_cutOne_56 : decode cX9_cutOne 56 = .ok (.aload_n 0, 1) := o42 ac_cX9_cutOne_48 8 rfl
theorem dX9_cutOne_57 : decode cX9_cutOne 57 = .ok (.getfield 9, 3) := o180 ac_cX9_cutOne_48 9 0 9 rfl
theorem dX9_cutOne_60 : decode cX9_cutOne 60 = .ok (.aload_n 0, 1) := o42 ac_cX9_cutOne_48 12 rfl
theorem dX9_cutOne_61 : decode cX9_cutOne 61 = .ok (.getfield 29, 3) := o180 ac_cX9_cutOne_48 13 0 29 rfl
def kb_cX9_cutOne_64 : List Nat := [46, 61, 42, 89, 180, 0, 29, 4, 96, 181, 0, 29, 18, 52, 28, 146, 182, 0, 54, 155]
theorem ac_cX9_cutOne_64 : AL cX9_cutOne 64 kb_cX9_cutOne_64 := AL.of (m := 20) (by decide +kernel)
theorem dX9_cutOne_64 : decode cX9_cutOne 64 = .ok (.iaload, 1) := o46 ac_cX9_cutOne_64 0 rfl
theorem dX9_cutOne_65 : decode cX9_cutOne 65 = .ok (.istore_n 2, 1) := o61 ac_cX9_cutOne_64 1 rfl
theorem dX9_cutOne_66 : decode cX9_cutOne 66 = .ok (.aload_n 0, 1) := o42 ac_cX9_cutOne_64 2 rfl
theorem dX9_cutOne_67 : decode cX9_cutOne 67 = .ok (.dup, 1) := o89 ac_cX9_cutOne_64 3 rfl
theorem dX9_cutOne_68 : decode cX9_cutOne 68 = .ok (.getfield 29, 3) := o180 ac_cX9_cutOne_64 4 0 29 rfl
theorem dX9_cutOne_71 : decode cX9_cutOne 71 = .ok (.iconst 1, 1) := o4 ac_cX9_cutOne_64 7 rfl
theorem dX9_cutOne_72 : decode cX9_cutOne 72 = .ok (.iadd, 1) := o96 ac_cX9_cutOne_64 8 rfl
theorem dX9_cutOne_73 : decode cX9_cutOne 73 = .ok (.putfield 29, 3) := o181 ac_cX9_cutOne_64 9 0 29 rfl
theorem dX9_cutOne_76 : decode cX9_cutOne 76 = .ok (.ldc 52, 2) := o18 ac_cX9_cutOne_64 12 52 rfl
theorem dX9_cutOne_78 : decode cX9_cutOne 78 = .ok (.iload_n 2, 1) := o28 ac_cX9_cutOne_64 14 rfl
theorem dX9_cutOne_79 : decode cX9_cutOne 79 = .ok (.i2c, 1) := o146 ac_cX9_cutOne_64 15 rfl
def kb_cX9_cutOne_80 : List Nat := [182, 0, 54, 155, 0, 7, 28, 167, 0, 5, 16, 23, 172]
theorem ac_cX9_cutOne_80 : AL cX9_cutOne 80 kb_cX9_cutOne_80 := AL.of (m := 13) (by decide +kernel)
theorem dX9_cutOne_80 : decode cX9_cutOne 80 = .ok (.invokevirtual 54, 3) := o182 ac_cX9_cutOne_80 0 0 54 rfl
theorem dX9_cutOne_83 : decode cX9_cutOne 83 = .ok (.ifCond .lt 7, 3) := o155p ac_cX9_cutOne_80 3 0 7 rfl rfl
theorem dX9_cutOne_86 : decode cX9_cutOne 86 = .ok (.iload_n 2, 1) := o28 ac_cX9_cutOne_80 6 rfl
theorem dX9_cutOne_87 : decode cX9_cutOne 87 = .ok (.goto 5, 3) := o167p ac_cX9_cutOne_80 7 0 5 rfl rfl
theorem dX9_cutOne_90 : decode cX9_cutOne 90 = .ok (.bipush 23, 2) := o16p ac_cX9_cutOne_80 10 23 rfl rfl
theorem dX9_cutOne_92 : decode cX9_cutOne 92 = .ok (.ireturn, 1) := o172 ac_cX9_cutOne_80 12 rfl
theorem dX9_cut_39 : decode cX9_cut 39 = .ok (.aload_n 0, 1) := o42 ac_cX9_cut_32 7 rfl
theorem dX9_cut_40 : decode cX9_cut 40 = .ok (.getfield 9, 3) := o180 ac_cX9_cut_32 8 0 9 rfl
theorem dX9_cut_43 : decode cX9_cut 43 = .ok (.aload_n 0, 1) := o42 ac_cX9_cut_32 11 rfl
theorem dX9_cut_44 : decode cX9_cut 44 = .ok (.getfield 29, 3) := o180 ac_cX9_cut_32 12 0 29 rfl
theorem dX9_cut_47 : decode cX9_cut 47 = .ok (.iaload, 1) := o46 ac_cX9_cut_32 15 rfl
def kb_cX9_cut_48 : List Nat := [184, 0, 32, 153, 0, 16, 42, 89, 180, 0, 29, 4, 96, 181, 0, 29, 167, 255, 220, 42]
theorem ac_cX9_cut_48 : AL cX9_cut 48 kb_cX9_cut_48 := AL.of (m := 20) (by decide +kernel)
theorem dX9_cut_48 : decode cX9_cut 48 = .ok (.invokestatic 32, 3) := o184 ac_cX9_cut_48 0 0 32 rfl
theorem dX9_cut_51 : decode cX9_cut 51 = .ok (.ifCond .eq 16, 3) := o153p ac_cX9_cut_48 3 0 16 rfl rfl
theorem dX9_cut_54 : decode cX9_cut 54 = .ok (.aload_n 0, 1) := o42 ac_cX9_cut_48 6 rfl
theorem dX9_cut_55 : decode cX9_cut 55 = .ok (.dup, 1) := o89 ac_cX9_cut_48 7 rfl
theorem dX9_cut_56 : decode cX9_cut 56 = .ok (.getfield 29, 3) := o180 ac_cX9_cut_48 8 0 29 rfl
theorem dX9_cut_59 : decode cX9_cut 59 = .ok (.iconst 1, 1) := o4 ac_cX9_cut_48 11 rfl
theorem dX9_cut_60 : decode cX9_cut 60 = .ok (.iadd, 1) := o96 ac_cX9_cut_48 12 rfl
theorem dX9_cut_61 : decode cX9_cut 61 = .ok (.putfield 29, 3) := o181 ac_cX9_cut_48 13 0 29 rfl
theorem dX9_cut_64 : decode cX9_cut 64 = .ok (.goto (-36), 3) := o167n ac_cX9_cut_64 0 255 220 35 rfl rfl rfl
/-- what cutting one token changes: the tape's place, and the value at n -/
def TT (n : Nat) (σ σ' : HS) : Prop := ony [2, 6] σ σ' ∧ σ'.1 2 1 = σ.1 2 1 ∧ ∀ j, j ≠ n → σ'.2.1 6 j = σ.2.1 6 j
theorem TT.rf {n : Nat} {σ : HS} : TT n σ σ := ⟨ony.rf, rfl, fun _ _ => rfl⟩
theorem TT.tr {n : Nat} {σ σ1 σ2 : HS} (h : TT n σ σ1) (h2 : TT n σ1 σ2) : TT n σ σ2 := ⟨h.1.tr h2.1, h2.2.1.trans h.2.1, fun j hj => (h2.2.2 j hj).trans (h.2.2 j hj)⟩
theorem TT.at {n : Nat} {σ σ1 : HS} {v : Int32} (h : TT n σ σ1) : TT n σ (hI σ1 2 5 v) := ⟨h.1.I (by decide), (hI_n (by decide)).trans h.2.1, h.2.2⟩
theorem TT.val {n : Nat} {σ σ1 : HS} {v : Int64} (h : TT n σ σ1) : TT n σ (hL σ1 6 n v) := ⟨h.1.L (by decide), h.2.1, fun j hj => by
  have e : (hL σ1 6 n v).2.1 6 = vp_updL (σ1.2.1 6) n v := va_up_self σ1.2.1 6 _
  rw [e, pk_uLn hj]
  exact h.2.2 j hj⟩
def VB (e : Int) (w : Int64) : Prop := 0 ≤ e ∧ (e = 0 → w.toInt = 0) ∧ (e = 1 → 0 ≤ w.toInt ∧ w.toInt ≤ 9) ∧ (e = 2 → 0 ≤ w.toInt ∧ w.toInt ≤ 99) ∧ (e = 3 → 0 ≤ w.toInt ∧ w.toInt ≤ 999) ∧ (e = 4 → 0 ≤ w.toInt ∧ w.toInt ≤ 9999)
theorem i64_step {w : Int64} {z : Int32} (h : 0 ≤ w.toInt ∧ w.toInt ≤ 999) (hz : 0 ≤ z.toInt ∧ z.toInt ≤ 9) : (w * 10 + z.toInt64).toInt = w.toInt * 10 + z.toInt := by
  have e10 : (10 : Int64).toInt = 10 := by decide
  have e1 : (w * 10).toInt = w.toInt * 10 := by
    rw [Int64.toInt_mul, e10]
    rw [Int.bmod_eq_of_le] <;> omega
  rw [Int64.toInt_add, e1, Int32.toInt_toInt64]
  rw [Int.bmod_eq_of_le] <;> omega
theorem VB.step {e : Int} {w : Int64} {z : Int32} (h : VB e w) (hz : 0 ≤ z.toInt ∧ z.toInt ≤ 9) : VB (e + 1) (w * 10 + z.toInt64) := by
  obtain ⟨h0, h1, h2, h3, h4, h5⟩ := h
  refine ⟨by omega, fun q => by omega, fun q => ?_, fun q => ?_, fun q => ?_, fun q => ?_⟩
  · have a := h1 (by omega)
    rw [i64_step (by omega) hz]; omega
  · have a := h2 (by omega)
    rw [i64_step (by omega) hz]; omega
  · have a := h3 (by omega)
    rw [i64_step (by omega) hz]; omega
  · have a := h4 (by omega)
    rw [i64_step (by omega) hz]; omega
/-! read -/
theorem dX6_readInto_71 : decode cX6_readInto 71 = .ok (.iload_n 3, 1) := o29 ac_cX6_readInto_64 7 rfl
theorem dX6_readInto_72 : decode cX6_readInto 72 = .ok (.sipush 400, 3) := o17p ac_cX6_readInto_64 8 1 144 rfl rfl
theorem dX6_readInto_75 : decode cX6_readInto 75 = .ok (.if_icmp .gt 15, 3) := o163p ac_cX6_readInto_64 11 0 15 rfl rfl
theorem dX6_readInto_78 : decode cX6_readInto 78 = .ok (.aload_n 0, 1) := o42 ac_cX6_readInto_64 14 rfl
theorem dX6_readInto_79 : decode cX6_readInto 79 = .ok (.aload_n 1, 1) := o43 ac_cX6_readInto_64 15 rfl
theorem dX6_readInto_80 : decode cX6_readInto 80 = .ok (.invokevirtual 56, 3) := o182 ac_cX6_readInto_80 0 0 56 rfl
theorem dX6_readInto_83 : decode cX6_readInto 83 = .ok (.istore_n 2, 1) := o61 ac_cX6_readInto_80 3 rfl
theorem dX6_readInto_84 : decode cX6_readInto 84 = .ok (.iinc 3 1, 3) := o132p ac_cX6_readInto_80 4 3 1 rfl rfl
theorem dX6_readInto_87 : decode cX6_readInto 87 = .ok (.goto (-29), 3) := o167n ac_cX6_readInto_80 7 255 227 28 rfl rfl rfl
theorem dX6_readInto_104 : decode cX6_readInto 104 = .ok (.aload_n 0, 1) := o42 ac_cX6_readInto_96 8 rfl
theorem dX6_readInto_105 : decode cX6_readInto 105 = .ok (.aload_n 0, 1) := o42 ac_cX6_readInto_96 9 rfl
theorem dX6_readInto_106 : decode cX6_readInto 106 = .ok (.getfield 37, 3) := o180 ac_cX6_readInto_96 10 0 37 rfl
theorem dX6_readInto_109 : decode cX6_readInto 109 = .ok (.putfield 34, 3) := o181 ac_cX6_readInto_96 13 0 34 rfl
theorem dX6_readInto_112 : decode cX6_readInto 112 = .ok (.aload_n 0, 1) := o42 ac_cX6_readInto_112 0 rfl
theorem dX6_readInto_113 : decode cX6_readInto 113 = .ok (.aload_n 0, 1) := o42 ac_cX6_readInto_112 1 rfl
theorem dX6_readInto_114 : decode cX6_readInto 114 = .ok (.getfield 40, 3) := o180 ac_cX6_readInto_112 2 0 40 rfl
theorem dX6_readInto_117 : decode cX6_readInto 117 = .ok (.putfield 18, 3) := o181 ac_cX6_readInto_112 5 0 18 rfl
/-! the reference's invariant: bounds of fields and of arrays' elements -/
def bdFm : List (Nat × Nat × Int × Int) := [(236, 2, 0, 2000), (236, 4, 0, 2000), (236, 10, 0, 402), (236, 11, 0, 400), (236, 12, 0, 7), (236, 13, 0, 2), (236, 18, 0, 1), (236, 19, 0, 1), (236, 20, 0, 12), (236, 43, 0, 40), (236, 51, -2, 6), (236, 54, 0, 40), (236, 57, 0, 16), (236, 60, 0, 20)]
def bdAm : List (Nat × Int × Int) := [(239, 0, 39), (241, 0, 9999), (245, 0, 7), (249, 0, 5), (250, 0, 8), (251, 0, 9999), (269, 0, 9999), (272, 0, 40), (274, -2, 6)]
def GIm (σ : HS) : Prop := (∀ q ∈ bdFm, q.2.2.1 ≤ (σ.1 q.1 q.2.1).toInt ∧ (σ.1 q.1 q.2.1).toInt ≤ q.2.2.2) ∧ (∀ q ∈ bdAm, ∀ j : Nat, q.2.1 ≤ (σ.1 q.1 j).toInt ∧ (σ.1 q.1 j).toInt ≤ q.2.2)
theorem GIm.I {σ : HS} {i k : Nat} {v : Int32} (h : GIm σ) (hF : ∀ q ∈ bdFm, q.1 = i → q.2.1 = k → q.2.2.1 ≤ v.toInt ∧ v.toInt ≤ q.2.2.2) (hA : ∀ q ∈ bdAm, q.1 = i → q.2.1 ≤ v.toInt ∧ v.toInt ≤ q.2.2) : GIm (hI σ i k v) := by
  refine ⟨fun q hq => ?_, fun q hq j => ?_⟩
  · rcases hI_at (σ := σ) (i := i) (k := k) (v := v) q.1 q.2.1 with ⟨e1, e2, e3⟩ | e3
    · rw [e3]; exact hF q hq e1 e2
    · rw [e3]; exact h.1 q hq
  · rcases hI_at (σ := σ) (i := i) (k := k) (v := v) q.1 j with ⟨e1, e2, e3⟩ | e3
    · rw [e3]; exact hA q hq e1
    · rw [e3]; exact h.2 q hq j
theorem GIm.L {σ : HS} {i k : Nat} {v : Int64} (h : GIm σ) (_ : i ≠ 6) : GIm (hL σ i k v) := h
/-- may place k of cell i have been written -/
def wr (L : List Nat) (i k : Nat) : Bool := if i = 236 then L.contains (1000 + k) else if i = 267 then (if k = 21 ∨ k = 26 ∨ k = 27 then L.contains (2000 + k) else L.contains 267) else L.contains i
def onm (L : List Nat) (σ σ1 : HS) : Prop := (∀ i k, wr L i k = false → σ1.1 i k = σ.1 i k) ∧ (∀ i, L.contains i = false → σ1.2.1 i = σ.2.1 i) ∧ σ1.2.2 = σ.2.2
theorem wr_c {L L1 : List Nat} (hL : ∀ q, q ∈ L → q ∈ L1) (n : Nat) (hn : L1.contains n = false) : L.contains n = false := by
  by_cases e : L.contains n = true
  · have h1 := hL n (by simpa using e)
    have h2 : L1.contains n = true := by simpa using h1
    rw [h2] at hn
    exact absurd hn (by decide)
  · simpa using e
theorem wr_mono {L L1 : List Nat} (hL : ∀ q, q ∈ L → q ∈ L1) {i k : Nat} (h : wr L1 i k = false) : wr L i k = false := by
  unfold wr at h ⊢
  by_cases h1 : i = 236
  · rw [if_pos h1] at h ⊢
    exact wr_c hL _ h
  · rw [if_neg h1] at h ⊢
    by_cases h2 : i = 267
    · rw [if_pos h2] at h ⊢
      by_cases h3 : k = 21 ∨ k = 26 ∨ k = 27
      · rw [if_pos h3] at h ⊢
        exact wr_c hL _ h
      · rw [if_neg h3] at h ⊢
        exact wr_c hL _ h
    · rw [if_neg h2] at h ⊢
      exact wr_c hL _ h
theorem onm.rf {L : List Nat} {σ : HS} : onm L σ σ := ⟨fun _ _ _ => rfl, fun _ _ => rfl, rfl⟩
theorem onm.tr {L : List Nat} {σ σ1 σ2 : HS} (h : onm L σ σ1) (h2 : onm L σ1 σ2) : onm L σ σ2 := ⟨fun i k hw => (h2.1 i k hw).trans (h.1 i k hw), fun i hi => (h2.2.1 i hi).trans (h.2.1 i hi), h2.2.2.trans h.2.2⟩
theorem onm.mono {L L1 : List Nat} {σ σ1 : HS} (h : onm L σ σ1) (hL : ∀ q, q ∈ L → q ∈ L1) : onm L1 σ σ1 := ⟨fun i k hw => h.1 i k (wr_mono hL hw), fun i hi => h.2.1 i (wr_c hL i hi), h.2.2⟩
theorem onm.W {L : List Nat} {σ σ1 : HS} {i k : Nat} {v : Int32} (h : onm L σ σ1) (hw : wr L i k = true) : onm L σ (hI σ1 i k v) := by
  refine ⟨fun a j hn => ?_, h.2.1, h.2.2⟩
  rcases hI_at (σ := σ1) (i := i) (k := k) (v := v) a j with ⟨e1, e2, _⟩ | e3
  · subst e1
    subst e2
    rw [hw] at hn
    exact absurd hn (by decide)
  · exact e3.trans (h.1 a j hn)
theorem onm.F {L : List Nat} {σ σ1 : HS} {k : Nat} {v : Int32} (h : onm L σ σ1) (hi : L.contains (1000 + k) = true) : onm L σ (hI σ1 236 k v) := h.W (by unfold wr; rw [if_pos rfl]; exact hi)
def aok (L : List Nat) (i : Nat) : Bool := L.contains i && (i != 236) && (i != 267)
theorem aok_w {L : List Nat} {i k : Nat} (h : aok L i = true) : wr L i k = true := by
  unfold aok at h
  simp only [Bool.and_eq_true, bne_iff_ne, ne_eq] at h
  unfold wr
  rw [if_neg h.1.2, if_neg h.2]
  exact h.1.1
theorem onm.I {L : List Nat} {σ σ1 : HS} {i k : Nat} {v : Int32} (h : onm L σ σ1) (hi : aok L i = true) : onm L σ (hI σ1 i k v) := h.W (aok_w hi)
theorem onm.L {L : List Nat} {σ σ1 : HS} {i k : Nat} {v : Int64} (h : onm L σ σ1) (hi : L.contains i = true) : onm L σ (hL σ1 i k v) := by
  refine ⟨h.1, fun a ha => ?_, h.2.2⟩
  have e : a ≠ i := fun e => by rw [e, hi] at ha; exact absurd ha (by decide)
  exact (va_up_ne σ1.2.1 _ e).trans (h.2.1 a ha)
theorem onm.a {L : List Nat} {σ σ1 : HS} (h : onm L σ σ1) {i : Nat} (hi : (!(L.contains i) && (i != 236) && (i != 267)) = true) : σ1.1 i = σ.1 i := by
  simp only [Bool.and_eq_true, bne_iff_ne, ne_eq, Bool.not_eq_true'] at hi
  exact funext fun k => h.1 i k (by unfold wr; rw [if_neg hi.1.2, if_neg hi.2]; exact hi.1.1)
/-- how many patterns the text in force has -/
def plm (σ : HS) : Int := (σ.1 249 (σ.1 236 18).toInt.toNat).toInt
def rw3 (B P : Int) (a21 a26 a27 : Int32) : Prop := a26.toInt < P ∧ 0 ≤ a27.toInt ∧ a27.toInt ≤ a21.toInt ∧ a21.toInt ≤ B
/-- how many numbers lie on the pile -/
def dep (cd : Nat → Int32) (u : Nat) : Nat → Int
  | 0 => 0
  | n + 1 => dep cd u n + (if (cd (u + n)).toInt < 2 then 1 else -1)
def SGm (cd ci : Nat → Int32) (u v : Int32) : Prop := (0 ≤ u.toInt ∧ u.toInt ≤ 840) ∧ v.toInt ≤ 840 ∧ v.toInt - u.toInt ≤ 400 ∧ ∀ c : Nat, u.toInt ≤ c → (c : Int) < v.toInt → 0 ≤ (cd c).toInt ∧ (cd c).toInt ≤ 5 ∧ ((cd c).toInt = 1 → 0 ≤ (ci c).toInt ∧ (ci c).toInt ≤ 8) ∧ (2 ≤ (cd c).toInt → 2 ≤ dep cd u.toInt.toNat (c - u.toInt.toNat))
def BRq (ht tf tm tt te cd ci : Nat → Int32) (q : Nat) : Prop := ((ht q).toInt ≠ 0 → SGm cd ci (tf q) (tm q) ∧ SGm cd ci (tm q) (tt q)) ∧ SGm cd ci (tt q) (te q)
def RGq (n : Nat) (h a m t e : Int32) (q : Nat) : Prop := 130 * n ≤ q ∧ q < 130 * n + 130 ∧ (h.toInt ≠ 0 → 420 * (n : Int) ≤ a.toInt ∧ m.toInt ≤ 420 * (n : Int) + 420 ∧ 420 * (n : Int) ≤ m.toInt ∧ t.toInt ≤ 420 * (n : Int) + 420) ∧ 420 * (n : Int) ≤ t.toInt ∧ e.toInt ≤ 420 * (n : Int) + 420
def LWq (n : Nat) (lf ll ht tf tm tt te cd ci : Nat → Int32) : Prop := ∀ k, k < 4 → (0 ≤ (lf (4 * n + k)).toInt ∧ (lf (4 * n + k)).toInt ≤ 260) ∧ (ll (4 * n + k)).toInt ≤ 260 ∧ ∀ q : Nat, (lf (4 * n + k)).toInt ≤ q → (q : Int) < (ll (4 * n + k)).toInt → BRq ht tf tm tt te cd ci q ∧ RGq n (ht q) (tf q) (tm q) (tt q) (te q) q
def RKq (b : Int) (lv un : Int32) (pt lg nw hs ih hr : Nat → Int32) (r21 r26 r27 : Int32) : Prop := b ≤ 40000 ∧ rw3 (b + 300) (pt lv.toInt.toNat).toInt r21 r26 r27 ∧ rw3 b (pt lv.toInt.toNat).toInt (nw 21) (nw 26) (nw 27) ∧ (∀ u : Nat, (u : Int) < un.toInt → rw3 b (pt lv.toInt.toNat).toInt (hs (29 * u + 21)) (hs (29 * u + 26)) (hs (29 * u + 27))) ∧ (∀ s, s < 3 → (ih s).toInt ≠ 0 → rw3 b (pt lv.toInt.toNat).toInt (hr (29 * s + 21)) (hr (29 * s + 26)) (hr (29 * s + 27))) ∧ (∀ p : Nat, (p : Int) < (pt lv.toInt.toNat).toInt → 1 ≤ (lg (5 * lv.toInt.toNat + p)).toInt)
/-- rows, rows kept, patterns and laws of the text in force -/
def RKm (b : Int) (σ : HS) : Prop := RKq b (σ.1 236 18) (σ.1 236 54) (σ.1 249) (σ.1 250) (σ.1 266) (σ.1 268) (σ.1 275) (σ.1 276) (σ.1 267 21) (σ.1 267 26) (σ.1 267 27) ∧ LWq (σ.1 236 18).toInt.toNat (σ.1 254) (σ.1 255) (σ.1 256) (σ.1 257) (σ.1 258) (σ.1 259) (σ.1 260) (σ.1 261) (σ.1 262)
theorem RKm.mono {b c : Int} {σ : HS} (h : RKm b σ) (hc : b ≤ c) (h4 : c ≤ 40000) : RKm c σ := by
  obtain ⟨⟨h1, h2, h3, h5, h6, h7⟩, h8⟩ := h
  have m : ∀ {B B1 P : Int} {x y z : Int32}, B ≤ B1 → rw3 B P x y z → rw3 B1 P x y z := fun hB q => ⟨q.1, q.2.1, q.2.2.1, by have := q.2.2.2; omega⟩
  exact ⟨⟨h4, m (by omega) h2, m hc h3, fun u hu => m hc (h5 u hu), fun s hs e => m hc (h6 s hs e), h7⟩, h8⟩
theorem RKm.nw {b : Int} {σ : HS} (h : RKm b σ) : rw3 b (plm σ) (σ.1 266 21) (σ.1 266 26) (σ.1 266 27) := h.1.2.2.1
theorem RKm.rw {b : Int} {σ : HS} (h : RKm b σ) : rw3 (b + 300) (plm σ) (σ.1 267 21) (σ.1 267 26) (σ.1 267 27) := h.1.2.1
theorem rw3.mono {B B1 P : Int} {x y z : Int32} (q : rw3 B P x y z) (hB : B ≤ B1) : rw3 B1 P x y z := ⟨q.1, q.2.1, q.2.2.1, by have := q.2.2.2; omega⟩
theorem rw3.eq {B P : Int} {x y z x1 y1 z1 : Int32} (q : rw3 B P x y z) (hx : x1 = x) (hy : y1 = y) (hz : z1 = z) : rw3 B P x1 y1 z1 := by subst hx; subst hy; subst hz; exact q
def HB (b P : Int) (f : Nat → Int32) (n : Int) : Prop := ∀ u : Nat, (u : Int) < n → rw3 b P (f (29 * u + 21)) (f (29 * u + 26)) (f (29 * u + 27))
theorem HB.add {b P : Int} {f g : Nat → Int32} {n k : Int} {a : Nat} (h : HB b P f n) (ha : (a : Int) = 29 * n) (hk : 29 ≤ k) (e : ∀ q : Nat, (q : Int) < k → f (a + q) = g q) (hg : rw3 b P (g 21) (g 26) (g 27)) : HB b P f (n + 1) := by
  intro u hu
  by_cases e1 : (u : Int) < n
  · exact h u e1
  · rw [show 29 * u = a by omega]
    exact hg.eq (e 21 (by omega)) (e 26 (by omega)) (e 27 (by omega))
def byt (σ : HS) (x : Int32) : Int32 := if x.toInt < (σ.1 236 4).toInt then (σ.1 238 x.toInt.toNat) &&& 255 else 0
theorem dX12_byteAt_8 : decode cX12_byteAt 8 = .ok (.aload_n 0, 1) := o42 ac_cX12_byteAt_0 8 rfl
theorem dX12_byteAt_9 : decode cX12_byteAt 9 = .ok (.getfield 17, 3) := o180 ac_cX12_byteAt_0 9 0 17 rfl
theorem dX12_byteAt_12 : decode cX12_byteAt 12 = .ok (.iload_n 1, 1) := o27 ac_cX12_byteAt_0 12 rfl
theorem dX12_byteAt_13 : decode cX12_byteAt 13 = .ok (.baload, 1) := o51 ac_cX12_byteAt_0 13 rfl
theorem dX12_byteAt_14 : decode cX12_byteAt 14 = .ok (.sipush 255, 3) := o17p ac_cX12_byteAt_0 14 0 255 rfl rfl
theorem dX12_byteAt_17 : decode cX12_byteAt 17 = .ok (.iand, 1) := o126 ac_cX12_byteAt_16 1 rfl
theorem dX12_byteAt_18 : decode cX12_byteAt 18 = .ok (.goto 4, 3) := o167p ac_cX12_byteAt_16 2 0 4 rfl rfl
def kb_cX12_told_0 : List Nat := [27, 4, 160, 0, 7, 26, 167, 0, 12, 26, 156, 0, 7, 3, 167, 0, 4, 4, 172]
theorem ac_cX12_told_0 : AL cX12_told 0 kb_cX12_told_0 := AL.of (m := 19) (by decide +kernel)
theorem dX12_told_0 : decode cX12_told 0 = .ok (.iload_n 1, 1) := o27 ac_cX12_told_0 0 rfl
theorem dX12_told_1 : decode cX12_told 1 = .ok (.iconst 1, 1) := o4 ac_cX12_told_0 1 rfl
theorem dX12_told_2 : decode cX12_told 2 = .ok (.if_icmp .ne 7, 3) := o160p ac_cX12_told_0 2 0 7 rfl rfl
theorem dX12_told_5 : decode cX12_told 5 = .ok (.iload_n 0, 1) := o26 ac_cX12_told_0 5 rfl
theorem dX12_told_6 : decode cX12_told 6 = .ok (.goto 12, 3) := o167p ac_cX12_told_0 6 0 12 rfl rfl
theorem dX12_told_9 : decode cX12_told 9 = .ok (.iload_n 0, 1) := o26 ac_cX12_told_0 9 rfl
theorem dX12_told_10 : decode cX12_told 10 = .ok (.ifCond .ge 7, 3) := o156p ac_cX12_told_0 10 0 7 rfl rfl
theorem dX12_told_13 : decode cX12_told 13 = .ok (.iconst 0, 1) := o3 ac_cX12_told_0 13 rfl
theorem dX12_told_14 : decode cX12_told 14 = .ok (.goto 4, 3) := o167p ac_cX12_told_0 14 0 4 rfl rfl
def kb_cX12_told_16 : List Nat := [4, 4, 172]
theorem ac_cX12_told_16 : AL cX12_told 16 kb_cX12_told_16 := AL.of (m := 3) (by decide +kernel)
theorem dX12_told_17 : decode cX12_told 17 = .ok (.iconst 1, 1) := o4 ac_cX12_told_16 1 rfl
theorem dX12_told_18 : decode cX12_told 18 = .ok (.ireturn, 1) := o172 ac_cX12_told_16 2 rfl
def kb_cX12_mixed_0 : List Nat := [26, 27, 130, 19, 1, 58, 104, 17, 48, 57, 96, 61, 28, 28, 16, 15, 124, 130, 172]
theorem ac_cX12_mixed_0 : AL cX12_mixed 0 kb_cX12_mixed_0 := AL.of (m := 19) (by decide +kernel)
theorem dX12_mixed_0 : decode cX12_mixed 0 = .ok (.iload_n 0, 1) := o26 ac_cX12_mixed_0 0 rfl
theorem dX12_mixed_1 : decode cX12_mixed 1 = .ok (.iload_n 1, 1) := o27 ac_cX12_mixed_0 1 rfl
theorem dX12_mixed_2 : decode cX12_mixed 2 = .ok (.ixor, 1) := o130 ac_cX12_mixed_0 2 rfl
theorem dX12_mixed_3 : decode cX12_mixed 3 = .ok (.ldc_w 314, 3) := o19 ac_cX12_mixed_0 3 1 58 rfl
theorem dX12_mixed_6 : decode cX12_mixed 6 = .ok (.imul, 1) := o104 ac_cX12_mixed_0 6 rfl
theorem dX12_mixed_7 : decode cX12_mixed 7 = .ok (.sipush 12345, 3) := o17p ac_cX12_mixed_0 7 48 57 rfl rfl
theorem dX12_mixed_10 : decode cX12_mixed 10 = .ok (.iadd, 1) := o96 ac_cX12_mixed_0 10 rfl
theorem dX12_mixed_11 : decode cX12_mixed 11 = .ok (.istore_n 2, 1) := o61 ac_cX12_mixed_0 11 rfl
theorem dX12_mixed_12 : decode cX12_mixed 12 = .ok (.iload_n 2, 1) := o28 ac_cX12_mixed_0 12 rfl
theorem dX12_mixed_13 : decode cX12_mixed 13 = .ok (.iload_n 2, 1) := o28 ac_cX12_mixed_0 13 rfl
theorem dX12_mixed_14 : decode cX12_mixed 14 = .ok (.bipush 15, 2) := o16p ac_cX12_mixed_0 14 15 rfl rfl
def kb_cX12_mixed_16 : List Nat := [124, 130, 172]
theorem ac_cX12_mixed_16 : AL cX12_mixed 16 kb_cX12_mixed_16 := AL.of (m := 3) (by decide +kernel)
theorem dX12_mixed_16 : decode cX12_mixed 16 = .ok (.iushr, 1) := o124 ac_cX12_mixed_16 0 rfl
theorem dX12_mixed_17 : decode cX12_mixed 17 = .ok (.ixor, 1) := o130 ac_cX12_mixed_16 1 rfl
theorem dX12_mixed_18 : decode cX12_mixed 18 = .ok (.ireturn, 1) := o172 ac_cX12_mixed_16 2 rfl
theorem dX12_held_9 : decode cX12_held 9 = .ok (.iload_n 0, 1) := o26 ac_cX12_held_0 9 rfl
theorem dX12_held_10 : decode cX12_held 10 = .ok (.iload_n 2, 1) := o28 ac_cX12_held_0 10 rfl
theorem dX12_held_11 : decode cX12_held 11 = .ok (.if_icmp .le 7, 3) := o164p ac_cX12_held_0 11 0 7 rfl rfl
theorem dX12_held_14 : decode cX12_held 14 = .ok (.iload_n 2, 1) := o28 ac_cX12_held_0 14 rfl
theorem dX12_held_15 : decode cX12_held 15 = .ok (.goto 4, 3) := o167p ac_cX12_held_0 15 0 4 rfl rfl
theorem dX12_held_18 : decode cX12_held 18 = .ok (.iload_n 0, 1) := o26 ac_cX12_held_16 2 rfl
def kb_cX12_thingsSo_16 : List Nat := [25, 42, 180, 0, 110, 29, 46, 27, 160, 0, 9, 28, 4, 29, 120, 128, 61, 132, 3, 1]
theorem ac_cX12_thingsSo_16 : AL cX12_thingsSo 16 kb_cX12_thingsSo_16 := AL.of (m := 20) (by decide +kernel)
theorem dX12_thingsSo_17 : decode cX12_thingsSo 17 = .ok (.aload_n 0, 1) := o42 ac_cX12_thingsSo_16 1 rfl
theorem dX12_thingsSo_18 : decode cX12_thingsSo 18 = .ok (.getfield 110, 3) := o180 ac_cX12_thingsSo_16 2 0 110 rfl
theorem dX12_thingsSo_21 : decode cX12_thingsSo 21 = .ok (.iload_n 3, 1) := o29 ac_cX12_thingsSo_16 5 rfl
theorem dX12_thingsSo_22 : decode cX12_thingsSo 22 = .ok (.iaload, 1) := o46 ac_cX12_thingsSo_16 6 rfl
theorem dX12_thingsSo_23 : decode cX12_thingsSo 23 = .ok (.iload_n 1, 1) := o27 ac_cX12_thingsSo_16 7 rfl
theorem dX12_thingsSo_24 : decode cX12_thingsSo 24 = .ok (.if_icmp .ne 9, 3) := o160p ac_cX12_thingsSo_16 8 0 9 rfl rfl
theorem dX12_thingsSo_27 : decode cX12_thingsSo 27 = .ok (.iload_n 2, 1) := o28 ac_cX12_thingsSo_16 11 rfl
theorem dX12_thingsSo_28 : decode cX12_thingsSo 28 = .ok (.iconst 1, 1) := o4 ac_cX12_thingsSo_16 12 rfl
theorem dX12_thingsSo_29 : decode cX12_thingsSo 29 = .ok (.iload_n 3, 1) := o29 ac_cX12_thingsSo_16 13 rfl
theorem dX12_thingsSo_30 : decode cX12_thingsSo 30 = .ok (.ishl, 1) := o120 ac_cX12_thingsSo_16 14 rfl
theorem dX12_thingsSo_31 : decode cX12_thingsSo 31 = .ok (.ior, 1) := o128 ac_cX12_thingsSo_16 15 rfl
theorem dX12_thingsSo_32 : decode cX12_thingsSo 32 = .ok (.istore_n 2, 1) := o61 ac_cX12_thingsSo_32 0 rfl
theorem dX12_thingsSo_33 : decode cX12_thingsSo 33 = .ok (.iinc 3 1, 3) := o132p ac_cX12_thingsSo_32 1 3 1 rfl rfl
theorem dX12_thingsSo_36 : decode cX12_thingsSo 36 = .ok (.goto (-32), 3) := o167n ac_cX12_thingsSo_32 4 255 224 31 rfl rfl rfl
def kb_cX12_weightsOf_16 : List Nat := [35, 27, 29, 122, 4, 126, 4, 160, 0, 20, 28, 42, 180, 0, 46, 16, 7, 42, 180, 0]
theorem ac_cX12_weightsOf_16 : AL cX12_weightsOf 16 kb_cX12_weightsOf_16 := AL.of (m := 20) (by decide +kernel)
theorem dX12_weightsOf_17 : decode cX12_weightsOf 17 = .ok (.iload_n 1, 1) := o27 ac_cX12_weightsOf_16 1 rfl
theorem dX12_weightsOf_18 : decode cX12_weightsOf 18 = .ok (.iload_n 3, 1) := o29 ac_cX12_weightsOf_16 2 rfl
theorem dX12_weightsOf_19 : decode cX12_weightsOf 19 = .ok (.ishr, 1) := o122 ac_cX12_weightsOf_16 3 rfl
theorem dX12_weightsOf_20 : decode cX12_weightsOf 20 = .ok (.iconst 1, 1) := o4 ac_cX12_weightsOf_16 4 rfl
theorem dX12_weightsOf_21 : decode cX12_weightsOf 21 = .ok (.iand, 1) := o126 ac_cX12_weightsOf_16 5 rfl
theorem dX12_weightsOf_22 : decode cX12_weightsOf 22 = .ok (.iconst 1, 1) := o4 ac_cX12_weightsOf_16 6 rfl
theorem dX12_weightsOf_23 : decode cX12_weightsOf 23 = .ok (.if_icmp .ne 20, 3) := o160p ac_cX12_weightsOf_16 7 0 20 rfl rfl
theorem dX12_weightsOf_26 : decode cX12_weightsOf 26 = .ok (.iload_n 2, 1) := o28 ac_cX12_weightsOf_16 10 rfl
theorem dX12_weightsOf_27 : decode cX12_weightsOf 27 = .ok (.aload_n 0, 1) := o42 ac_cX12_weightsOf_16 11 rfl
theorem dX12_weightsOf_28 : decode cX12_weightsOf 28 = .ok (.getfield 46, 3) := o180 ac_cX12_weightsOf_16 12 0 46 rfl
theorem dX12_weightsOf_31 : decode cX12_weightsOf 31 = .ok (.bipush 7, 2) := o16p ac_cX12_weightsOf_16 15 7 rfl rfl
def kb_cX12_weightsOf_32 : List Nat := [7, 42, 180, 0, 221, 104, 29, 96, 46, 96, 61, 132, 3, 1, 167, 255, 214, 28, 172]
theorem ac_cX12_weightsOf_32 : AL cX12_weightsOf 32 kb_cX12_weightsOf_32 := AL.of (m := 19) (by decide +kernel)
theorem dX12_weightsOf_33 : decode cX12_weightsOf 33 = .ok (.aload_n 0, 1) := o42 ac_cX12_weightsOf_32 1 rfl
theorem dX12_weightsOf_34 : decode cX12_weightsOf 34 = .ok (.getfield 221, 3) := o180 ac_cX12_weightsOf_32 2 0 221 rfl
theorem dX12_weightsOf_37 : decode cX12_weightsOf 37 = .ok (.imul, 1) := o104 ac_cX12_weightsOf_32 5 rfl
theorem dX12_weightsOf_38 : decode cX12_weightsOf 38 = .ok (.iload_n 3, 1) := o29 ac_cX12_weightsOf_32 6 rfl
theorem dX12_weightsOf_39 : decode cX12_weightsOf 39 = .ok (.iadd, 1) := o96 ac_cX12_weightsOf_32 7 rfl
theorem dX12_weightsOf_40 : decode cX12_weightsOf 40 = .ok (.iaload, 1) := o46 ac_cX12_weightsOf_32 8 rfl
theorem dX12_weightsOf_41 : decode cX12_weightsOf 41 = .ok (.iadd, 1) := o96 ac_cX12_weightsOf_32 9 rfl
theorem dX12_weightsOf_42 : decode cX12_weightsOf 42 = .ok (.istore_n 2, 1) := o61 ac_cX12_weightsOf_32 10 rfl
theorem dX12_weightsOf_43 : decode cX12_weightsOf 43 = .ok (.iinc 3 1, 3) := o132p ac_cX12_weightsOf_32 11 3 1 rfl rfl
theorem dX12_weightsOf_46 : decode cX12_weightsOf 46 = .ok (.goto (-42), 3) := o167n ac_cX12_weightsOf_32 14 255 214 41 rfl rfl rfl
def kb_cX12_doesLand_0 : List Nat := [42, 180, 0, 110, 27, 46, 154, 0, 20, 42, 180, 0, 110, 16, 7, 27, 96, 46, 28, 160]
theorem ac_cX12_doesLand_0 : AL cX12_doesLand 0 kb_cX12_doesLand_0 := AL.of (m := 20) (by decide +kernel)
theorem dX12_doesLand_0 : decode cX12_doesLand 0 = .ok (.aload_n 0, 1) := o42 ac_cX12_doesLand_0 0 rfl
theorem dX12_doesLand_1 : decode cX12_doesLand 1 = .ok (.getfield 110, 3) := o180 ac_cX12_doesLand_0 1 0 110 rfl
theorem dX12_doesLand_4 : decode cX12_doesLand 4 = .ok (.iload_n 1, 1) := o27 ac_cX12_doesLand_0 4 rfl
theorem dX12_doesLand_5 : decode cX12_doesLand 5 = .ok (.iaload, 1) := o46 ac_cX12_doesLand_0 5 rfl
theorem dX12_doesLand_6 : decode cX12_doesLand 6 = .ok (.ifCond .ne 20, 3) := o154p ac_cX12_doesLand_0 6 0 20 rfl rfl
theorem dX12_doesLand_9 : decode cX12_doesLand 9 = .ok (.aload_n 0, 1) := o42 ac_cX12_doesLand_0 9 rfl
theorem dX12_doesLand_10 : decode cX12_doesLand 10 = .ok (.getfield 110, 3) := o180 ac_cX12_doesLand_0 10 0 110 rfl
theorem dX12_doesLand_13 : decode cX12_doesLand 13 = .ok (.bipush 7, 2) := o16p ac_cX12_doesLand_0 13 7 rfl rfl
theorem dX12_doesLand_15 : decode cX12_doesLand 15 = .ok (.iload_n 1, 1) := o27 ac_cX12_doesLand_0 15 rfl
def kb_cX12_doesLand_16 : List Nat := [96, 46, 28, 160, 0, 7, 4, 167, 0, 4, 3, 172]
theorem ac_cX12_doesLand_16 : AL cX12_doesLand 16 kb_cX12_doesLand_16 := AL.of (m := 12) (by decide +kernel)
theorem dX12_doesLand_16 : decode cX12_doesLand 16 = .ok (.iadd, 1) := o96 ac_cX12_doesLand_16 0 rfl
theorem dX12_doesLand_17 : decode cX12_doesLand 17 = .ok (.iaload, 1) := o46 ac_cX12_doesLand_16 1 rfl
theorem dX12_doesLand_18 : decode cX12_doesLand 18 = .ok (.iload_n 2, 1) := o28 ac_cX12_doesLand_16 2 rfl
theorem dX12_doesLand_19 : decode cX12_doesLand 19 = .ok (.if_icmp .ne 7, 3) := o160p ac_cX12_doesLand_16 3 0 7 rfl rfl
theorem dX12_doesLand_22 : decode cX12_doesLand 22 = .ok (.iconst 1, 1) := o4 ac_cX12_doesLand_16 6 rfl
theorem dX12_doesLand_23 : decode cX12_doesLand 23 = .ok (.goto 4, 3) := o167p ac_cX12_doesLand_16 7 0 4 rfl rfl
theorem dX12_doesLand_26 : decode cX12_doesLand 26 = .ok (.iconst 0, 1) := o3 ac_cX12_doesLand_16 10 rfl
theorem dX12_doesLand_27 : decode cX12_doesLand 27 = .ok (.ireturn, 1) := o172 ac_cX12_doesLand_16 11 rfl
def kb_cX12_landsAt_16 : List Nat := [21, 42, 29, 27, 182, 1, 68, 153, 0, 6, 132, 2, 1, 132, 3, 1, 167, 255, 228, 28]
theorem ac_cX12_landsAt_16 : AL cX12_landsAt 16 kb_cX12_landsAt_16 := AL.of (m := 20) (by decide +kernel)
theorem dX12_landsAt_17 : decode cX12_landsAt 17 = .ok (.aload_n 0, 1) := o42 ac_cX12_landsAt_16 1 rfl
theorem dX12_landsAt_18 : decode cX12_landsAt 18 = .ok (.iload_n 3, 1) := o29 ac_cX12_landsAt_16 2 rfl
theorem dX12_landsAt_19 : decode cX12_landsAt 19 = .ok (.iload_n 1, 1) := o27 ac_cX12_landsAt_16 3 rfl
theorem dX12_landsAt_20 : decode cX12_landsAt 20 = .ok (.invokevirtual 324, 3) := o182 ac_cX12_landsAt_16 4 1 68 rfl
theorem dX12_landsAt_23 : decode cX12_landsAt 23 = .ok (.ifCond .eq 6, 3) := o153p ac_cX12_landsAt_16 7 0 6 rfl rfl
theorem dX12_landsAt_26 : decode cX12_landsAt 26 = .ok (.iinc 2 1, 3) := o132p ac_cX12_landsAt_16 10 2 1 rfl rfl
theorem dX12_landsAt_29 : decode cX12_landsAt 29 = .ok (.iinc 3 1, 3) := o132p ac_cX12_landsAt_16 13 3 1 rfl rfl
theorem dX12_landsAt_32 : decode cX12_landsAt 32 = .ok (.goto (-28), 3) := o167n ac_cX12_landsAt_32 0 255 228 27 rfl rfl rfl
theorem dX12_catchesNow_15 : decode cX12_catchesNow 15 = .ok (.aload_n 0, 1) := o42 ac_cX12_catchesNow_0 15 rfl
def kb_cX12_catchesNow_16 : List Nat := [27, 3, 182, 1, 68, 153, 0, 5, 27, 172, 132, 1, 1, 167, 255, 229, 16, 254, 172]
theorem ac_cX12_catchesNow_16 : AL cX12_catchesNow 16 kb_cX12_catchesNow_16 := AL.of (m := 19) (by decide +kernel)
theorem dX12_catchesNow_16 : decode cX12_catchesNow 16 = .ok (.iload_n 1, 1) := o27 ac_cX12_catchesNow_16 0 rfl
theorem dX12_catchesNow_17 : decode cX12_catchesNow 17 = .ok (.iconst 0, 1) := o3 ac_cX12_catchesNow_16 1 rfl
theorem dX12_catchesNow_18 : decode cX12_catchesNow 18 = .ok (.invokevirtual 324, 3) := o182 ac_cX12_catchesNow_16 2 1 68 rfl
theorem dX12_catchesNow_21 : decode cX12_catchesNow 21 = .ok (.ifCond .eq 5, 3) := o153p ac_cX12_catchesNow_16 5 0 5 rfl rfl
theorem dX12_catchesNow_24 : decode cX12_catchesNow 24 = .ok (.iload_n 1, 1) := o27 ac_cX12_catchesNow_16 8 rfl
theorem dX12_catchesNow_25 : decode cX12_catchesNow 25 = .ok (.ireturn, 1) := o172 ac_cX12_catchesNow_16 9 rfl
theorem dX12_catchesNow_26 : decode cX12_catchesNow 26 = .ok (.iinc 1 1, 3) := o132p ac_cX12_catchesNow_16 10 1 1 rfl rfl
theorem dX12_catchesNow_29 : decode cX12_catchesNow 29 = .ok (.goto (-27), 3) := o167n ac_cX12_catchesNow_16 13 255 229 26 rfl rfl rfl
def kb_cX12_lotNow_0 : List Nat := [42, 180, 1, 49, 16, 125, 184, 1, 59, 7, 42, 180, 0, 110, 16, 21, 46, 104, 184, 1]
theorem ac_cX12_lotNow_0 : AL cX12_lotNow 0 kb_cX12_lotNow_0 := AL.of (m := 20) (by decide +kernel)
theorem dX12_lotNow_0 : decode cX12_lotNow 0 = .ok (.aload_n 0, 1) := o42 ac_cX12_lotNow_0 0 rfl
theorem dX12_lotNow_1 : decode cX12_lotNow 1 = .ok (.getfield 305, 3) := o180 ac_cX12_lotNow_0 1 1 49 rfl
theorem dX12_lotNow_4 : decode cX12_lotNow 4 = .ok (.bipush 125, 2) := o16p ac_cX12_lotNow_0 4 125 rfl rfl
theorem dX12_lotNow_6 : decode cX12_lotNow 6 = .ok (.invokestatic 315, 3) := o184 ac_cX12_lotNow_0 6 1 59 rfl
theorem dX12_lotNow_9 : decode cX12_lotNow 9 = .ok (.iconst 4, 1) := o7 ac_cX12_lotNow_0 9 rfl
theorem dX12_lotNow_10 : decode cX12_lotNow 10 = .ok (.aload_n 0, 1) := o42 ac_cX12_lotNow_0 10 rfl
theorem dX12_lotNow_11 : decode cX12_lotNow 11 = .ok (.getfield 110, 3) := o180 ac_cX12_lotNow_0 11 0 110 rfl
theorem dX12_lotNow_14 : decode cX12_lotNow 14 = .ok (.bipush 21, 2) := o16p ac_cX12_lotNow_0 14 21 rfl rfl
def kb_cX12_lotNow_16 : List Nat := [46, 104, 184, 1, 59, 4, 124, 16, 100, 112, 172]
theorem ac_cX12_lotNow_16 : AL cX12_lotNow 16 kb_cX12_lotNow_16 := AL.of (m := 11) (by decide +kernel)
theorem dX12_lotNow_16 : decode cX12_lotNow 16 = .ok (.iaload, 1) := o46 ac_cX12_lotNow_16 0 rfl
theorem dX12_lotNow_17 : decode cX12_lotNow 17 = .ok (.imul, 1) := o104 ac_cX12_lotNow_16 1 rfl
theorem dX12_lotNow_18 : decode cX12_lotNow 18 = .ok (.invokestatic 315, 3) := o184 ac_cX12_lotNow_16 2 1 59 rfl
theorem dX12_lotNow_21 : decode cX12_lotNow 21 = .ok (.iconst 1, 1) := o4 ac_cX12_lotNow_16 5 rfl
theorem dX12_lotNow_22 : decode cX12_lotNow 22 = .ok (.iushr, 1) := o124 ac_cX12_lotNow_16 6 rfl
theorem dX12_lotNow_23 : decode cX12_lotNow 23 = .ok (.bipush 100, 2) := o16p ac_cX12_lotNow_16 7 100 rfl rfl
theorem dX12_lotNow_25 : decode cX12_lotNow 25 = .ok (.irem, 1) := o112 ac_cX12_lotNow_16 9 rfl
theorem dX12_lotNow_26 : decode cX12_lotNow 26 = .ok (.ireturn, 1) := o172 ac_cX12_lotNow_16 10 rfl
def kb_cX12_lengthOf_0 : List Nat := [42, 180, 0, 58, 8, 42, 180, 0, 221, 104, 27, 96, 46, 172]
theorem ac_cX12_lengthOf_0 : AL cX12_lengthOf 0 kb_cX12_lengthOf_0 := AL.of (m := 14) (by decide +kernel)
theorem dX12_lengthOf_0 : decode cX12_lengthOf 0 = .ok (.aload_n 0, 1) := o42 ac_cX12_lengthOf_0 0 rfl
theorem dX12_lengthOf_1 : decode cX12_lengthOf 1 = .ok (.getfield 58, 3) := o180 ac_cX12_lengthOf_0 1 0 58 rfl
theorem dX12_lengthOf_4 : decode cX12_lengthOf 4 = .ok (.iconst 5, 1) := o8 ac_cX12_lengthOf_0 4 rfl
theorem dX12_lengthOf_5 : decode cX12_lengthOf 5 = .ok (.aload_n 0, 1) := o42 ac_cX12_lengthOf_0 5 rfl
theorem dX12_lengthOf_6 : decode cX12_lengthOf 6 = .ok (.getfield 221, 3) := o180 ac_cX12_lengthOf_0 6 0 221 rfl
theorem dX12_lengthOf_9 : decode cX12_lengthOf 9 = .ok (.imul, 1) := o104 ac_cX12_lengthOf_0 9 rfl
theorem dX12_lengthOf_10 : decode cX12_lengthOf 10 = .ok (.iload_n 1, 1) := o27 ac_cX12_lengthOf_0 10 rfl
theorem dX12_lengthOf_11 : decode cX12_lengthOf 11 = .ok (.iadd, 1) := o96 ac_cX12_lengthOf_0 11 rfl
theorem dX12_lengthOf_12 : decode cX12_lengthOf 12 = .ok (.iaload, 1) := o46 ac_cX12_lengthOf_0 12 rfl
theorem dX12_lengthOf_13 : decode cX12_lengthOf 13 = .ok (.ireturn, 1) := o172 ac_cX12_lengthOf_0 13 rfl
def kb_cX12_heightAt_0 : List Nat := [42, 180, 0, 61, 16, 8, 8, 42, 180, 0, 221, 104, 27, 96, 104, 28, 42, 27, 182, 1]
theorem ac_cX12_heightAt_0 : AL cX12_heightAt 0 kb_cX12_heightAt_0 := AL.of (m := 20) (by decide +kernel)
theorem dX12_heightAt_0 : decode cX12_heightAt 0 = .ok (.aload_n 0, 1) := o42 ac_cX12_heightAt_0 0 rfl
theorem dX12_heightAt_1 : decode cX12_heightAt 1 = .ok (.getfield 61, 3) := o180 ac_cX12_heightAt_0 1 0 61 rfl
theorem dX12_heightAt_4 : decode cX12_heightAt 4 = .ok (.bipush 8, 2) := o16p ac_cX12_heightAt_0 4 8 rfl rfl
theorem dX12_heightAt_6 : decode cX12_heightAt 6 = .ok (.iconst 5, 1) := o8 ac_cX12_heightAt_0 6 rfl
theorem dX12_heightAt_7 : decode cX12_heightAt 7 = .ok (.aload_n 0, 1) := o42 ac_cX12_heightAt_0 7 rfl
theorem dX12_heightAt_8 : decode cX12_heightAt 8 = .ok (.getfield 221, 3) := o180 ac_cX12_heightAt_0 8 0 221 rfl
theorem dX12_heightAt_11 : decode cX12_heightAt 11 = .ok (.imul, 1) := o104 ac_cX12_heightAt_0 11 rfl
theorem dX12_heightAt_12 : decode cX12_heightAt 12 = .ok (.iload_n 1, 1) := o27 ac_cX12_heightAt_0 12 rfl
theorem dX12_heightAt_13 : decode cX12_heightAt 13 = .ok (.iadd, 1) := o96 ac_cX12_heightAt_0 13 rfl
theorem dX12_heightAt_14 : decode cX12_heightAt 14 = .ok (.imul, 1) := o104 ac_cX12_heightAt_0 14 rfl
theorem dX12_heightAt_15 : decode cX12_heightAt 15 = .ok (.iload_n 2, 1) := o28 ac_cX12_heightAt_0 15 rfl
def kb_cX12_heightAt_16 : List Nat := [42, 27, 182, 1, 62, 112, 96, 46, 172]
theorem ac_cX12_heightAt_16 : AL cX12_heightAt 16 kb_cX12_heightAt_16 := AL.of (m := 9) (by decide +kernel)
theorem dX12_heightAt_16 : decode cX12_heightAt 16 = .ok (.aload_n 0, 1) := o42 ac_cX12_heightAt_16 0 rfl
theorem dX12_heightAt_17 : decode cX12_heightAt 17 = .ok (.iload_n 1, 1) := o27 ac_cX12_heightAt_16 1 rfl
theorem dX12_heightAt_18 : decode cX12_heightAt 18 = .ok (.invokevirtual 318, 3) := o182 ac_cX12_heightAt_16 2 1 62 rfl
theorem dX12_heightAt_21 : decode cX12_heightAt 21 = .ok (.irem, 1) := o112 ac_cX12_heightAt_16 5 rfl
theorem dX12_heightAt_22 : decode cX12_heightAt 22 = .ok (.iadd, 1) := o96 ac_cX12_heightAt_16 6 rfl
theorem dX12_heightAt_23 : decode cX12_heightAt 23 = .ok (.iaload, 1) := o46 ac_cX12_heightAt_16 7 rfl
theorem dX12_heightAt_24 : decode cX12_heightAt 24 = .ok (.ireturn, 1) := o172 ac_cX12_heightAt_16 8 rfl
theorem dX12_heightNow_10 : decode cX12_heightNow 10 = .ok (.aload_n 0, 1) := o42 ac_cX12_heightNow_0 10 rfl
theorem dX12_heightNow_11 : decode cX12_heightNow 11 = .ok (.getfield 110, 3) := o180 ac_cX12_heightNow_0 11 0 110 rfl
theorem dX12_heightNow_14 : decode cX12_heightNow 14 = .ok (.bipush 28, 2) := o16p ac_cX12_heightNow_0 14 28 rfl rfl
theorem dX12_heightNow_16 : decode cX12_heightNow 16 = .ok (.iaload, 1) := o46 ac_cX12_heightNow_16 0 rfl
theorem dX12_heightNow_17 : decode cX12_heightNow 17 = .ok (.ireturn, 1) := o172 ac_cX12_heightNow_16 1 rfl
def kb_cX12_heightNow_32 : List Nat := [42, 42, 180, 0, 110, 16, 26, 46, 42, 180, 0, 110, 16, 21, 46, 42, 180, 0, 110, 16]
theorem ac_cX12_heightNow_32 : AL cX12_heightNow 32 kb_cX12_heightNow_32 := AL.of (m := 20) (by decide +kernel)
theorem dX12_heightNow_32 : decode cX12_heightNow 32 = .ok (.aload_n 0, 1) := o42 ac_cX12_heightNow_32 0 rfl
theorem dX12_heightNow_33 : decode cX12_heightNow 33 = .ok (.aload_n 0, 1) := o42 ac_cX12_heightNow_32 1 rfl
theorem dX12_heightNow_34 : decode cX12_heightNow 34 = .ok (.getfield 110, 3) := o180 ac_cX12_heightNow_32 2 0 110 rfl
theorem dX12_heightNow_37 : decode cX12_heightNow 37 = .ok (.bipush 26, 2) := o16p ac_cX12_heightNow_32 5 26 rfl rfl
theorem dX12_heightNow_39 : decode cX12_heightNow 39 = .ok (.iaload, 1) := o46 ac_cX12_heightNow_32 7 rfl
theorem dX12_heightNow_40 : decode cX12_heightNow 40 = .ok (.aload_n 0, 1) := o42 ac_cX12_heightNow_32 8 rfl
theorem dX12_heightNow_41 : decode cX12_heightNow 41 = .ok (.getfield 110, 3) := o180 ac_cX12_heightNow_32 9 0 110 rfl
theorem dX12_heightNow_44 : decode cX12_heightNow 44 = .ok (.bipush 21, 2) := o16p ac_cX12_heightNow_32 12 21 rfl rfl
theorem dX12_heightNow_46 : decode cX12_heightNow 46 = .ok (.iaload, 1) := o46 ac_cX12_heightNow_32 14 rfl
theorem dX12_heightNow_47 : decode cX12_heightNow 47 = .ok (.aload_n 0, 1) := o42 ac_cX12_heightNow_32 15 rfl
theorem dX12_heightNow_48 : decode cX12_heightNow 48 = .ok (.getfield 110, 3) := o180 ac_cX12_heightNow_48 0 0 110 rfl
theorem dX12_heightNow_51 : decode cX12_heightNow 51 = .ok (.bipush 27, 2) := o16p ac_cX12_heightNow_48 3 27 rfl rfl
theorem dX12_heightNow_53 : decode cX12_heightNow 53 = .ok (.iaload, 1) := o46 ac_cX12_heightNow_48 5 rfl
theorem dX12_heightNow_54 : decode cX12_heightNow 54 = .ok (.isub, 1) := o100 ac_cX12_heightNow_48 6 rfl
theorem dX12_heightNow_55 : decode cX12_heightNow 55 = .ok (.invokevirtual 321, 3) := o182 ac_cX12_heightNow_48 7 1 65 rfl
def kb_cX12_looksAt_0 : List Nat := [42, 180, 0, 101, 3, 42, 180, 0, 46, 16, 7, 42, 180, 0, 221, 104, 27, 96, 46, 79]
theorem ac_cX12_looksAt_0 : AL cX12_looksAt 0 kb_cX12_looksAt_0 := AL.of (m := 20) (by decide +kernel)
theorem dX12_looksAt_0 : decode cX12_looksAt 0 = .ok (.aload_n 0, 1) := o42 ac_cX12_looksAt_0 0 rfl
theorem dX12_looksAt_1 : decode cX12_looksAt 1 = .ok (.getfield 101, 3) := o180 ac_cX12_looksAt_0 1 0 101 rfl
theorem dX12_looksAt_4 : decode cX12_looksAt 4 = .ok (.iconst 0, 1) := o3 ac_cX12_looksAt_0 4 rfl
theorem dX12_looksAt_5 : decode cX12_looksAt 5 = .ok (.aload_n 0, 1) := o42 ac_cX12_looksAt_0 5 rfl
theorem dX12_looksAt_6 : decode cX12_looksAt 6 = .ok (.getfield 46, 3) := o180 ac_cX12_looksAt_0 6 0 46 rfl
theorem dX12_looksAt_9 : decode cX12_looksAt 9 = .ok (.bipush 7, 2) := o16p ac_cX12_looksAt_0 9 7 rfl rfl
theorem dX12_looksAt_11 : decode cX12_looksAt 11 = .ok (.aload_n 0, 1) := o42 ac_cX12_looksAt_0 11 rfl
theorem dX12_looksAt_12 : decode cX12_looksAt 12 = .ok (.getfield 221, 3) := o180 ac_cX12_looksAt_0 12 0 221 rfl
theorem dX12_looksAt_15 : decode cX12_looksAt 15 = .ok (.imul, 1) := o104 ac_cX12_looksAt_0 15 rfl
def kb_cX12_looksAt_16 : List Nat := [27, 96, 46, 79, 42, 180, 0, 101, 4, 42, 180, 0, 49, 16, 7, 42, 180, 0, 221, 104]
theorem ac_cX12_looksAt_16 : AL cX12_looksAt 16 kb_cX12_looksAt_16 := AL.of (m := 20) (by decide +kernel)
theorem dX12_looksAt_16 : decode cX12_looksAt 16 = .ok (.iload_n 1, 1) := o27 ac_cX12_looksAt_16 0 rfl
theorem dX12_looksAt_17 : decode cX12_looksAt 17 = .ok (.iadd, 1) := o96 ac_cX12_looksAt_16 1 rfl
theorem dX12_looksAt_18 : decode cX12_looksAt 18 = .ok (.iaload, 1) := o46 ac_cX12_looksAt_16 2 rfl
theorem dX12_looksAt_19 : decode cX12_looksAt 19 = .ok (.iastore, 1) := o79 ac_cX12_looksAt_16 3 rfl
theorem dX12_looksAt_20 : decode cX12_looksAt 20 = .ok (.aload_n 0, 1) := o42 ac_cX12_looksAt_16 4 rfl
theorem dX12_looksAt_21 : decode cX12_looksAt 21 = .ok (.getfield 101, 3) := o180 ac_cX12_looksAt_16 5 0 101 rfl
theorem dX12_looksAt_24 : decode cX12_looksAt 24 = .ok (.iconst 1, 1) := o4 ac_cX12_looksAt_16 8 rfl
theorem dX12_looksAt_25 : decode cX12_looksAt 25 = .ok (.aload_n 0, 1) := o42 ac_cX12_looksAt_16 9 rfl
theorem dX12_looksAt_26 : decode cX12_looksAt 26 = .ok (.getfield 49, 3) := o180 ac_cX12_looksAt_16 10 0 49 rfl
theorem dX12_looksAt_29 : decode cX12_looksAt 29 = .ok (.bipush 7, 2) := o16p ac_cX12_looksAt_16 13 7 rfl rfl
theorem dX12_looksAt_31 : decode cX12_looksAt 31 = .ok (.aload_n 0, 1) := o42 ac_cX12_looksAt_16 15 rfl
def kb_cX12_looksAt_32 : List Nat := [180, 0, 221, 104, 27, 96, 46, 79, 42, 180, 0, 101, 5, 28, 79, 42, 180, 0, 101, 6]
theorem ac_cX12_looksAt_32 : AL cX12_looksAt 32 kb_cX12_looksAt_32 := AL.of (m := 20) (by decide +kernel)
theorem dX12_looksAt_32 : decode cX12_looksAt 32 = .ok (.getfield 221, 3) := o180 ac_cX12_looksAt_32 0 0 221 rfl
theorem dX12_looksAt_35 : decode cX12_looksAt 35 = .ok (.imul, 1) := o104 ac_cX12_looksAt_32 3 rfl
theorem dX12_looksAt_36 : decode cX12_looksAt 36 = .ok (.iload_n 1, 1) := o27 ac_cX12_looksAt_32 4 rfl
theorem dX12_looksAt_37 : decode cX12_looksAt 37 = .ok (.iadd, 1) := o96 ac_cX12_looksAt_32 5 rfl
theorem dX12_looksAt_38 : decode cX12_looksAt 38 = .ok (.iaload, 1) := o46 ac_cX12_looksAt_32 6 rfl
theorem dX12_looksAt_39 : decode cX12_looksAt 39 = .ok (.iastore, 1) := o79 ac_cX12_looksAt_32 7 rfl
theorem dX12_looksAt_40 : decode cX12_looksAt 40 = .ok (.aload_n 0, 1) := o42 ac_cX12_looksAt_32 8 rfl
theorem dX12_looksAt_41 : decode cX12_looksAt 41 = .ok (.getfield 101, 3) := o180 ac_cX12_looksAt_32 9 0 101 rfl
theorem dX12_looksAt_44 : decode cX12_looksAt 44 = .ok (.iconst 2, 1) := o5 ac_cX12_looksAt_32 12 rfl
theorem dX12_looksAt_45 : decode cX12_looksAt 45 = .ok (.iload_n 2, 1) := o28 ac_cX12_looksAt_32 13 rfl
theorem dX12_looksAt_46 : decode cX12_looksAt 46 = .ok (.iastore, 1) := o79 ac_cX12_looksAt_32 14 rfl
theorem dX12_looksAt_47 : decode cX12_looksAt 47 = .ok (.aload_n 0, 1) := o42 ac_cX12_looksAt_32 15 rfl
def kb_cX12_looksAt_48 : List Nat := [180, 0, 101, 6, 42, 180, 0, 110, 16, 21, 46, 79, 42, 180, 0, 101, 7, 42, 180, 0]
theorem ac_cX12_looksAt_48 : AL cX12_looksAt 48 kb_cX12_looksAt_48 := AL.of (m := 20) (by decide +kernel)
theorem dX12_looksAt_48 : decode cX12_looksAt 48 = .ok (.getfield 101, 3) := o180 ac_cX12_looksAt_48 0 0 101 rfl
theorem dX12_looksAt_51 : decode cX12_looksAt 51 = .ok (.iconst 3, 1) := o6 ac_cX12_looksAt_48 3 rfl
theorem dX12_looksAt_52 : decode cX12_looksAt 52 = .ok (.aload_n 0, 1) := o42 ac_cX12_looksAt_48 4 rfl
theorem dX12_looksAt_53 : decode cX12_looksAt 53 = .ok (.getfield 110, 3) := o180 ac_cX12_looksAt_48 5 0 110 rfl
theorem dX12_looksAt_56 : decode cX12_looksAt 56 = .ok (.bipush 21, 2) := o16p ac_cX12_looksAt_48 8 21 rfl rfl
theorem dX12_looksAt_58 : decode cX12_looksAt 58 = .ok (.iaload, 1) := o46 ac_cX12_looksAt_48 10 rfl
theorem dX12_looksAt_59 : decode cX12_looksAt 59 = .ok (.iastore, 1) := o79 ac_cX12_looksAt_48 11 rfl
theorem dX12_looksAt_60 : decode cX12_looksAt 60 = .ok (.aload_n 0, 1) := o42 ac_cX12_looksAt_48 12 rfl
theorem dX12_looksAt_61 : decode cX12_looksAt 61 = .ok (.getfield 101, 3) := o180 ac_cX12_looksAt_48 13 0 101 rfl
def kb_cX12_looksAt_64 : List Nat := [7, 42, 180, 0, 110, 16, 22, 46, 79, 42, 180, 0, 101, 8, 29, 79, 42, 180, 0, 101]
theorem ac_cX12_looksAt_64 : AL cX12_looksAt 64 kb_cX12_looksAt_64 := AL.of (m := 20) (by decide +kernel)
theorem dX12_looksAt_64 : decode cX12_looksAt 64 = .ok (.iconst 4, 1) := o7 ac_cX12_looksAt_64 0 rfl
theorem dX12_looksAt_65 : decode cX12_looksAt 65 = .ok (.aload_n 0, 1) := o42 ac_cX12_looksAt_64 1 rfl
theorem dX12_looksAt_66 : decode cX12_looksAt 66 = .ok (.getfield 110, 3) := o180 ac_cX12_looksAt_64 2 0 110 rfl
theorem dX12_looksAt_69 : decode cX12_looksAt 69 = .ok (.bipush 22, 2) := o16p ac_cX12_looksAt_64 5 22 rfl rfl
theorem dX12_looksAt_71 : decode cX12_looksAt 71 = .ok (.iaload, 1) := o46 ac_cX12_looksAt_64 7 rfl
theorem dX12_looksAt_72 : decode cX12_looksAt 72 = .ok (.iastore, 1) := o79 ac_cX12_looksAt_64 8 rfl
theorem dX12_looksAt_73 : decode cX12_looksAt 73 = .ok (.aload_n 0, 1) := o42 ac_cX12_looksAt_64 9 rfl
theorem dX12_looksAt_74 : decode cX12_looksAt 74 = .ok (.getfield 101, 3) := o180 ac_cX12_looksAt_64 10 0 101 rfl
theorem dX12_looksAt_77 : decode cX12_looksAt 77 = .ok (.iconst 5, 1) := o8 ac_cX12_looksAt_64 13 rfl
theorem dX12_looksAt_78 : decode cX12_looksAt 78 = .ok (.iload_n 3, 1) := o29 ac_cX12_looksAt_64 14 rfl
theorem dX12_looksAt_79 : decode cX12_looksAt 79 = .ok (.iastore, 1) := o79 ac_cX12_looksAt_64 15 rfl
def kb_cX12_looksAt_80 : List Nat := [42, 180, 0, 101, 16, 6, 27, 79, 42, 180, 0, 101, 16, 7, 42, 180, 0, 110, 16, 24]
theorem ac_cX12_looksAt_80 : AL cX12_looksAt 80 kb_cX12_looksAt_80 := AL.of (m := 20) (by decide +kernel)
theorem dX12_looksAt_80 : decode cX12_looksAt 80 = .ok (.aload_n 0, 1) := o42 ac_cX12_looksAt_80 0 rfl
theorem dX12_looksAt_81 : decode cX12_looksAt 81 = .ok (.getfield 101, 3) := o180 ac_cX12_looksAt_80 1 0 101 rfl
theorem dX12_looksAt_84 : decode cX12_looksAt 84 = .ok (.bipush 6, 2) := o16p ac_cX12_looksAt_80 4 6 rfl rfl
theorem dX12_looksAt_86 : decode cX12_looksAt 86 = .ok (.iload_n 1, 1) := o27 ac_cX12_looksAt_80 6 rfl
theorem dX12_looksAt_87 : decode cX12_looksAt 87 = .ok (.iastore, 1) := o79 ac_cX12_looksAt_80 7 rfl
theorem dX12_looksAt_88 : decode cX12_looksAt 88 = .ok (.aload_n 0, 1) := o42 ac_cX12_looksAt_80 8 rfl
theorem dX12_looksAt_89 : decode cX12_looksAt 89 = .ok (.getfield 101, 3) := o180 ac_cX12_looksAt_80 9 0 101 rfl
theorem dX12_looksAt_92 : decode cX12_looksAt 92 = .ok (.bipush 7, 2) := o16p ac_cX12_looksAt_80 12 7 rfl rfl
theorem dX12_looksAt_94 : decode cX12_looksAt 94 = .ok (.aload_n 0, 1) := o42 ac_cX12_looksAt_80 14 rfl
theorem dX12_looksAt_95 : decode cX12_looksAt 95 = .ok (.getfield 110, 3) := o180 ac_cX12_looksAt_80 15 0 110 rfl
def kb_cX12_looksAt_96 : List Nat := [0, 110, 16, 24, 46, 79, 42, 180, 0, 101, 16, 8, 42, 180, 0, 110, 16, 21, 46, 5]
theorem ac_cX12_looksAt_96 : AL cX12_looksAt 96 kb_cX12_looksAt_96 := AL.of (m := 20) (by decide +kernel)
theorem dX12_looksAt_98 : decode cX12_looksAt 98 = .ok (.bipush 24, 2) := o16p ac_cX12_looksAt_96 2 24 rfl rfl
theorem dX12_looksAt_100 : decode cX12_looksAt 100 = .ok (.iaload, 1) := o46 ac_cX12_looksAt_96 4 rfl
theorem dX12_looksAt_101 : decode cX12_looksAt 101 = .ok (.iastore, 1) := o79 ac_cX12_looksAt_96 5 rfl
theorem dX12_looksAt_102 : decode cX12_looksAt 102 = .ok (.aload_n 0, 1) := o42 ac_cX12_looksAt_96 6 rfl
theorem dX12_looksAt_103 : decode cX12_looksAt 103 = .ok (.getfield 101, 3) := o180 ac_cX12_looksAt_96 7 0 101 rfl
theorem dX12_looksAt_106 : decode cX12_looksAt 106 = .ok (.bipush 8, 2) := o16p ac_cX12_looksAt_96 10 8 rfl rfl
theorem dX12_looksAt_108 : decode cX12_looksAt 108 = .ok (.aload_n 0, 1) := o42 ac_cX12_looksAt_96 12 rfl
theorem dX12_looksAt_109 : decode cX12_looksAt 109 = .ok (.getfield 110, 3) := o180 ac_cX12_looksAt_96 13 0 110 rfl
def kb_cX12_looksAt_112 : List Nat := [16, 21, 46, 5, 112, 79, 177]
theorem ac_cX12_looksAt_112 : AL cX12_looksAt 112 kb_cX12_looksAt_112 := AL.of (m := 7) (by decide +kernel)
theorem dX12_looksAt_112 : decode cX12_looksAt 112 = .ok (.bipush 21, 2) := o16p ac_cX12_looksAt_112 0 21 rfl rfl
theorem dX12_looksAt_114 : decode cX12_looksAt 114 = .ok (.iaload, 1) := o46 ac_cX12_looksAt_112 2 rfl
theorem dX12_looksAt_115 : decode cX12_looksAt 115 = .ok (.iconst 2, 1) := o5 ac_cX12_looksAt_112 3 rfl
theorem dX12_looksAt_116 : decode cX12_looksAt 116 = .ok (.irem, 1) := o112 ac_cX12_looksAt_112 4 rfl
theorem dX12_looksAt_117 : decode cX12_looksAt 117 = .ok (.iastore, 1) := o79 ac_cX12_looksAt_112 5 rfl
theorem dX12_looksAt_118 : decode cX12_looksAt 118 = .ok (.return_, 1) := o177 ac_cX12_looksAt_112 6 rfl
def kb_cX12_termOf_0 : List Nat := [3, 62, 27, 54, 4, 21, 4, 28, 162, 0, 157, 42, 180, 0, 92, 21, 4, 46, 54, 5]
theorem ac_cX12_termOf_0 : AL cX12_termOf 0 kb_cX12_termOf_0 := AL.of (m := 20) (by decide +kernel)
theorem dX12_termOf_0 : decode cX12_termOf 0 = .ok (.iconst 0, 1) := o3 ac_cX12_termOf_0 0 rfl
theorem dX12_termOf_1 : decode cX12_termOf 1 = .ok (.istore_n 3, 1) := o62 ac_cX12_termOf_0 1 rfl
theorem dX12_termOf_2 : decode cX12_termOf 2 = .ok (.iload_n 1, 1) := o27 ac_cX12_termOf_0 2 rfl
theorem dX12_termOf_3 : decode cX12_termOf 3 = .ok (.istore 4, 2) := o54 ac_cX12_termOf_0 3 4 rfl
theorem dX12_termOf_5 : decode cX12_termOf 5 = .ok (.iload 4, 2) := o21 ac_cX12_termOf_0 5 4 rfl
theorem dX12_termOf_7 : decode cX12_termOf 7 = .ok (.iload_n 2, 1) := o28 ac_cX12_termOf_0 7 rfl
theorem dX12_termOf_8 : decode cX12_termOf 8 = .ok (.if_icmp .ge 157, 3) := o162p ac_cX12_termOf_0 8 0 157 rfl rfl
theorem dX12_termOf_11 : decode cX12_termOf 11 = .ok (.aload_n 0, 1) := o42 ac_cX12_termOf_0 11 rfl
theorem dX12_termOf_12 : decode cX12_termOf 12 = .ok (.getfield 92, 3) := o180 ac_cX12_termOf_0 12 0 92 rfl
theorem dX12_termOf_15 : decode cX12_termOf 15 = .ok (.iload 4, 2) := o21 ac_cX12_termOf_0 15 4 rfl
def kb_cX12_termOf_16 : List Nat := [4, 46, 54, 5, 21, 5, 5, 162, 0, 42, 42, 180, 0, 104, 29, 21, 5, 154, 0, 13]
theorem ac_cX12_termOf_16 : AL cX12_termOf 16 kb_cX12_termOf_16 := AL.of (m := 20) (by decide +kernel)
theorem dX12_termOf_17 : decode cX12_termOf 17 = .ok (.iaload, 1) := o46 ac_cX12_termOf_16 1 rfl
theorem dX12_termOf_18 : decode cX12_termOf 18 = .ok (.istore 5, 2) := o54 ac_cX12_termOf_16 2 5 rfl
theorem dX12_termOf_20 : decode cX12_termOf 20 = .ok (.iload 5, 2) := o21 ac_cX12_termOf_16 4 5 rfl
theorem dX12_termOf_22 : decode cX12_termOf 22 = .ok (.iconst 2, 1) := o5 ac_cX12_termOf_16 6 rfl
theorem dX12_termOf_23 : decode cX12_termOf 23 = .ok (.if_icmp .ge 42, 3) := o162p ac_cX12_termOf_16 7 0 42 rfl rfl
theorem dX12_termOf_26 : decode cX12_termOf 26 = .ok (.aload_n 0, 1) := o42 ac_cX12_termOf_16 10 rfl
theorem dX12_termOf_27 : decode cX12_termOf 27 = .ok (.getfield 104, 3) := o180 ac_cX12_termOf_16 11 0 104 rfl
theorem dX12_termOf_30 : decode cX12_termOf 30 = .ok (.iload_n 3, 1) := o29 ac_cX12_termOf_16 14 rfl
theorem dX12_termOf_31 : decode cX12_termOf 31 = .ok (.iload 5, 2) := o21 ac_cX12_termOf_16 15 5 rfl
def kb_cX12_termOf_32 : List Nat := [5, 154, 0, 13, 42, 180, 0, 95, 21, 4, 46, 167, 0, 15, 42, 180, 0, 101, 42, 180]
theorem ac_cX12_termOf_32 : AL cX12_termOf 32 kb_cX12_termOf_32 := AL.of (m := 20) (by decide +kernel)
theorem dX12_termOf_33 : decode cX12_termOf 33 = .ok (.ifCond .ne 13, 3) := o154p ac_cX12_termOf_32 1 0 13 rfl rfl
theorem dX12_termOf_36 : decode cX12_termOf 36 = .ok (.aload_n 0, 1) := o42 ac_cX12_termOf_32 4 rfl
theorem dX12_termOf_37 : decode cX12_termOf 37 = .ok (.getfield 95, 3) := o180 ac_cX12_termOf_32 5 0 95 rfl
theorem dX12_termOf_40 : decode cX12_termOf 40 = .ok (.iload 4, 2) := o21 ac_cX12_termOf_32 8 4 rfl
theorem dX12_termOf_42 : decode cX12_termOf 42 = .ok (.iaload, 1) := o46 ac_cX12_termOf_32 10 rfl
theorem dX12_termOf_43 : decode cX12_termOf 43 = .ok (.goto 15, 3) := o167p ac_cX12_termOf_32 11 0 15 rfl rfl
theorem dX12_termOf_46 : decode cX12_termOf 46 = .ok (.aload_n 0, 1) := o42 ac_cX12_termOf_32 14 rfl
theorem dX12_termOf_47 : decode cX12_termOf 47 = .ok (.getfield 101, 3) := o180 ac_cX12_termOf_32 15 0 101 rfl
def kb_cX12_termOf_48 : List Nat := [0, 101, 42, 180, 0, 95, 21, 4, 46, 46, 79, 132, 3, 1, 167, 0, 97, 132, 3, 255]
theorem ac_cX12_termOf_48 : AL cX12_termOf 48 kb_cX12_termOf_48 := AL.of (m := 20) (by decide +kernel)
theorem dX12_termOf_50 : decode cX12_termOf 50 = .ok (.aload_n 0, 1) := o42 ac_cX12_termOf_48 2 rfl
theorem dX12_termOf_51 : decode cX12_termOf 51 = .ok (.getfield 95, 3) := o180 ac_cX12_termOf_48 3 0 95 rfl
theorem dX12_termOf_54 : decode cX12_termOf 54 = .ok (.iload 4, 2) := o21 ac_cX12_termOf_48 6 4 rfl
theorem dX12_termOf_56 : decode cX12_termOf 56 = .ok (.iaload, 1) := o46 ac_cX12_termOf_48 8 rfl
theorem dX12_termOf_57 : decode cX12_termOf 57 = .ok (.iaload, 1) := o46 ac_cX12_termOf_48 9 rfl
theorem dX12_termOf_58 : decode cX12_termOf 58 = .ok (.iastore, 1) := o79 ac_cX12_termOf_48 10 rfl
theorem dX12_termOf_59 : decode cX12_termOf 59 = .ok (.iinc 3 1, 3) := o132p ac_cX12_termOf_48 11 3 1 rfl rfl
theorem dX12_termOf_62 : decode cX12_termOf 62 = .ok (.goto 97, 3) := o167p ac_cX12_termOf_48 14 0 97 rfl rfl
def kb_cX12_termOf_64 : List Nat := [97, 132, 3, 255, 42, 180, 0, 104, 29, 4, 100, 46, 54, 6, 42, 180, 0, 104, 29, 46]
theorem ac_cX12_termOf_64 : AL cX12_termOf 64 kb_cX12_termOf_64 := AL.of (m := 20) (by decide +kernel)
theorem dX12_termOf_65 : decode cX12_termOf 65 = .ok (.iinc 3 (-1), 3) := o132n ac_cX12_termOf_64 1 3 255 0 rfl rfl rfl
theorem dX12_termOf_68 : decode cX12_termOf 68 = .ok (.aload_n 0, 1) := o42 ac_cX12_termOf_64 4 rfl
theorem dX12_termOf_69 : decode cX12_termOf 69 = .ok (.getfield 104, 3) := o180 ac_cX12_termOf_64 5 0 104 rfl
theorem dX12_termOf_72 : decode cX12_termOf 72 = .ok (.iload_n 3, 1) := o29 ac_cX12_termOf_64 8 rfl
theorem dX12_termOf_73 : decode cX12_termOf 73 = .ok (.iconst 1, 1) := o4 ac_cX12_termOf_64 9 rfl
theorem dX12_termOf_74 : decode cX12_termOf 74 = .ok (.isub, 1) := o100 ac_cX12_termOf_64 10 rfl
theorem dX12_termOf_75 : decode cX12_termOf 75 = .ok (.iaload, 1) := o46 ac_cX12_termOf_64 11 rfl
theorem dX12_termOf_76 : decode cX12_termOf 76 = .ok (.istore 6, 2) := o54 ac_cX12_termOf_64 12 6 rfl
theorem dX12_termOf_78 : decode cX12_termOf 78 = .ok (.aload_n 0, 1) := o42 ac_cX12_termOf_64 14 rfl
theorem dX12_termOf_79 : decode cX12_termOf 79 = .ok (.getfield 104, 3) := o180 ac_cX12_termOf_64 15 0 104 rfl
def kb_cX12_termOf_80 : List Nat := [0, 104, 29, 46, 54, 7, 21, 5, 8, 160, 0, 15, 21, 7, 154, 0, 10, 42, 4, 181]
theorem ac_cX12_termOf_80 : AL cX12_termOf 80 kb_cX12_termOf_80 := AL.of (m := 20) (by decide +kernel)
theorem dX12_termOf_82 : decode cX12_termOf 82 = .ok (.iload_n 3, 1) := o29 ac_cX12_termOf_80 2 rfl
theorem dX12_termOf_83 : decode cX12_termOf 83 = .ok (.iaload, 1) := o46 ac_cX12_termOf_80 3 rfl
theorem dX12_termOf_84 : decode cX12_termOf 84 = .ok (.istore 7, 2) := o54 ac_cX12_termOf_80 4 7 rfl
theorem dX12_termOf_86 : decode cX12_termOf 86 = .ok (.iload 5, 2) := o21 ac_cX12_termOf_80 6 5 rfl
theorem dX12_termOf_88 : decode cX12_termOf 88 = .ok (.iconst 5, 1) := o8 ac_cX12_termOf_80 8 rfl
theorem dX12_termOf_89 : decode cX12_termOf 89 = .ok (.if_icmp .ne 15, 3) := o160p ac_cX12_termOf_80 9 0 15 rfl rfl
theorem dX12_termOf_92 : decode cX12_termOf 92 = .ok (.iload 7, 2) := o21 ac_cX12_termOf_80 12 7 rfl
theorem dX12_termOf_94 : decode cX12_termOf 94 = .ok (.ifCond .ne 10, 3) := o154p ac_cX12_termOf_80 14 0 10 rfl rfl
def kb_cX12_termOf_96 : List Nat := [10, 42, 4, 181, 1, 41, 3, 172, 42, 180, 0, 104, 29, 4, 100, 21, 5, 5, 160, 0]
theorem ac_cX12_termOf_96 : AL cX12_termOf 96 kb_cX12_termOf_96 := AL.of (m := 20) (by decide +kernel)
theorem dX12_termOf_97 : decode cX12_termOf 97 = .ok (.aload_n 0, 1) := o42 ac_cX12_termOf_96 1 rfl
theorem dX12_termOf_98 : decode cX12_termOf 98 = .ok (.iconst 1, 1) := o4 ac_cX12_termOf_96 2 rfl
theorem dX12_termOf_99 : decode cX12_termOf 99 = .ok (.putfield 297, 3) := o181 ac_cX12_termOf_96 3 1 41 rfl
theorem dX12_termOf_102 : decode cX12_termOf 102 = .ok (.iconst 0, 1) := o3 ac_cX12_termOf_96 6 rfl
theorem dX12_termOf_103 : decode cX12_termOf 103 = .ok (.ireturn, 1) := o172 ac_cX12_termOf_96 7 rfl
theorem dX12_termOf_104 : decode cX12_termOf 104 = .ok (.aload_n 0, 1) := o42 ac_cX12_termOf_96 8 rfl
theorem dX12_termOf_105 : decode cX12_termOf 105 = .ok (.getfield 104, 3) := o180 ac_cX12_termOf_96 9 0 104 rfl
theorem dX12_termOf_108 : decode cX12_termOf 108 = .ok (.iload_n 3, 1) := o29 ac_cX12_termOf_96 12 rfl
theorem dX12_termOf_109 : decode cX12_termOf 109 = .ok (.iconst 1, 1) := o4 ac_cX12_termOf_96 13 rfl
theorem dX12_termOf_110 : decode cX12_termOf 110 = .ok (.isub, 1) := o100 ac_cX12_termOf_96 14 rfl
theorem dX12_termOf_111 : decode cX12_termOf 111 = .ok (.iload 5, 2) := o21 ac_cX12_termOf_96 15 5 rfl
def kb_cX12_termOf_112 : List Nat := [5, 5, 160, 0, 11, 21, 6, 21, 7, 96, 167, 0, 36, 21, 5, 6, 160, 0, 11, 21]
theorem ac_cX12_termOf_112 : AL cX12_termOf 112 kb_cX12_termOf_112 := AL.of (m := 20) (by decide +kernel)
theorem dX12_termOf_113 : decode cX12_termOf 113 = .ok (.iconst 2, 1) := o5 ac_cX12_termOf_112 1 rfl
theorem dX12_termOf_114 : decode cX12_termOf 114 = .ok (.if_icmp .ne 11, 3) := o160p ac_cX12_termOf_112 2 0 11 rfl rfl
theorem dX12_termOf_117 : decode cX12_termOf 117 = .ok (.iload 6, 2) := o21 ac_cX12_termOf_112 5 6 rfl
theorem dX12_termOf_119 : decode cX12_termOf 119 = .ok (.iload 7, 2) := o21 ac_cX12_termOf_112 7 7 rfl
theorem dX12_termOf_121 : decode cX12_termOf 121 = .ok (.iadd, 1) := o96 ac_cX12_termOf_112 9 rfl
theorem dX12_termOf_122 : decode cX12_termOf 122 = .ok (.goto 36, 3) := o167p ac_cX12_termOf_112 10 0 36 rfl rfl
theorem dX12_termOf_125 : decode cX12_termOf 125 = .ok (.iload 5, 2) := o21 ac_cX12_termOf_112 13 5 rfl
theorem dX12_termOf_127 : decode cX12_termOf 127 = .ok (.iconst 3, 1) := o6 ac_cX12_termOf_112 15 rfl
def kb_cX12_termOf_128 : List Nat := [160, 0, 11, 21, 6, 21, 7, 100, 167, 0, 22, 21, 5, 7, 160, 0, 11, 21, 6, 21]
theorem ac_cX12_termOf_128 : AL cX12_termOf 128 kb_cX12_termOf_128 := AL.of (m := 20) (by decide +kernel)
theorem dX12_termOf_128 : decode cX12_termOf 128 = .ok (.if_icmp .ne 11, 3) := o160p ac_cX12_termOf_128 0 0 11 rfl rfl
theorem dX12_termOf_131 : decode cX12_termOf 131 = .ok (.iload 6, 2) := o21 ac_cX12_termOf_128 3 6 rfl
theorem dX12_termOf_133 : decode cX12_termOf 133 = .ok (.iload 7, 2) := o21 ac_cX12_termOf_128 5 7 rfl
theorem dX12_termOf_135 : decode cX12_termOf 135 = .ok (.isub, 1) := o100 ac_cX12_termOf_128 7 rfl
theorem dX12_termOf_136 : decode cX12_termOf 136 = .ok (.goto 22, 3) := o167p ac_cX12_termOf_128 8 0 22 rfl rfl
theorem dX12_termOf_139 : decode cX12_termOf 139 = .ok (.iload 5, 2) := o21 ac_cX12_termOf_128 11 5 rfl
theorem dX12_termOf_141 : decode cX12_termOf 141 = .ok (.iconst 4, 1) := o7 ac_cX12_termOf_128 13 rfl
theorem dX12_termOf_142 : decode cX12_termOf 142 = .ok (.if_icmp .ne 11, 3) := o160p ac_cX12_termOf_128 14 0 11 rfl rfl
def kb_cX12_termOf_144 : List Nat := [11, 21, 6, 21, 7, 104, 167, 0, 8, 21, 6, 21, 7, 108, 79, 132, 4, 1, 167, 255]
theorem ac_cX12_termOf_144 : AL cX12_termOf 144 kb_cX12_termOf_144 := AL.of (m := 20) (by decide +kernel)
theorem dX12_termOf_145 : decode cX12_termOf 145 = .ok (.iload 6, 2) := o21 ac_cX12_termOf_144 1 6 rfl
theorem dX12_termOf_147 : decode cX12_termOf 147 = .ok (.iload 7, 2) := o21 ac_cX12_termOf_144 3 7 rfl
theorem dX12_termOf_149 : decode cX12_termOf 149 = .ok (.imul, 1) := o104 ac_cX12_termOf_144 5 rfl
theorem dX12_termOf_150 : decode cX12_termOf 150 = .ok (.goto 8, 3) := o167p ac_cX12_termOf_144 6 0 8 rfl rfl
theorem dX12_termOf_153 : decode cX12_termOf 153 = .ok (.iload 6, 2) := o21 ac_cX12_termOf_144 9 6 rfl
theorem dX12_termOf_155 : decode cX12_termOf 155 = .ok (.iload 7, 2) := o21 ac_cX12_termOf_144 11 7 rfl
theorem dX12_termOf_157 : decode cX12_termOf 157 = .ok (.idiv, 1) := o108 ac_cX12_termOf_144 13 rfl
theorem dX12_termOf_158 : decode cX12_termOf 158 = .ok (.iastore, 1) := o79 ac_cX12_termOf_144 14 rfl
theorem dX12_termOf_159 : decode cX12_termOf 159 = .ok (.iinc 4 1, 3) := o132p ac_cX12_termOf_144 15 4 1 rfl rfl
def kb_cX12_termOf_160 : List Nat := [4, 1, 167, 255, 99, 42, 180, 0, 104, 3, 46, 172]
theorem ac_cX12_termOf_160 : AL cX12_termOf 160 kb_cX12_termOf_160 := AL.of (m := 12) (by decide +kernel)
theorem dX12_termOf_162 : decode cX12_termOf 162 = .ok (.goto (-157), 3) := o167n ac_cX12_termOf_160 2 255 99 156 rfl rfl rfl
theorem dX12_termOf_165 : decode cX12_termOf 165 = .ok (.aload_n 0, 1) := o42 ac_cX12_termOf_160 5 rfl
theorem dX12_termOf_166 : decode cX12_termOf 166 = .ok (.getfield 104, 3) := o180 ac_cX12_termOf_160 6 0 104 rfl
theorem dX12_termOf_169 : decode cX12_termOf 169 = .ok (.iconst 0, 1) := o3 ac_cX12_termOf_160 9 rfl
theorem dX12_termOf_170 : decode cX12_termOf 170 = .ok (.iaload, 1) := o46 ac_cX12_termOf_160 10 rfl
theorem dX12_termOf_171 : decode cX12_termOf 171 = .ok (.ireturn, 1) := o172 ac_cX12_termOf_160 11 rfl
def kb_cX12_lawTells_0 : List Nat := [7, 42, 180, 0, 221, 104, 27, 96, 62, 42, 180, 0, 70, 29, 46, 42, 180, 0, 73, 29]
theorem ac_cX12_lawTells_0 : AL cX12_lawTells 0 kb_cX12_lawTells_0 := AL.of (m := 20) (by decide +kernel)
theorem dX12_lawTells_0 : decode cX12_lawTells 0 = .ok (.iconst 4, 1) := o7 ac_cX12_lawTells_0 0 rfl
theorem dX12_lawTells_1 : decode cX12_lawTells 1 = .ok (.aload_n 0, 1) := o42 ac_cX12_lawTells_0 1 rfl
theorem dX12_lawTells_2 : decode cX12_lawTells 2 = .ok (.getfield 221, 3) := o180 ac_cX12_lawTells_0 2 0 221 rfl
theorem dX12_lawTells_5 : decode cX12_lawTells 5 = .ok (.imul, 1) := o104 ac_cX12_lawTells_0 5 rfl
theorem dX12_lawTells_6 : decode cX12_lawTells 6 = .ok (.iload_n 1, 1) := o27 ac_cX12_lawTells_0 6 rfl
theorem dX12_lawTells_7 : decode cX12_lawTells 7 = .ok (.iadd, 1) := o96 ac_cX12_lawTells_0 7 rfl
theorem dX12_lawTells_8 : decode cX12_lawTells 8 = .ok (.istore_n 3, 1) := o62 ac_cX12_lawTells_0 8 rfl
theorem dX12_lawTells_9 : decode cX12_lawTells 9 = .ok (.aload_n 0, 1) := o42 ac_cX12_lawTells_0 9 rfl
theorem dX12_lawTells_10 : decode cX12_lawTells 10 = .ok (.getfield 70, 3) := o180 ac_cX12_lawTells_0 10 0 70 rfl
theorem dX12_lawTells_13 : decode cX12_lawTells 13 = .ok (.iload_n 3, 1) := o29 ac_cX12_lawTells_0 13 rfl
theorem dX12_lawTells_14 : decode cX12_lawTells 14 = .ok (.iaload, 1) := o46 ac_cX12_lawTells_0 14 rfl
theorem dX12_lawTells_15 : decode cX12_lawTells 15 = .ok (.aload_n 0, 1) := o42 ac_cX12_lawTells_0 15 rfl
def kb_cX12_lawTells_16 : List Nat := [180, 0, 73, 29, 46, 160, 0, 5, 28, 172, 42, 3, 181, 1, 41, 42, 180, 0, 70, 29]
theorem ac_cX12_lawTells_16 : AL cX12_lawTells 16 kb_cX12_lawTells_16 := AL.of (m := 20) (by decide +kernel)
theorem dX12_lawTells_16 : decode cX12_lawTells 16 = .ok (.getfield 73, 3) := o180 ac_cX12_lawTells_16 0 0 73 rfl
theorem dX12_lawTells_19 : decode cX12_lawTells 19 = .ok (.iload_n 3, 1) := o29 ac_cX12_lawTells_16 3 rfl
theorem dX12_lawTells_20 : decode cX12_lawTells 20 = .ok (.iaload, 1) := o46 ac_cX12_lawTells_16 4 rfl
theorem dX12_lawTells_21 : decode cX12_lawTells 21 = .ok (.if_icmp .ne 5, 3) := o160p ac_cX12_lawTells_16 5 0 5 rfl rfl
theorem dX12_lawTells_24 : decode cX12_lawTells 24 = .ok (.iload_n 2, 1) := o28 ac_cX12_lawTells_16 8 rfl
theorem dX12_lawTells_25 : decode cX12_lawTells 25 = .ok (.ireturn, 1) := o172 ac_cX12_lawTells_16 9 rfl
theorem dX12_lawTells_26 : decode cX12_lawTells 26 = .ok (.aload_n 0, 1) := o42 ac_cX12_lawTells_16 10 rfl
theorem dX12_lawTells_27 : decode cX12_lawTells 27 = .ok (.iconst 0, 1) := o3 ac_cX12_lawTells_16 11 rfl
theorem dX12_lawTells_28 : decode cX12_lawTells 28 = .ok (.putfield 297, 3) := o181 ac_cX12_lawTells_16 12 1 41 rfl
theorem dX12_lawTells_31 : decode cX12_lawTells 31 = .ok (.aload_n 0, 1) := o42 ac_cX12_lawTells_16 15 rfl
def kb_cX12_lawTells_32 : List Nat := [180, 0, 70, 29, 46, 54, 4, 21, 4, 42, 180, 0, 73, 29, 46, 162, 0, 112, 42, 180]
theorem ac_cX12_lawTells_32 : AL cX12_lawTells 32 kb_cX12_lawTells_32 := AL.of (m := 20) (by decide +kernel)
theorem dX12_lawTells_32 : decode cX12_lawTells 32 = .ok (.getfield 70, 3) := o180 ac_cX12_lawTells_32 0 0 70 rfl
theorem dX12_lawTells_35 : decode cX12_lawTells 35 = .ok (.iload_n 3, 1) := o29 ac_cX12_lawTells_32 3 rfl
theorem dX12_lawTells_36 : decode cX12_lawTells 36 = .ok (.iaload, 1) := o46 ac_cX12_lawTells_32 4 rfl
theorem dX12_lawTells_37 : decode cX12_lawTells 37 = .ok (.istore 4, 2) := o54 ac_cX12_lawTells_32 5 4 rfl
theorem dX12_lawTells_39 : decode cX12_lawTells 39 = .ok (.iload 4, 2) := o21 ac_cX12_lawTells_32 7 4 rfl
theorem dX12_lawTells_41 : decode cX12_lawTells 41 = .ok (.aload_n 0, 1) := o42 ac_cX12_lawTells_32 9 rfl
theorem dX12_lawTells_42 : decode cX12_lawTells 42 = .ok (.getfield 73, 3) := o180 ac_cX12_lawTells_32 10 0 73 rfl
theorem dX12_lawTells_45 : decode cX12_lawTells 45 = .ok (.iload_n 3, 1) := o29 ac_cX12_lawTells_32 13 rfl
theorem dX12_lawTells_46 : decode cX12_lawTells 46 = .ok (.iaload, 1) := o46 ac_cX12_lawTells_32 14 rfl
theorem dX12_lawTells_47 : decode cX12_lawTells 47 = .ok (.if_icmp .ge 112, 3) := o162p ac_cX12_lawTells_32 15 0 112 rfl rfl
def kb_cX12_lawTells_48 : List Nat := [0, 112, 42, 180, 0, 76, 21, 4, 51, 153, 0, 62, 42, 42, 180, 0, 80, 21, 4, 46]
theorem ac_cX12_lawTells_48 : AL cX12_lawTells 48 kb_cX12_lawTells_48 := AL.of (m := 20) (by decide +kernel)
theorem dX12_lawTells_50 : decode cX12_lawTells 50 = .ok (.aload_n 0, 1) := o42 ac_cX12_lawTells_48 2 rfl
theorem dX12_lawTells_51 : decode cX12_lawTells 51 = .ok (.getfield 76, 3) := o180 ac_cX12_lawTells_48 3 0 76 rfl
theorem dX12_lawTells_54 : decode cX12_lawTells 54 = .ok (.iload 4, 2) := o21 ac_cX12_lawTells_48 6 4 rfl
theorem dX12_lawTells_56 : decode cX12_lawTells 56 = .ok (.baload, 1) := o51 ac_cX12_lawTells_48 8 rfl
theorem dX12_lawTells_57 : decode cX12_lawTells 57 = .ok (.ifCond .eq 62, 3) := o153p ac_cX12_lawTells_48 9 0 62 rfl rfl
theorem dX12_lawTells_60 : decode cX12_lawTells 60 = .ok (.aload_n 0, 1) := o42 ac_cX12_lawTells_48 12 rfl
theorem dX12_lawTells_61 : decode cX12_lawTells 61 = .ok (.aload_n 0, 1) := o42 ac_cX12_lawTells_48 13 rfl
theorem dX12_lawTells_62 : decode cX12_lawTells 62 = .ok (.getfield 80, 3) := o180 ac_cX12_lawTells_48 14 0 80 rfl
def kb_cX12_lawTells_64 : List Nat := [80, 21, 4, 46, 42, 180, 0, 83, 21, 4, 46, 182, 1, 72, 54, 5, 42, 42, 180, 0]
theorem ac_cX12_lawTells_64 : AL cX12_lawTells 64 kb_cX12_lawTells_64 := AL.of (m := 20) (by decide +kernel)
theorem dX12_lawTells_65 : decode cX12_lawTells 65 = .ok (.iload 4, 2) := o21 ac_cX12_lawTells_64 1 4 rfl
theorem dX12_lawTells_67 : decode cX12_lawTells 67 = .ok (.iaload, 1) := o46 ac_cX12_lawTells_64 3 rfl
theorem dX12_lawTells_68 : decode cX12_lawTells 68 = .ok (.aload_n 0, 1) := o42 ac_cX12_lawTells_64 4 rfl
theorem dX12_lawTells_69 : decode cX12_lawTells 69 = .ok (.getfield 83, 3) := o180 ac_cX12_lawTells_64 5 0 83 rfl
theorem dX12_lawTells_72 : decode cX12_lawTells 72 = .ok (.iload 4, 2) := o21 ac_cX12_lawTells_64 8 4 rfl
theorem dX12_lawTells_74 : decode cX12_lawTells 74 = .ok (.iaload, 1) := o46 ac_cX12_lawTells_64 10 rfl
theorem dX12_lawTells_75 : decode cX12_lawTells 75 = .ok (.invokevirtual 328, 3) := o182 ac_cX12_lawTells_64 11 1 72 rfl
theorem dX12_lawTells_78 : decode cX12_lawTells 78 = .ok (.istore 5, 2) := o54 ac_cX12_lawTells_64 14 5 rfl
def kb_cX12_lawTells_80 : List Nat := [42, 42, 180, 0, 83, 21, 4, 46, 42, 180, 0, 86, 21, 4, 46, 182, 1, 72, 54, 6]
theorem ac_cX12_lawTells_80 : AL cX12_lawTells 80 kb_cX12_lawTells_80 := AL.of (m := 20) (by decide +kernel)
theorem dX12_lawTells_80 : decode cX12_lawTells 80 = .ok (.aload_n 0, 1) := o42 ac_cX12_lawTells_80 0 rfl
theorem dX12_lawTells_81 : decode cX12_lawTells 81 = .ok (.aload_n 0, 1) := o42 ac_cX12_lawTells_80 1 rfl
theorem dX12_lawTells_82 : decode cX12_lawTells 82 = .ok (.getfield 83, 3) := o180 ac_cX12_lawTells_80 2 0 83 rfl
theorem dX12_lawTells_85 : decode cX12_lawTells 85 = .ok (.iload 4, 2) := o21 ac_cX12_lawTells_80 5 4 rfl
theorem dX12_lawTells_87 : decode cX12_lawTells 87 = .ok (.iaload, 1) := o46 ac_cX12_lawTells_80 7 rfl
theorem dX12_lawTells_88 : decode cX12_lawTells 88 = .ok (.aload_n 0, 1) := o42 ac_cX12_lawTells_80 8 rfl
theorem dX12_lawTells_89 : decode cX12_lawTells 89 = .ok (.getfield 86, 3) := o180 ac_cX12_lawTells_80 9 0 86 rfl
theorem dX12_lawTells_92 : decode cX12_lawTells 92 = .ok (.iload 4, 2) := o21 ac_cX12_lawTells_80 12 4 rfl
theorem dX12_lawTells_94 : decode cX12_lawTells 94 = .ok (.iaload, 1) := o46 ac_cX12_lawTells_80 14 rfl
theorem dX12_lawTells_95 : decode cX12_lawTells 95 = .ok (.invokevirtual 328, 3) := o182 ac_cX12_lawTells_80 15 1 72 rfl
def kb_cX12_lawTells_96 : List Nat := [1, 72, 54, 6, 42, 180, 1, 41, 153, 0, 5, 3, 172, 21, 5, 21, 6, 161, 0, 6]
theorem ac_cX12_lawTells_96 : AL cX12_lawTells 96 kb_cX12_lawTells_96 := AL.of (m := 20) (by decide +kernel)
theorem dX12_lawTells_98 : decode cX12_lawTells 98 = .ok (.istore 6, 2) := o54 ac_cX12_lawTells_96 2 6 rfl
theorem dX12_lawTells_100 : decode cX12_lawTells 100 = .ok (.aload_n 0, 1) := o42 ac_cX12_lawTells_96 4 rfl
theorem dX12_lawTells_101 : decode cX12_lawTells 101 = .ok (.getfield 297, 3) := o180 ac_cX12_lawTells_96 5 1 41 rfl
theorem dX12_lawTells_104 : decode cX12_lawTells 104 = .ok (.ifCond .eq 5, 3) := o153p ac_cX12_lawTells_96 8 0 5 rfl rfl
theorem dX12_lawTells_107 : decode cX12_lawTells 107 = .ok (.iconst 0, 1) := o3 ac_cX12_lawTells_96 11 rfl
theorem dX12_lawTells_108 : decode cX12_lawTells 108 = .ok (.ireturn, 1) := o172 ac_cX12_lawTells_96 12 rfl
theorem dX12_lawTells_109 : decode cX12_lawTells 109 = .ok (.iload 5, 2) := o21 ac_cX12_lawTells_96 13 5 rfl
theorem dX12_lawTells_111 : decode cX12_lawTells 111 = .ok (.iload 6, 2) := o21 ac_cX12_lawTells_96 15 6 rfl
def kb_cX12_lawTells_112 : List Nat := [6, 161, 0, 6, 167, 0, 37, 42, 42, 180, 0, 86, 21, 4, 46, 42, 180, 0, 89, 21]
theorem ac_cX12_lawTells_112 : AL cX12_lawTells 112 kb_cX12_lawTells_112 := AL.of (m := 20) (by decide +kernel)
theorem dX12_lawTells_113 : decode cX12_lawTells 113 = .ok (.if_icmp .lt 6, 3) := o161p ac_cX12_lawTells_112 1 0 6 rfl rfl
theorem dX12_lawTells_116 : decode cX12_lawTells 116 = .ok (.goto 37, 3) := o167p ac_cX12_lawTells_112 4 0 37 rfl rfl
theorem dX12_lawTells_119 : decode cX12_lawTells 119 = .ok (.aload_n 0, 1) := o42 ac_cX12_lawTells_112 7 rfl
theorem dX12_lawTells_120 : decode cX12_lawTells 120 = .ok (.aload_n 0, 1) := o42 ac_cX12_lawTells_112 8 rfl
theorem dX12_lawTells_121 : decode cX12_lawTells 121 = .ok (.getfield 86, 3) := o180 ac_cX12_lawTells_112 9 0 86 rfl
theorem dX12_lawTells_124 : decode cX12_lawTells 124 = .ok (.iload 4, 2) := o21 ac_cX12_lawTells_112 12 4 rfl
theorem dX12_lawTells_126 : decode cX12_lawTells 126 = .ok (.iaload, 1) := o46 ac_cX12_lawTells_112 14 rfl
theorem dX12_lawTells_127 : decode cX12_lawTells 127 = .ok (.aload_n 0, 1) := o42 ac_cX12_lawTells_112 15 rfl
def kb_cX12_lawTells_128 : List Nat := [180, 0, 89, 21, 4, 46, 182, 1, 72, 54, 5, 42, 180, 1, 41, 153, 0, 7, 3, 167]
theorem ac_cX12_lawTells_128 : AL cX12_lawTells 128 kb_cX12_lawTells_128 := AL.of (m := 20) (by decide +kernel)
theorem dX12_lawTells_128 : decode cX12_lawTells 128 = .ok (.getfield 89, 3) := o180 ac_cX12_lawTells_128 0 0 89 rfl
theorem dX12_lawTells_131 : decode cX12_lawTells 131 = .ok (.iload 4, 2) := o21 ac_cX12_lawTells_128 3 4 rfl
theorem dX12_lawTells_133 : decode cX12_lawTells 133 = .ok (.iaload, 1) := o46 ac_cX12_lawTells_128 5 rfl
theorem dX12_lawTells_134 : decode cX12_lawTells 134 = .ok (.invokevirtual 328, 3) := o182 ac_cX12_lawTells_128 6 1 72 rfl
theorem dX12_lawTells_137 : decode cX12_lawTells 137 = .ok (.istore 5, 2) := o54 ac_cX12_lawTells_128 9 5 rfl
theorem dX12_lawTells_139 : decode cX12_lawTells 139 = .ok (.aload_n 0, 1) := o42 ac_cX12_lawTells_128 11 rfl
theorem dX12_lawTells_140 : decode cX12_lawTells 140 = .ok (.getfield 297, 3) := o180 ac_cX12_lawTells_128 12 1 41 rfl
theorem dX12_lawTells_143 : decode cX12_lawTells 143 = .ok (.ifCond .eq 7, 3) := o153p ac_cX12_lawTells_128 15 0 7 rfl rfl
def kb_cX12_lawTells_144 : List Nat := [0, 7, 3, 167, 0, 5, 21, 5, 172, 132, 4, 1, 167, 255, 139, 3, 172]
theorem ac_cX12_lawTells_144 : AL cX12_lawTells 144 kb_cX12_lawTells_144 := AL.of (m := 17) (by decide +kernel)
theorem dX12_lawTells_146 : decode cX12_lawTells 146 = .ok (.iconst 0, 1) := o3 ac_cX12_lawTells_144 2 rfl
theorem dX12_lawTells_147 : decode cX12_lawTells 147 = .ok (.goto 5, 3) := o167p ac_cX12_lawTells_144 3 0 5 rfl rfl
theorem dX12_lawTells_150 : decode cX12_lawTells 150 = .ok (.iload 5, 2) := o21 ac_cX12_lawTells_144 6 5 rfl
theorem dX12_lawTells_152 : decode cX12_lawTells 152 = .ok (.ireturn, 1) := o172 ac_cX12_lawTells_144 8 rfl
theorem dX12_lawTells_153 : decode cX12_lawTells 153 = .ok (.iinc 4 1, 3) := o132p ac_cX12_lawTells_144 9 4 1 rfl rfl
theorem dX12_lawTells_156 : decode cX12_lawTells 156 = .ok (.goto (-117), 3) := o167n ac_cX12_lawTells_144 12 255 139 116 rfl rfl rfl
theorem dX12_lawTells_159 : decode cX12_lawTells 159 = .ok (.iconst 0, 1) := o3 ac_cX12_lawTells_144 15 rfl
def kb_cX12_lawTells_160 : List Nat := [172]
theorem ac_cX12_lawTells_160 : AL cX12_lawTells 160 kb_cX12_lawTells_160 := AL.of (m := 1) (by decide +kernel)
theorem dX12_lawTells_160 : decode cX12_lawTells 160 = .ok (.ireturn, 1) := o172 ac_cX12_lawTells_160 0 rfl
def kb_cX12_tiresBy_0 : List Nat := [42, 27, 28, 29, 182, 1, 75, 42, 3, 3, 182, 1, 79, 3, 16, 99, 184, 1, 82, 172]
theorem ac_cX12_tiresBy_0 : AL cX12_tiresBy 0 kb_cX12_tiresBy_0 := AL.of (m := 20) (by decide +kernel)
theorem dX12_tiresBy_0 : decode cX12_tiresBy 0 = .ok (.aload_n 0, 1) := o42 ac_cX12_tiresBy_0 0 rfl
theorem dX12_tiresBy_1 : decode cX12_tiresBy 1 = .ok (.iload_n 1, 1) := o27 ac_cX12_tiresBy_0 1 rfl
theorem dX12_tiresBy_2 : decode cX12_tiresBy 2 = .ok (.iload_n 2, 1) := o28 ac_cX12_tiresBy_0 2 rfl
theorem dX12_tiresBy_3 : decode cX12_tiresBy 3 = .ok (.iload_n 3, 1) := o29 ac_cX12_tiresBy_0 3 rfl
theorem dX12_tiresBy_4 : decode cX12_tiresBy 4 = .ok (.invokevirtual 331, 3) := o182 ac_cX12_tiresBy_0 4 1 75 rfl
theorem dX12_tiresBy_7 : decode cX12_tiresBy 7 = .ok (.aload_n 0, 1) := o42 ac_cX12_tiresBy_0 7 rfl
theorem dX12_tiresBy_8 : decode cX12_tiresBy 8 = .ok (.iconst 0, 1) := o3 ac_cX12_tiresBy_0 8 rfl
theorem dX12_tiresBy_9 : decode cX12_tiresBy 9 = .ok (.iconst 0, 1) := o3 ac_cX12_tiresBy_0 9 rfl
theorem dX12_tiresBy_10 : decode cX12_tiresBy 10 = .ok (.invokevirtual 335, 3) := o182 ac_cX12_tiresBy_0 10 1 79 rfl
theorem dX12_tiresBy_13 : decode cX12_tiresBy 13 = .ok (.iconst 0, 1) := o3 ac_cX12_tiresBy_0 13 rfl
theorem dX12_tiresBy_14 : decode cX12_tiresBy 14 = .ok (.bipush 99, 2) := o16p ac_cX12_tiresBy_0 14 99 rfl rfl
def kb_cX12_tiresBy_16 : List Nat := [184, 1, 82, 172]
theorem ac_cX12_tiresBy_16 : AL cX12_tiresBy 16 kb_cX12_tiresBy_16 := AL.of (m := 4) (by decide +kernel)
theorem dX12_tiresBy_16 : decode cX12_tiresBy 16 = .ok (.invokestatic 338, 3) := o184 ac_cX12_tiresBy_16 0 1 82 rfl
theorem dX12_tiresBy_19 : decode cX12_tiresBy 19 = .ok (.ireturn, 1) := o172 ac_cX12_tiresBy_16 3 rfl
def kb_cX12_dropsBy_0 : List Nat := [42, 27, 28, 29, 182, 1, 75, 42, 4, 3, 182, 1, 79, 3, 16, 100, 184, 1, 82, 172]
theorem ac_cX12_dropsBy_0 : AL cX12_dropsBy 0 kb_cX12_dropsBy_0 := AL.of (m := 20) (by decide +kernel)
theorem dX12_dropsBy_0 : decode cX12_dropsBy 0 = .ok (.aload_n 0, 1) := o42 ac_cX12_dropsBy_0 0 rfl
theorem dX12_dropsBy_1 : decode cX12_dropsBy 1 = .ok (.iload_n 1, 1) := o27 ac_cX12_dropsBy_0 1 rfl
theorem dX12_dropsBy_2 : decode cX12_dropsBy 2 = .ok (.iload_n 2, 1) := o28 ac_cX12_dropsBy_0 2 rfl
theorem dX12_dropsBy_3 : decode cX12_dropsBy 3 = .ok (.iload_n 3, 1) := o29 ac_cX12_dropsBy_0 3 rfl
theorem dX12_dropsBy_4 : decode cX12_dropsBy 4 = .ok (.invokevirtual 331, 3) := o182 ac_cX12_dropsBy_0 4 1 75 rfl
theorem dX12_dropsBy_7 : decode cX12_dropsBy 7 = .ok (.aload_n 0, 1) := o42 ac_cX12_dropsBy_0 7 rfl
theorem dX12_dropsBy_8 : decode cX12_dropsBy 8 = .ok (.iconst 1, 1) := o4 ac_cX12_dropsBy_0 8 rfl
theorem dX12_dropsBy_9 : decode cX12_dropsBy 9 = .ok (.iconst 0, 1) := o3 ac_cX12_dropsBy_0 9 rfl
theorem dX12_dropsBy_10 : decode cX12_dropsBy 10 = .ok (.invokevirtual 335, 3) := o182 ac_cX12_dropsBy_0 10 1 79 rfl
theorem dX12_dropsBy_13 : decode cX12_dropsBy 13 = .ok (.iconst 0, 1) := o3 ac_cX12_dropsBy_0 13 rfl
theorem dX12_dropsBy_14 : decode cX12_dropsBy 14 = .ok (.bipush 100, 2) := o16p ac_cX12_dropsBy_0 14 100 rfl rfl
def kb_cX12_dropsBy_16 : List Nat := [184, 1, 82, 172]
theorem ac_cX12_dropsBy_16 : AL cX12_dropsBy 16 kb_cX12_dropsBy_16 := AL.of (m := 4) (by decide +kernel)
theorem dX12_dropsBy_16 : decode cX12_dropsBy 16 = .ok (.invokestatic 338, 3) := o184 ac_cX12_dropsBy_16 0 1 82 rfl
theorem dX12_dropsBy_19 : decode cX12_dropsBy 19 = .ok (.ireturn, 1) := o172 ac_cX12_dropsBy_16 3 rfl
def kb_cX12_forceOf_0 : List Nat := [42, 27, 3, 28, 182, 1, 75, 42, 5, 42, 180, 0, 101, 4, 46, 182, 1, 79, 16, 157]
theorem ac_cX12_forceOf_0 : AL cX12_forceOf 0 kb_cX12_forceOf_0 := AL.of (m := 20) (by decide +kernel)
theorem dX12_forceOf_0 : decode cX12_forceOf 0 = .ok (.aload_n 0, 1) := o42 ac_cX12_forceOf_0 0 rfl
theorem dX12_forceOf_1 : decode cX12_forceOf 1 = .ok (.iload_n 1, 1) := o27 ac_cX12_forceOf_0 1 rfl
theorem dX12_forceOf_2 : decode cX12_forceOf 2 = .ok (.iconst 0, 1) := o3 ac_cX12_forceOf_0 2 rfl
theorem dX12_forceOf_3 : decode cX12_forceOf 3 = .ok (.iload_n 2, 1) := o28 ac_cX12_forceOf_0 3 rfl
theorem dX12_forceOf_4 : decode cX12_forceOf 4 = .ok (.invokevirtual 331, 3) := o182 ac_cX12_forceOf_0 4 1 75 rfl
theorem dX12_forceOf_7 : decode cX12_forceOf 7 = .ok (.aload_n 0, 1) := o42 ac_cX12_forceOf_0 7 rfl
theorem dX12_forceOf_8 : decode cX12_forceOf 8 = .ok (.iconst 2, 1) := o5 ac_cX12_forceOf_0 8 rfl
theorem dX12_forceOf_9 : decode cX12_forceOf 9 = .ok (.aload_n 0, 1) := o42 ac_cX12_forceOf_0 9 rfl
theorem dX12_forceOf_10 : decode cX12_forceOf 10 = .ok (.getfield 101, 3) := o180 ac_cX12_forceOf_0 10 0 101 rfl
theorem dX12_forceOf_13 : decode cX12_forceOf 13 = .ok (.iconst 1, 1) := o4 ac_cX12_forceOf_0 13 rfl
theorem dX12_forceOf_14 : decode cX12_forceOf 14 = .ok (.iaload, 1) := o46 ac_cX12_forceOf_0 14 rfl
theorem dX12_forceOf_15 : decode cX12_forceOf 15 = .ok (.invokevirtual 335, 3) := o182 ac_cX12_forceOf_0 15 1 79 rfl
def kb_cX12_forceOf_16 : List Nat := [1, 79, 16, 157, 16, 99, 184, 1, 82, 172]
theorem ac_cX12_forceOf_16 : AL cX12_forceOf 16 kb_cX12_forceOf_16 := AL.of (m := 10) (by decide +kernel)
theorem dX12_forceOf_18 : decode cX12_forceOf 18 = .ok (.bipush (-99), 2) := o16n ac_cX12_forceOf_16 2 157 98 rfl rfl rfl
theorem dX12_forceOf_20 : decode cX12_forceOf 20 = .ok (.bipush 99, 2) := o16p ac_cX12_forceOf_16 4 99 rfl rfl
theorem dX12_forceOf_22 : decode cX12_forceOf 22 = .ok (.invokestatic 338, 3) := o184 ac_cX12_forceOf_16 6 1 82 rfl
theorem dX12_forceOf_25 : decode cX12_forceOf 25 = .ok (.ireturn, 1) := o172 ac_cX12_forceOf_16 9 rfl
def kb_cX12_paysOf_0 : List Nat := [42, 27, 3, 28, 182, 1, 75, 42, 6, 3, 182, 1, 79, 3, 16, 99, 184, 1, 82, 172]
theorem ac_cX12_paysOf_0 : AL cX12_paysOf 0 kb_cX12_paysOf_0 := AL.of (m := 20) (by decide +kernel)
theorem dX12_paysOf_0 : decode cX12_paysOf 0 = .ok (.aload_n 0, 1) := o42 ac_cX12_paysOf_0 0 rfl
theorem dX12_paysOf_1 : decode cX12_paysOf 1 = .ok (.iload_n 1, 1) := o27 ac_cX12_paysOf_0 1 rfl
theorem dX12_paysOf_2 : decode cX12_paysOf 2 = .ok (.iconst 0, 1) := o3 ac_cX12_paysOf_0 2 rfl
theorem dX12_paysOf_3 : decode cX12_paysOf 3 = .ok (.iload_n 2, 1) := o28 ac_cX12_paysOf_0 3 rfl
theorem dX12_paysOf_4 : decode cX12_paysOf 4 = .ok (.invokevirtual 331, 3) := o182 ac_cX12_paysOf_0 4 1 75 rfl
theorem dX12_paysOf_7 : decode cX12_paysOf 7 = .ok (.aload_n 0, 1) := o42 ac_cX12_paysOf_0 7 rfl
theorem dX12_paysOf_8 : decode cX12_paysOf 8 = .ok (.iconst 3, 1) := o6 ac_cX12_paysOf_0 8 rfl
theorem dX12_paysOf_9 : decode cX12_paysOf 9 = .ok (.iconst 0, 1) := o3 ac_cX12_paysOf_0 9 rfl
theorem dX12_paysOf_10 : decode cX12_paysOf 10 = .ok (.invokevirtual 335, 3) := o182 ac_cX12_paysOf_0 10 1 79 rfl
theorem dX12_paysOf_13 : decode cX12_paysOf 13 = .ok (.iconst 0, 1) := o3 ac_cX12_paysOf_0 13 rfl
theorem dX12_paysOf_14 : decode cX12_paysOf 14 = .ok (.bipush 99, 2) := o16p ac_cX12_paysOf_0 14 99 rfl rfl
def kb_cX12_paysOf_16 : List Nat := [184, 1, 82, 172]
theorem ac_cX12_paysOf_16 : AL cX12_paysOf 16 kb_cX12_paysOf_16 := AL.of (m := 4) (by decide +kernel)
theorem dX12_paysOf_16 : decode cX12_paysOf 16 = .ok (.invokestatic 338, 3) := o184 ac_cX12_paysOf_16 0 1 82 rfl
theorem dX12_paysOf_19 : decode cX12_paysOf 19 = .ok (.ireturn, 1) := o172 ac_cX12_paysOf_16 3 rfl
def kb_cX12_dropsOthers_0 : List Nat := [3, 60, 27, 42, 180, 0, 43, 42, 180, 0, 221, 46, 162, 0, 52, 27, 42, 180, 1, 85]
theorem ac_cX12_dropsOthers_0 : AL cX12_dropsOthers 0 kb_cX12_dropsOthers_0 := AL.of (m := 20) (by decide +kernel)
theorem dX12_dropsOthers_0 : decode cX12_dropsOthers 0 = .ok (.iconst 0, 1) := o3 ac_cX12_dropsOthers_0 0 rfl
theorem dX12_dropsOthers_1 : decode cX12_dropsOthers 1 = .ok (.istore_n 1, 1) := o60 ac_cX12_dropsOthers_0 1 rfl
theorem dX12_dropsOthers_2 : decode cX12_dropsOthers 2 = .ok (.iload_n 1, 1) := o27 ac_cX12_dropsOthers_0 2 rfl
theorem dX12_dropsOthers_3 : decode cX12_dropsOthers 3 = .ok (.aload_n 0, 1) := o42 ac_cX12_dropsOthers_0 3 rfl
theorem dX12_dropsOthers_4 : decode cX12_dropsOthers 4 = .ok (.getfield 43, 3) := o180 ac_cX12_dropsOthers_0 4 0 43 rfl
theorem dX12_dropsOthers_7 : decode cX12_dropsOthers 7 = .ok (.aload_n 0, 1) := o42 ac_cX12_dropsOthers_0 7 rfl
theorem dX12_dropsOthers_8 : decode cX12_dropsOthers 8 = .ok (.getfield 221, 3) := o180 ac_cX12_dropsOthers_0 8 0 221 rfl
theorem dX12_dropsOthers_11 : decode cX12_dropsOthers 11 = .ok (.iaload, 1) := o46 ac_cX12_dropsOthers_0 11 rfl
theorem dX12_dropsOthers_12 : decode cX12_dropsOthers 12 = .ok (.if_icmp .ge 52, 3) := o162p ac_cX12_dropsOthers_0 12 0 52 rfl rfl
theorem dX12_dropsOthers_15 : decode cX12_dropsOthers 15 = .ok (.iload_n 1, 1) := o27 ac_cX12_dropsOthers_0 15 rfl
def kb_cX12_dropsOthers_16 : List Nat := [42, 180, 1, 85, 159, 0, 38, 42, 27, 3, 182, 1, 68, 154, 0, 6, 167, 0, 26, 42]
theorem ac_cX12_dropsOthers_16 : AL cX12_dropsOthers 16 kb_cX12_dropsOthers_16 := AL.of (m := 20) (by decide +kernel)
theorem dX12_dropsOthers_16 : decode cX12_dropsOthers 16 = .ok (.aload_n 0, 1) := o42 ac_cX12_dropsOthers_16 0 rfl
theorem dX12_dropsOthers_17 : decode cX12_dropsOthers 17 = .ok (.getfield 341, 3) := o180 ac_cX12_dropsOthers_16 1 1 85 rfl
theorem dX12_dropsOthers_20 : decode cX12_dropsOthers 20 = .ok (.if_icmp .eq 38, 3) := o159p ac_cX12_dropsOthers_16 4 0 38 rfl rfl
theorem dX12_dropsOthers_23 : decode cX12_dropsOthers 23 = .ok (.aload_n 0, 1) := o42 ac_cX12_dropsOthers_16 7 rfl
theorem dX12_dropsOthers_24 : decode cX12_dropsOthers 24 = .ok (.iload_n 1, 1) := o27 ac_cX12_dropsOthers_16 8 rfl
theorem dX12_dropsOthers_25 : decode cX12_dropsOthers 25 = .ok (.iconst 0, 1) := o3 ac_cX12_dropsOthers_16 9 rfl
theorem dX12_dropsOthers_26 : decode cX12_dropsOthers 26 = .ok (.invokevirtual 324, 3) := o182 ac_cX12_dropsOthers_16 10 1 68 rfl
theorem dX12_dropsOthers_29 : decode cX12_dropsOthers 29 = .ok (.ifCond .ne 6, 3) := o154p ac_cX12_dropsOthers_16 13 0 6 rfl rfl
def kb_cX12_dropsOthers_32 : List Nat := [167, 0, 26, 42, 180, 0, 110, 27, 5, 79, 42, 180, 0, 110, 16, 23, 92, 46, 4, 96]
theorem ac_cX12_dropsOthers_32 : AL cX12_dropsOthers 32 kb_cX12_dropsOthers_32 := AL.of (m := 20) (by decide +kernel)
theorem dX12_dropsOthers_32 : decode cX12_dropsOthers 32 = .ok (.goto 26, 3) := o167p ac_cX12_dropsOthers_32 0 0 26 rfl rfl
theorem dX12_dropsOthers_35 : decode cX12_dropsOthers 35 = .ok (.aload_n 0, 1) := o42 ac_cX12_dropsOthers_32 3 rfl
theorem dX12_dropsOthers_36 : decode cX12_dropsOthers 36 = .ok (.getfield 110, 3) := o180 ac_cX12_dropsOthers_32 4 0 110 rfl
theorem dX12_dropsOthers_39 : decode cX12_dropsOthers 39 = .ok (.iload_n 1, 1) := o27 ac_cX12_dropsOthers_32 7 rfl
theorem dX12_dropsOthers_40 : decode cX12_dropsOthers 40 = .ok (.iconst 2, 1) := o5 ac_cX12_dropsOthers_32 8 rfl
theorem dX12_dropsOthers_41 : decode cX12_dropsOthers 41 = .ok (.iastore, 1) := o79 ac_cX12_dropsOthers_32 9 rfl
theorem dX12_dropsOthers_42 : decode cX12_dropsOthers 42 = .ok (.aload_n 0, 1) := o42 ac_cX12_dropsOthers_32 10 rfl
theorem dX12_dropsOthers_43 : decode cX12_dropsOthers 43 = .ok (.getfield 110, 3) := o180 ac_cX12_dropsOthers_32 11 0 110 rfl
theorem dX12_dropsOthers_46 : decode cX12_dropsOthers 46 = .ok (.bipush 23, 2) := o16p ac_cX12_dropsOthers_32 14 23 rfl rfl
def kb_cX12_dropsOthers_48 : List Nat := [92, 46, 4, 96, 79, 42, 4, 181, 1, 88, 132, 1, 1, 167, 255, 197, 177]
theorem ac_cX12_dropsOthers_48 : AL cX12_dropsOthers 48 kb_cX12_dropsOthers_48 := AL.of (m := 17) (by decide +kernel)
theorem dX12_dropsOthers_48 : decode cX12_dropsOthers 48 = .ok (.dup2, 1) := o92 ac_cX12_dropsOthers_48 0 rfl
theorem dX12_dropsOthers_49 : decode cX12_dropsOthers 49 = .ok (.iaload, 1) := o46 ac_cX12_dropsOthers_48 1 rfl
theorem dX12_dropsOthers_50 : decode cX12_dropsOthers 50 = .ok (.iconst 1, 1) := o4 ac_cX12_dropsOthers_48 2 rfl
theorem dX12_dropsOthers_51 : decode cX12_dropsOthers 51 = .ok (.iadd, 1) := o96 ac_cX12_dropsOthers_48 3 rfl
theorem dX12_dropsOthers_52 : decode cX12_dropsOthers 52 = .ok (.iastore, 1) := o79 ac_cX12_dropsOthers_48 4 rfl
theorem dX12_dropsOthers_53 : decode cX12_dropsOthers 53 = .ok (.aload_n 0, 1) := o42 ac_cX12_dropsOthers_48 5 rfl
theorem dX12_dropsOthers_54 : decode cX12_dropsOthers 54 = .ok (.iconst 1, 1) := o4 ac_cX12_dropsOthers_48 6 rfl
theorem dX12_dropsOthers_55 : decode cX12_dropsOthers 55 = .ok (.putfield 344, 3) := o181 ac_cX12_dropsOthers_48 7 1 88 rfl
theorem dX12_dropsOthers_58 : decode cX12_dropsOthers 58 = .ok (.iinc 1 1, 3) := o132p ac_cX12_dropsOthers_48 10 1 1 rfl rfl
theorem dX12_dropsOthers_61 : decode cX12_dropsOthers 61 = .ok (.goto (-59), 3) := o167n ac_cX12_dropsOthers_48 13 255 197 58 rfl rfl rfl
def kb_cX12_dropsOthers_64 : List Nat := [177]
theorem ac_cX12_dropsOthers_64 : AL cX12_dropsOthers 64 kb_cX12_dropsOthers_64 := AL.of (m := 1) (by decide +kernel)
theorem dX12_dropsOthers_64 : decode cX12_dropsOthers 64 = .ok (.return_, 1) := o177 ac_cX12_dropsOthers_64 0 rfl
def kb_cX12_isThrown_0 : List Nat := [42, 180, 0, 110, 16, 25, 92, 46, 21, 4, 96, 79, 42, 180, 0, 110, 16, 24, 92, 46]
theorem ac_cX12_isThrown_0 : AL cX12_isThrown 0 kb_cX12_isThrown_0 := AL.of (m := 20) (by decide +kernel)
theorem dX12_isThrown_0 : decode cX12_isThrown 0 = .ok (.aload_n 0, 1) := o42 ac_cX12_isThrown_0 0 rfl
theorem dX12_isThrown_1 : decode cX12_isThrown 1 = .ok (.getfield 110, 3) := o180 ac_cX12_isThrown_0 1 0 110 rfl
theorem dX12_isThrown_4 : decode cX12_isThrown 4 = .ok (.bipush 25, 2) := o16p ac_cX12_isThrown_0 4 25 rfl rfl
theorem dX12_isThrown_6 : decode cX12_isThrown 6 = .ok (.dup2, 1) := o92 ac_cX12_isThrown_0 6 rfl
theorem dX12_isThrown_7 : decode cX12_isThrown 7 = .ok (.iaload, 1) := o46 ac_cX12_isThrown_0 7 rfl
theorem dX12_isThrown_8 : decode cX12_isThrown 8 = .ok (.iload 4, 2) := o21 ac_cX12_isThrown_0 8 4 rfl
theorem dX12_isThrown_10 : decode cX12_isThrown 10 = .ok (.iadd, 1) := o96 ac_cX12_isThrown_0 10 rfl
theorem dX12_isThrown_11 : decode cX12_isThrown 11 = .ok (.iastore, 1) := o79 ac_cX12_isThrown_0 11 rfl
theorem dX12_isThrown_12 : decode cX12_isThrown 12 = .ok (.aload_n 0, 1) := o42 ac_cX12_isThrown_0 12 rfl
theorem dX12_isThrown_13 : decode cX12_isThrown 13 = .ok (.getfield 110, 3) := o180 ac_cX12_isThrown_0 13 0 110 rfl
def kb_cX12_isThrown_16 : List Nat := [16, 24, 92, 46, 4, 96, 79, 42, 180, 0, 110, 16, 14, 27, 96, 92, 46, 4, 96, 79]
theorem ac_cX12_isThrown_16 : AL cX12_isThrown 16 kb_cX12_isThrown_16 := AL.of (m := 20) (by decide +kernel)
theorem dX12_isThrown_16 : decode cX12_isThrown 16 = .ok (.bipush 24, 2) := o16p ac_cX12_isThrown_16 0 24 rfl rfl
theorem dX12_isThrown_18 : decode cX12_isThrown 18 = .ok (.dup2, 1) := o92 ac_cX12_isThrown_16 2 rfl
theorem dX12_isThrown_19 : decode cX12_isThrown 19 = .ok (.iaload, 1) := o46 ac_cX12_isThrown_16 3 rfl
theorem dX12_isThrown_20 : decode cX12_isThrown 20 = .ok (.iconst 1, 1) := o4 ac_cX12_isThrown_16 4 rfl
theorem dX12_isThrown_21 : decode cX12_isThrown 21 = .ok (.iadd, 1) := o96 ac_cX12_isThrown_16 5 rfl
theorem dX12_isThrown_22 : decode cX12_isThrown 22 = .ok (.iastore, 1) := o79 ac_cX12_isThrown_16 6 rfl
theorem dX12_isThrown_23 : decode cX12_isThrown 23 = .ok (.aload_n 0, 1) := o42 ac_cX12_isThrown_16 7 rfl
theorem dX12_isThrown_24 : decode cX12_isThrown 24 = .ok (.getfield 110, 3) := o180 ac_cX12_isThrown_16 8 0 110 rfl
theorem dX12_isThrown_27 : decode cX12_isThrown 27 = .ok (.bipush 14, 2) := o16p ac_cX12_isThrown_16 11 14 rfl rfl
theorem dX12_isThrown_29 : decode cX12_isThrown 29 = .ok (.iload_n 1, 1) := o27 ac_cX12_isThrown_16 13 rfl
theorem dX12_isThrown_30 : decode cX12_isThrown 30 = .ok (.iadd, 1) := o96 ac_cX12_isThrown_16 14 rfl
theorem dX12_isThrown_31 : decode cX12_isThrown 31 = .ok (.dup2, 1) := o92 ac_cX12_isThrown_16 15 rfl
def kb_cX12_isThrown_32 : List Nat := [46, 4, 96, 79, 42, 180, 0, 110, 16, 22, 42, 180, 0, 110, 16, 22, 46, 29, 96, 3]
theorem ac_cX12_isThrown_32 : AL cX12_isThrown 32 kb_cX12_isThrown_32 := AL.of (m := 20) (by decide +kernel)
theorem dX12_isThrown_32 : decode cX12_isThrown 32 = .ok (.iaload, 1) := o46 ac_cX12_isThrown_32 0 rfl
theorem dX12_isThrown_33 : decode cX12_isThrown 33 = .ok (.iconst 1, 1) := o4 ac_cX12_isThrown_32 1 rfl
theorem dX12_isThrown_34 : decode cX12_isThrown 34 = .ok (.iadd, 1) := o96 ac_cX12_isThrown_32 2 rfl
theorem dX12_isThrown_35 : decode cX12_isThrown 35 = .ok (.iastore, 1) := o79 ac_cX12_isThrown_32 3 rfl
theorem dX12_isThrown_36 : decode cX12_isThrown 36 = .ok (.aload_n 0, 1) := o42 ac_cX12_isThrown_32 4 rfl
theorem dX12_isThrown_37 : decode cX12_isThrown 37 = .ok (.getfield 110, 3) := o180 ac_cX12_isThrown_32 5 0 110 rfl
theorem dX12_isThrown_40 : decode cX12_isThrown 40 = .ok (.bipush 22, 2) := o16p ac_cX12_isThrown_32 8 22 rfl rfl
theorem dX12_isThrown_42 : decode cX12_isThrown 42 = .ok (.aload_n 0, 1) := o42 ac_cX12_isThrown_32 10 rfl
theorem dX12_isThrown_43 : decode cX12_isThrown 43 = .ok (.getfield 110, 3) := o180 ac_cX12_isThrown_32 11 0 110 rfl
theorem dX12_isThrown_46 : decode cX12_isThrown 46 = .ok (.bipush 22, 2) := o16p ac_cX12_isThrown_32 14 22 rfl rfl
def kb_cX12_isThrown_48 : List Nat := [46, 29, 96, 3, 17, 3, 231, 184, 1, 82, 79, 28, 154, 0, 10, 42, 180, 0, 110, 27]
theorem ac_cX12_isThrown_48 : AL cX12_isThrown 48 kb_cX12_isThrown_48 := AL.of (m := 20) (by decide +kernel)
theorem dX12_isThrown_48 : decode cX12_isThrown 48 = .ok (.iaload, 1) := o46 ac_cX12_isThrown_48 0 rfl
theorem dX12_isThrown_49 : decode cX12_isThrown 49 = .ok (.iload_n 3, 1) := o29 ac_cX12_isThrown_48 1 rfl
theorem dX12_isThrown_50 : decode cX12_isThrown 50 = .ok (.iadd, 1) := o96 ac_cX12_isThrown_48 2 rfl
theorem dX12_isThrown_51 : decode cX12_isThrown 51 = .ok (.iconst 0, 1) := o3 ac_cX12_isThrown_48 3 rfl
theorem dX12_isThrown_52 : decode cX12_isThrown 52 = .ok (.sipush 999, 3) := o17p ac_cX12_isThrown_48 4 3 231 rfl rfl
theorem dX12_isThrown_55 : decode cX12_isThrown 55 = .ok (.invokestatic 338, 3) := o184 ac_cX12_isThrown_48 7 1 82 rfl
theorem dX12_isThrown_58 : decode cX12_isThrown 58 = .ok (.iastore, 1) := o79 ac_cX12_isThrown_48 10 rfl
theorem dX12_isThrown_59 : decode cX12_isThrown 59 = .ok (.iload_n 2, 1) := o28 ac_cX12_isThrown_48 11 rfl
theorem dX12_isThrown_60 : decode cX12_isThrown 60 = .ok (.ifCond .ne 10, 3) := o154p ac_cX12_isThrown_48 12 0 10 rfl rfl
theorem dX12_isThrown_63 : decode cX12_isThrown 63 = .ok (.aload_n 0, 1) := o42 ac_cX12_isThrown_48 15 rfl
def kb_cX12_isThrown_64 : List Nat := [180, 0, 110, 27, 4, 79, 42, 180, 0, 110, 16, 7, 27, 96, 28, 79, 177]
theorem ac_cX12_isThrown_64 : AL cX12_isThrown 64 kb_cX12_isThrown_64 := AL.of (m := 17) (by decide +kernel)
theorem dX12_isThrown_64 : decode cX12_isThrown 64 = .ok (.getfield 110, 3) := o180 ac_cX12_isThrown_64 0 0 110 rfl
theorem dX12_isThrown_67 : decode cX12_isThrown 67 = .ok (.iload_n 1, 1) := o27 ac_cX12_isThrown_64 3 rfl
theorem dX12_isThrown_68 : decode cX12_isThrown 68 = .ok (.iconst 1, 1) := o4 ac_cX12_isThrown_64 4 rfl
theorem dX12_isThrown_69 : decode cX12_isThrown 69 = .ok (.iastore, 1) := o79 ac_cX12_isThrown_64 5 rfl
theorem dX12_isThrown_70 : decode cX12_isThrown 70 = .ok (.aload_n 0, 1) := o42 ac_cX12_isThrown_64 6 rfl
theorem dX12_isThrown_71 : decode cX12_isThrown 71 = .ok (.getfield 110, 3) := o180 ac_cX12_isThrown_64 7 0 110 rfl
theorem dX12_isThrown_74 : decode cX12_isThrown 74 = .ok (.bipush 7, 2) := o16p ac_cX12_isThrown_64 10 7 rfl rfl
theorem dX12_isThrown_76 : decode cX12_isThrown 76 = .ok (.iload_n 1, 1) := o27 ac_cX12_isThrown_64 12 rfl
theorem dX12_isThrown_77 : decode cX12_isThrown 77 = .ok (.iadd, 1) := o96 ac_cX12_isThrown_64 13 rfl
theorem dX12_isThrown_78 : decode cX12_isThrown 78 = .ok (.iload_n 2, 1) := o28 ac_cX12_isThrown_64 14 rfl
theorem dX12_isThrown_79 : decode cX12_isThrown 79 = .ok (.iastore, 1) := o79 ac_cX12_isThrown_64 15 rfl
def kb_cX12_isThrown_80 : List Nat := [177]
theorem ac_cX12_isThrown_80 : AL cX12_isThrown 80 kb_cX12_isThrown_80 := AL.of (m := 1) (by decide +kernel)
theorem dX12_isThrown_80 : decode cX12_isThrown 80 = .ok (.return_, 1) := o177 ac_cX12_isThrown_80 0 rfl
def kb_cX12_catches_0 : List Nat := [42, 182, 1, 91, 61, 42, 3, 182, 1, 94, 184, 1, 97, 62, 42, 27, 28, 29, 182, 1]
theorem ac_cX12_catches_0 : AL cX12_catches 0 kb_cX12_catches_0 := AL.of (m := 20) (by decide +kernel)
theorem dX12_catches_0 : decode cX12_catches 0 = .ok (.aload_n 0, 1) := o42 ac_cX12_catches_0 0 rfl
theorem dX12_catches_1 : decode cX12_catches 1 = .ok (.invokevirtual 347, 3) := o182 ac_cX12_catches_0 1 1 91 rfl
theorem dX12_catches_4 : decode cX12_catches 4 = .ok (.istore_n 2, 1) := o61 ac_cX12_catches_0 4 rfl
theorem dX12_catches_5 : decode cX12_catches 5 = .ok (.aload_n 0, 1) := o42 ac_cX12_catches_0 5 rfl
theorem dX12_catches_6 : decode cX12_catches 6 = .ok (.iconst 0, 1) := o3 ac_cX12_catches_0 6 rfl
theorem dX12_catches_7 : decode cX12_catches 7 = .ok (.invokevirtual 350, 3) := o182 ac_cX12_catches_0 7 1 94 rfl
theorem dX12_catches_10 : decode cX12_catches 10 = .ok (.invokestatic 353, 3) := o184 ac_cX12_catches_0 10 1 97 rfl
theorem dX12_catches_13 : decode cX12_catches 13 = .ok (.istore_n 3, 1) := o62 ac_cX12_catches_0 13 rfl
theorem dX12_catches_14 : decode cX12_catches 14 = .ok (.aload_n 0, 1) := o42 ac_cX12_catches_0 14 rfl
theorem dX12_catches_15 : decode cX12_catches 15 = .ok (.iload_n 1, 1) := o27 ac_cX12_catches_0 15 rfl
def kb_cX12_catches_16 : List Nat := [28, 29, 182, 1, 100, 54, 4, 42, 27, 29, 182, 1, 103, 54, 5, 42, 42, 27, 29, 182]
theorem ac_cX12_catches_16 : AL cX12_catches 16 kb_cX12_catches_16 := AL.of (m := 20) (by decide +kernel)
theorem dX12_catches_16 : decode cX12_catches 16 = .ok (.iload_n 2, 1) := o28 ac_cX12_catches_16 0 rfl
theorem dX12_catches_17 : decode cX12_catches 17 = .ok (.iload_n 3, 1) := o29 ac_cX12_catches_16 1 rfl
theorem dX12_catches_18 : decode cX12_catches 18 = .ok (.invokevirtual 356, 3) := o182 ac_cX12_catches_16 2 1 100 rfl
theorem dX12_catches_21 : decode cX12_catches 21 = .ok (.istore 4, 2) := o54 ac_cX12_catches_16 5 4 rfl
theorem dX12_catches_23 : decode cX12_catches 23 = .ok (.aload_n 0, 1) := o42 ac_cX12_catches_16 7 rfl
theorem dX12_catches_24 : decode cX12_catches 24 = .ok (.iload_n 1, 1) := o27 ac_cX12_catches_16 8 rfl
theorem dX12_catches_25 : decode cX12_catches 25 = .ok (.iload_n 3, 1) := o29 ac_cX12_catches_16 9 rfl
theorem dX12_catches_26 : decode cX12_catches 26 = .ok (.invokevirtual 359, 3) := o182 ac_cX12_catches_16 10 1 103 rfl
theorem dX12_catches_29 : decode cX12_catches 29 = .ok (.istore 5, 2) := o54 ac_cX12_catches_16 13 5 rfl
theorem dX12_catches_31 : decode cX12_catches 31 = .ok (.aload_n 0, 1) := o42 ac_cX12_catches_16 15 rfl
def kb_cX12_catches_32 : List Nat := [42, 27, 29, 182, 1, 106, 181, 1, 109, 42, 180, 1, 52, 154, 0, 36, 42, 182, 1, 112]
theorem ac_cX12_catches_32 : AL cX12_catches 32 kb_cX12_catches_32 := AL.of (m := 20) (by decide +kernel)
theorem dX12_catches_32 : decode cX12_catches 32 = .ok (.aload_n 0, 1) := o42 ac_cX12_catches_32 0 rfl
theorem dX12_catches_33 : decode cX12_catches 33 = .ok (.iload_n 1, 1) := o27 ac_cX12_catches_32 1 rfl
theorem dX12_catches_34 : decode cX12_catches 34 = .ok (.iload_n 3, 1) := o29 ac_cX12_catches_32 2 rfl
theorem dX12_catches_35 : decode cX12_catches 35 = .ok (.invokevirtual 362, 3) := o182 ac_cX12_catches_32 3 1 106 rfl
theorem dX12_catches_38 : decode cX12_catches 38 = .ok (.putfield 365, 3) := o181 ac_cX12_catches_32 6 1 109 rfl
theorem dX12_catches_41 : decode cX12_catches 41 = .ok (.aload_n 0, 1) := o42 ac_cX12_catches_32 9 rfl
theorem dX12_catches_42 : decode cX12_catches 42 = .ok (.getfield 308, 3) := o180 ac_cX12_catches_32 10 1 52 rfl
theorem dX12_catches_45 : decode cX12_catches 45 = .ok (.ifCond .ne 36, 3) := o154p ac_cX12_catches_32 13 0 36 rfl rfl
def kb_cX12_catches_48 : List Nat := [42, 182, 1, 112, 42, 27, 28, 29, 182, 1, 115, 162, 0, 22, 42, 180, 0, 110, 27, 5]
theorem ac_cX12_catches_48 : AL cX12_catches 48 kb_cX12_catches_48 := AL.of (m := 20) (by decide +kernel)
theorem dX12_catches_48 : decode cX12_catches 48 = .ok (.aload_n 0, 1) := o42 ac_cX12_catches_48 0 rfl
theorem dX12_catches_49 : decode cX12_catches 49 = .ok (.invokevirtual 368, 3) := o182 ac_cX12_catches_48 1 1 112 rfl
theorem dX12_catches_52 : decode cX12_catches 52 = .ok (.aload_n 0, 1) := o42 ac_cX12_catches_48 4 rfl
theorem dX12_catches_53 : decode cX12_catches 53 = .ok (.iload_n 1, 1) := o27 ac_cX12_catches_48 5 rfl
theorem dX12_catches_54 : decode cX12_catches 54 = .ok (.iload_n 2, 1) := o28 ac_cX12_catches_48 6 rfl
theorem dX12_catches_55 : decode cX12_catches 55 = .ok (.iload_n 3, 1) := o29 ac_cX12_catches_48 7 rfl
theorem dX12_catches_56 : decode cX12_catches 56 = .ok (.invokevirtual 371, 3) := o182 ac_cX12_catches_48 8 1 115 rfl
theorem dX12_catches_59 : decode cX12_catches 59 = .ok (.if_icmp .ge 22, 3) := o162p ac_cX12_catches_48 11 0 22 rfl rfl
theorem dX12_catches_62 : decode cX12_catches 62 = .ok (.aload_n 0, 1) := o42 ac_cX12_catches_48 14 rfl
theorem dX12_catches_63 : decode cX12_catches 63 = .ok (.getfield 110, 3) := o180 ac_cX12_catches_48 15 0 110 rfl
def kb_cX12_catches_64 : List Nat := [0, 110, 27, 5, 79, 42, 180, 0, 110, 16, 23, 92, 46, 4, 96, 79, 177, 42, 27, 28]
theorem ac_cX12_catches_64 : AL cX12_catches 64 kb_cX12_catches_64 := AL.of (m := 20) (by decide +kernel)
theorem dX12_catches_66 : decode cX12_catches 66 = .ok (.iload_n 1, 1) := o27 ac_cX12_catches_64 2 rfl
theorem dX12_catches_67 : decode cX12_catches 67 = .ok (.iconst 2, 1) := o5 ac_cX12_catches_64 3 rfl
theorem dX12_catches_68 : decode cX12_catches 68 = .ok (.iastore, 1) := o79 ac_cX12_catches_64 4 rfl
theorem dX12_catches_69 : decode cX12_catches 69 = .ok (.aload_n 0, 1) := o42 ac_cX12_catches_64 5 rfl
theorem dX12_catches_70 : decode cX12_catches 70 = .ok (.getfield 110, 3) := o180 ac_cX12_catches_64 6 0 110 rfl
theorem dX12_catches_73 : decode cX12_catches 73 = .ok (.bipush 23, 2) := o16p ac_cX12_catches_64 9 23 rfl rfl
theorem dX12_catches_75 : decode cX12_catches 75 = .ok (.dup2, 1) := o92 ac_cX12_catches_64 11 rfl
theorem dX12_catches_76 : decode cX12_catches 76 = .ok (.iaload, 1) := o46 ac_cX12_catches_64 12 rfl
theorem dX12_catches_77 : decode cX12_catches 77 = .ok (.iconst 1, 1) := o4 ac_cX12_catches_64 13 rfl
theorem dX12_catches_78 : decode cX12_catches 78 = .ok (.iadd, 1) := o96 ac_cX12_catches_64 14 rfl
theorem dX12_catches_79 : decode cX12_catches 79 = .ok (.iastore, 1) := o79 ac_cX12_catches_64 15 rfl
def kb_cX12_catches_80 : List Nat := [177, 42, 27, 28, 21, 4, 21, 5, 182, 1, 118, 177]
theorem ac_cX12_catches_80 : AL cX12_catches 80 kb_cX12_catches_80 := AL.of (m := 12) (by decide +kernel)
theorem dX12_catches_80 : decode cX12_catches 80 = .ok (.return_, 1) := o177 ac_cX12_catches_80 0 rfl
theorem dX12_catches_81 : decode cX12_catches 81 = .ok (.aload_n 0, 1) := o42 ac_cX12_catches_80 1 rfl
theorem dX12_catches_82 : decode cX12_catches 82 = .ok (.iload_n 1, 1) := o27 ac_cX12_catches_80 2 rfl
theorem dX12_catches_83 : decode cX12_catches 83 = .ok (.iload_n 2, 1) := o28 ac_cX12_catches_80 3 rfl
theorem dX12_catches_84 : decode cX12_catches 84 = .ok (.iload 4, 2) := o21 ac_cX12_catches_80 4 4 rfl
theorem dX12_catches_86 : decode cX12_catches 86 = .ok (.iload 5, 2) := o21 ac_cX12_catches_80 6 5 rfl
theorem dX12_catches_88 : decode cX12_catches 88 = .ok (.invokevirtual 374, 3) := o182 ac_cX12_catches_80 8 1 118 rfl
theorem dX12_catches_91 : decode cX12_catches 91 = .ok (.return_, 1) := o177 ac_cX12_catches_80 11 rfl
theorem dX12_beatGoes_59 : decode cX12_beatGoes 59 = .ok (.aload_n 0, 1) := o42 ac_cX12_beatGoes_48 11 rfl
theorem dX12_beatGoes_60 : decode cX12_beatGoes 60 = .ok (.invokevirtual 381, 3) := o182 ac_cX12_beatGoes_48 12 1 125 rfl
theorem dX12_beatGoes_63 : decode cX12_beatGoes 63 = .ok (.aload_n 0, 1) := o42 ac_cX12_beatGoes_48 15 rfl
theorem dX12_beatGoes_64 : decode cX12_beatGoes 64 = .ok (.aload_n 0, 1) := o42 ac_cX12_beatGoes_64 0 rfl
theorem dX12_beatGoes_65 : decode cX12_beatGoes 65 = .ok (.getfield 341, 3) := o180 ac_cX12_beatGoes_64 1 1 85 rfl
theorem dX12_beatGoes_68 : decode cX12_beatGoes 68 = .ok (.invokevirtual 384, 3) := o182 ac_cX12_beatGoes_64 4 1 128 rfl
theorem dX12_beatGoes_86 : decode cX12_beatGoes 86 = .ok (.aload_n 0, 1) := o42 ac_cX12_beatGoes_80 6 rfl
theorem dX12_beatGoes_87 : decode cX12_beatGoes 87 = .ok (.getfield 110, 3) := o180 ac_cX12_beatGoes_80 7 0 110 rfl
theorem dX12_beatGoes_90 : decode cX12_beatGoes 90 = .ok (.iload_n 1, 1) := o27 ac_cX12_beatGoes_80 10 rfl
theorem dX12_beatGoes_91 : decode cX12_beatGoes 91 = .ok (.iaload, 1) := o46 ac_cX12_beatGoes_80 11 rfl
theorem dX12_beatGoes_92 : decode cX12_beatGoes 92 = .ok (.ifCond .ne 16, 3) := o154p ac_cX12_beatGoes_80 12 0 16 rfl rfl
theorem dX12_beatGoes_95 : decode cX12_beatGoes 95 = .ok (.aload_n 0, 1) := o42 ac_cX12_beatGoes_80 15 rfl
def kb_cX12_beatGoes_96 : List Nat := [180, 0, 110, 16, 7, 27, 96, 92, 46, 4, 100, 79, 132, 1, 1, 167, 255, 218, 42, 180]
theorem ac_cX12_beatGoes_96 : AL cX12_beatGoes 96 kb_cX12_beatGoes_96 := AL.of (m := 20) (by decide +kernel)
theorem dX12_beatGoes_96 : decode cX12_beatGoes 96 = .ok (.getfield 110, 3) := o180 ac_cX12_beatGoes_96 0 0 110 rfl
theorem dX12_beatGoes_99 : decode cX12_beatGoes 99 = .ok (.bipush 7, 2) := o16p ac_cX12_beatGoes_96 3 7 rfl rfl
theorem dX12_beatGoes_101 : decode cX12_beatGoes 101 = .ok (.iload_n 1, 1) := o27 ac_cX12_beatGoes_96 5 rfl
theorem dX12_beatGoes_102 : decode cX12_beatGoes 102 = .ok (.iadd, 1) := o96 ac_cX12_beatGoes_96 6 rfl
theorem dX12_beatGoes_103 : decode cX12_beatGoes 103 = .ok (.dup2, 1) := o92 ac_cX12_beatGoes_96 7 rfl
theorem dX12_beatGoes_104 : decode cX12_beatGoes 104 = .ok (.iaload, 1) := o46 ac_cX12_beatGoes_96 8 rfl
theorem dX12_beatGoes_105 : decode cX12_beatGoes 105 = .ok (.iconst 1, 1) := o4 ac_cX12_beatGoes_96 9 rfl
theorem dX12_beatGoes_106 : decode cX12_beatGoes 106 = .ok (.isub, 1) := o100 ac_cX12_beatGoes_96 10 rfl
theorem dX12_beatGoes_107 : decode cX12_beatGoes 107 = .ok (.iastore, 1) := o79 ac_cX12_beatGoes_96 11 rfl
theorem dX12_beatGoes_108 : decode cX12_beatGoes 108 = .ok (.iinc 1 1, 3) := o132p ac_cX12_beatGoes_96 12 1 1 rfl rfl
theorem dX12_beatGoes_111 : decode cX12_beatGoes 111 = .ok (.goto (-38), 3) := o167n ac_cX12_beatGoes_96 15 255 218 37 rfl rfl rfl
def kb_cX12_uses_0 : List Nat := [42, 180, 0, 110, 16, 26, 27, 79, 42, 180, 0, 110, 16, 27, 42, 180, 0, 110, 16, 21]
theorem ac_cX12_uses_0 : AL cX12_uses 0 kb_cX12_uses_0 := AL.of (m := 20) (by decide +kernel)
theorem dX12_uses_0 : decode cX12_uses 0 = .ok (.aload_n 0, 1) := o42 ac_cX12_uses_0 0 rfl
theorem dX12_uses_1 : decode cX12_uses 1 = .ok (.getfield 110, 3) := o180 ac_cX12_uses_0 1 0 110 rfl
theorem dX12_uses_4 : decode cX12_uses 4 = .ok (.bipush 26, 2) := o16p ac_cX12_uses_0 4 26 rfl rfl
theorem dX12_uses_6 : decode cX12_uses 6 = .ok (.iload_n 1, 1) := o27 ac_cX12_uses_0 6 rfl
theorem dX12_uses_7 : decode cX12_uses 7 = .ok (.iastore, 1) := o79 ac_cX12_uses_0 7 rfl
theorem dX12_uses_8 : decode cX12_uses 8 = .ok (.aload_n 0, 1) := o42 ac_cX12_uses_0 8 rfl
theorem dX12_uses_9 : decode cX12_uses 9 = .ok (.getfield 110, 3) := o180 ac_cX12_uses_0 9 0 110 rfl
theorem dX12_uses_12 : decode cX12_uses 12 = .ok (.bipush 27, 2) := o16p ac_cX12_uses_0 12 27 rfl rfl
theorem dX12_uses_14 : decode cX12_uses 14 = .ok (.aload_n 0, 1) := o42 ac_cX12_uses_0 14 rfl
theorem dX12_uses_15 : decode cX12_uses 15 = .ok (.getfield 110, 3) := o180 ac_cX12_uses_0 15 0 110 rfl
def kb_cX12_uses_16 : List Nat := [0, 110, 16, 21, 46, 79, 177]
theorem ac_cX12_uses_16 : AL cX12_uses 16 kb_cX12_uses_16 := AL.of (m := 7) (by decide +kernel)
theorem dX12_uses_18 : decode cX12_uses 18 = .ok (.bipush 21, 2) := o16p ac_cX12_uses_16 2 21 rfl rfl
theorem dX12_uses_20 : decode cX12_uses 20 = .ok (.iaload, 1) := o46 ac_cX12_uses_16 4 rfl
theorem dX12_uses_21 : decode cX12_uses 21 = .ok (.iastore, 1) := o79 ac_cX12_uses_16 5 rfl
theorem dX12_uses_22 : decode cX12_uses 22 = .ok (.return_, 1) := o177 ac_cX12_uses_16 6 rfl
theorem dX12_clash_23 : decode cX12_clash 23 = .ok (.iload_n 1, 1) := o27 ac_cX12_clash_16 7 rfl
theorem dX12_clash_24 : decode cX12_clash 24 = .ok (.ireturn, 1) := o172 ac_cX12_clash_16 8 rfl
def kb_cX12_hasRoom_0 : List Nat := [42, 182, 1, 173, 42, 180, 0, 110, 27, 3, 79, 42, 180, 0, 110, 16, 7, 27, 96, 28]
theorem ac_cX12_hasRoom_0 : AL cX12_hasRoom 0 kb_cX12_hasRoom_0 := AL.of (m := 20) (by decide +kernel)
theorem dX12_hasRoom_0 : decode cX12_hasRoom 0 = .ok (.aload_n 0, 1) := o42 ac_cX12_hasRoom_0 0 rfl
theorem dX12_hasRoom_1 : decode cX12_hasRoom 1 = .ok (.invokevirtual 429, 3) := o182 ac_cX12_hasRoom_0 1 1 173 rfl
theorem dX12_hasRoom_4 : decode cX12_hasRoom 4 = .ok (.aload_n 0, 1) := o42 ac_cX12_hasRoom_0 4 rfl
theorem dX12_hasRoom_5 : decode cX12_hasRoom 5 = .ok (.getfield 110, 3) := o180 ac_cX12_hasRoom_0 5 0 110 rfl
theorem dX12_hasRoom_8 : decode cX12_hasRoom 8 = .ok (.iload_n 1, 1) := o27 ac_cX12_hasRoom_0 8 rfl
theorem dX12_hasRoom_9 : decode cX12_hasRoom 9 = .ok (.iconst 0, 1) := o3 ac_cX12_hasRoom_0 9 rfl
theorem dX12_hasRoom_10 : decode cX12_hasRoom 10 = .ok (.iastore, 1) := o79 ac_cX12_hasRoom_0 10 rfl
theorem dX12_hasRoom_11 : decode cX12_hasRoom 11 = .ok (.aload_n 0, 1) := o42 ac_cX12_hasRoom_0 11 rfl
theorem dX12_hasRoom_12 : decode cX12_hasRoom 12 = .ok (.getfield 110, 3) := o180 ac_cX12_hasRoom_0 12 0 110 rfl
theorem dX12_hasRoom_15 : decode cX12_hasRoom 15 = .ok (.bipush 7, 2) := o16p ac_cX12_hasRoom_0 15 7 rfl rfl
def kb_cX12_hasRoom_16 : List Nat := [7, 27, 96, 28, 79, 3, 62, 29, 16, 60, 162, 0, 22, 42, 182, 1, 131, 42, 180, 1]
theorem ac_cX12_hasRoom_16 : AL cX12_hasRoom 16 kb_cX12_hasRoom_16 := AL.of (m := 20) (by decide +kernel)
theorem dX12_hasRoom_17 : decode cX12_hasRoom 17 = .ok (.iload_n 1, 1) := o27 ac_cX12_hasRoom_16 1 rfl
theorem dX12_hasRoom_18 : decode cX12_hasRoom 18 = .ok (.iadd, 1) := o96 ac_cX12_hasRoom_16 2 rfl
theorem dX12_hasRoom_19 : decode cX12_hasRoom 19 = .ok (.iload_n 2, 1) := o28 ac_cX12_hasRoom_16 3 rfl
theorem dX12_hasRoom_20 : decode cX12_hasRoom 20 = .ok (.iastore, 1) := o79 ac_cX12_hasRoom_16 4 rfl
theorem dX12_hasRoom_21 : decode cX12_hasRoom 21 = .ok (.iconst 0, 1) := o3 ac_cX12_hasRoom_16 5 rfl
theorem dX12_hasRoom_22 : decode cX12_hasRoom 22 = .ok (.istore_n 3, 1) := o62 ac_cX12_hasRoom_16 6 rfl
theorem dX12_hasRoom_23 : decode cX12_hasRoom 23 = .ok (.iload_n 3, 1) := o29 ac_cX12_hasRoom_16 7 rfl
theorem dX12_hasRoom_24 : decode cX12_hasRoom 24 = .ok (.bipush 60, 2) := o16p ac_cX12_hasRoom_16 8 60 rfl rfl
theorem dX12_hasRoom_26 : decode cX12_hasRoom 26 = .ok (.if_icmp .ge 22, 3) := o162p ac_cX12_hasRoom_16 10 0 22 rfl rfl
theorem dX12_hasRoom_29 : decode cX12_hasRoom 29 = .ok (.aload_n 0, 1) := o42 ac_cX12_hasRoom_16 13 rfl
theorem dX12_hasRoom_30 : decode cX12_hasRoom 30 = .ok (.invokevirtual 387, 3) := o182 ac_cX12_hasRoom_16 14 1 131 rfl
def kb_cX12_hasRoom_32 : List Nat := [131, 42, 180, 1, 88, 153, 0, 5, 3, 172, 132, 3, 1, 167, 255, 234, 4, 172]
theorem ac_cX12_hasRoom_32 : AL cX12_hasRoom 32 kb_cX12_hasRoom_32 := AL.of (m := 18) (by decide +kernel)
theorem dX12_hasRoom_33 : decode cX12_hasRoom 33 = .ok (.aload_n 0, 1) := o42 ac_cX12_hasRoom_32 1 rfl
theorem dX12_hasRoom_34 : decode cX12_hasRoom 34 = .ok (.getfield 344, 3) := o180 ac_cX12_hasRoom_32 2 1 88 rfl
theorem dX12_hasRoom_37 : decode cX12_hasRoom 37 = .ok (.ifCond .eq 5, 3) := o153p ac_cX12_hasRoom_32 5 0 5 rfl rfl
theorem dX12_hasRoom_40 : decode cX12_hasRoom 40 = .ok (.iconst 0, 1) := o3 ac_cX12_hasRoom_32 8 rfl
theorem dX12_hasRoom_41 : decode cX12_hasRoom 41 = .ok (.ireturn, 1) := o172 ac_cX12_hasRoom_32 9 rfl
theorem dX12_hasRoom_42 : decode cX12_hasRoom 42 = .ok (.iinc 3 1, 3) := o132p ac_cX12_hasRoom_32 10 3 1 rfl rfl
theorem dX12_hasRoom_45 : decode cX12_hasRoom 45 = .ok (.goto (-22), 3) := o167n ac_cX12_hasRoom_32 13 255 234 21 rfl rfl rfl
def kb_cX12_hasRoom_48 : List Nat := [4, 172]
theorem ac_cX12_hasRoom_48 : AL cX12_hasRoom 48 kb_cX12_hasRoom_48 := AL.of (m := 2) (by decide +kernel)
theorem dX12_hasRoom_48 : decode cX12_hasRoom 48 = .ok (.iconst 1, 1) := o4 ac_cX12_hasRoom_48 0 rfl
theorem dX12_hasRoom_49 : decode cX12_hasRoom 49 = .ok (.ireturn, 1) := o172 ac_cX12_hasRoom_48 1 rfl
theorem dX12_room_8 : decode cX12_room 8 = .ok (.aload_n 0, 1) := o42 ac_cX12_room_0 8 rfl
theorem dX12_room_9 : decode cX12_room 9 = .ok (.getfield 107, 3) := o180 ac_cX12_room_0 9 0 107 rfl
theorem dX12_room_12 : decode cX12_room 12 = .ok (.iload_n 1, 1) := o27 ac_cX12_room_0 12 rfl
theorem dX12_room_13 : decode cX12_room 13 = .ok (.iaload, 1) := o46 ac_cX12_room_0 13 rfl
theorem dX12_room_14 : decode cX12_room 14 = .ok (.ifCond .ne 5, 3) := o154p ac_cX12_room_0 14 0 5 rfl rfl
theorem dX12_room_19 : decode cX12_room 19 = .ok (.iconst 0, 1) := o3 ac_cX12_room_16 3 rfl
theorem dX12_room_20 : decode cX12_room 20 = .ok (.istore_n 2, 1) := o61 ac_cX12_room_16 4 rfl
theorem dX12_room_21 : decode cX12_room 21 = .ok (.iload_n 2, 1) := o28 ac_cX12_room_16 5 rfl
theorem dX12_room_22 : decode cX12_room 22 = .ok (.bipush 10, 2) := o16p ac_cX12_room_16 6 10 rfl rfl
theorem dX12_room_24 : decode cX12_room 24 = .ok (.if_icmp .ge 20, 3) := o162p ac_cX12_room_16 8 0 20 rfl rfl
theorem dX12_room_27 : decode cX12_room 27 = .ok (.aload_n 0, 1) := o42 ac_cX12_room_16 11 rfl
theorem dX12_room_28 : decode cX12_room 28 = .ok (.iload_n 1, 1) := o27 ac_cX12_room_16 12 rfl
theorem dX12_room_29 : decode cX12_room 29 = .ok (.iload_n 2, 1) := o28 ac_cX12_room_16 13 rfl
theorem dX12_room_30 : decode cX12_room 30 = .ok (.invokevirtual 451, 3) := o182 ac_cX12_room_16 14 1 195 rfl
def kb_cX12_room_32 : List Nat := [195, 153, 0, 5, 28, 172, 132, 2, 1, 167, 255, 236, 16, 254, 172]
theorem ac_cX12_room_32 : AL cX12_room 32 kb_cX12_room_32 := AL.of (m := 15) (by decide +kernel)
theorem dX12_room_33 : decode cX12_room 33 = .ok (.ifCond .eq 5, 3) := o153p ac_cX12_room_32 1 0 5 rfl rfl
theorem dX12_room_36 : decode cX12_room 36 = .ok (.iload_n 2, 1) := o28 ac_cX12_room_32 4 rfl
theorem dX12_room_37 : decode cX12_room 37 = .ok (.ireturn, 1) := o172 ac_cX12_room_32 5 rfl
theorem dX12_room_38 : decode cX12_room 38 = .ok (.iinc 2 1, 3) := o132p ac_cX12_room_32 6 2 1 rfl rfl
theorem dX12_room_41 : decode cX12_room 41 = .ok (.goto (-20), 3) := o167n ac_cX12_room_32 9 255 236 19 rfl rfl rfl
theorem dX12_room_44 : decode cX12_room 44 = .ok (.bipush (-2), 2) := o16n ac_cX12_room_32 12 254 1 rfl rfl rfl
theorem dX12_room_46 : decode cX12_room 46 = .ok (.ireturn, 1) := o172 ac_cX12_room_32 14 rfl
theorem dX12_handover_24 : decode cX12_handover 24 = .ok (.aload_n 0, 1) := o42 ac_cX12_handover_16 8 rfl
theorem dX12_handover_25 : decode cX12_handover 25 = .ok (.invokevirtual 387, 3) := o182 ac_cX12_handover_16 9 1 131 rfl
theorem dX12_handover_28 : decode cX12_handover 28 = .ok (.aload_n 0, 1) := o42 ac_cX12_handover_16 12 rfl
theorem dX12_handover_29 : decode cX12_handover 29 = .ok (.getfield 341, 3) := o180 ac_cX12_handover_16 13 1 85 rfl
def kb_cX12_handover_32 : List Nat := [155, 0, 14, 27, 4, 42, 180, 1, 85, 120, 2, 130, 126, 60, 27, 42, 5, 182, 1, 94]
theorem ac_cX12_handover_32 : AL cX12_handover 32 kb_cX12_handover_32 := AL.of (m := 20) (by decide +kernel)
theorem dX12_handover_32 : decode cX12_handover 32 = .ok (.ifCond .lt 14, 3) := o155p ac_cX12_handover_32 0 0 14 rfl rfl
theorem dX12_handover_35 : decode cX12_handover 35 = .ok (.iload_n 1, 1) := o27 ac_cX12_handover_32 3 rfl
theorem dX12_handover_36 : decode cX12_handover 36 = .ok (.iconst 1, 1) := o4 ac_cX12_handover_32 4 rfl
theorem dX12_handover_37 : decode cX12_handover 37 = .ok (.aload_n 0, 1) := o42 ac_cX12_handover_32 5 rfl
theorem dX12_handover_38 : decode cX12_handover 38 = .ok (.getfield 341, 3) := o180 ac_cX12_handover_32 6 1 85 rfl
theorem dX12_handover_41 : decode cX12_handover 41 = .ok (.ishl, 1) := o120 ac_cX12_handover_32 9 rfl
theorem dX12_handover_42 : decode cX12_handover 42 = .ok (.iconst (-1), 1) := o2 ac_cX12_handover_32 10 rfl
theorem dX12_handover_43 : decode cX12_handover 43 = .ok (.ixor, 1) := o130 ac_cX12_handover_32 11 rfl
theorem dX12_handover_44 : decode cX12_handover 44 = .ok (.iand, 1) := o126 ac_cX12_handover_32 12 rfl
theorem dX12_handover_45 : decode cX12_handover 45 = .ok (.istore_n 1, 1) := o60 ac_cX12_handover_32 13 rfl
theorem dX12_handover_46 : decode cX12_handover 46 = .ok (.iload_n 1, 1) := o27 ac_cX12_handover_32 14 rfl
theorem dX12_handover_47 : decode cX12_handover 47 = .ok (.aload_n 0, 1) := o42 ac_cX12_handover_32 15 rfl
def kb_cX12_handover_48 : List Nat := [5, 182, 1, 94, 126, 153, 0, 6, 16, 254, 172, 132, 2, 1, 167, 255, 206, 16, 254, 172]
theorem ac_cX12_handover_48 : AL cX12_handover 48 kb_cX12_handover_48 := AL.of (m := 20) (by decide +kernel)
theorem dX12_handover_48 : decode cX12_handover 48 = .ok (.iconst 2, 1) := o5 ac_cX12_handover_48 0 rfl
theorem dX12_handover_49 : decode cX12_handover 49 = .ok (.invokevirtual 350, 3) := o182 ac_cX12_handover_48 1 1 94 rfl
theorem dX12_handover_52 : decode cX12_handover 52 = .ok (.iand, 1) := o126 ac_cX12_handover_48 4 rfl
theorem dX12_handover_53 : decode cX12_handover 53 = .ok (.ifCond .eq 6, 3) := o153p ac_cX12_handover_48 5 0 6 rfl rfl
theorem dX12_handover_56 : decode cX12_handover 56 = .ok (.bipush (-2), 2) := o16n ac_cX12_handover_48 8 254 1 rfl rfl rfl
theorem dX12_handover_58 : decode cX12_handover 58 = .ok (.ireturn, 1) := o172 ac_cX12_handover_48 10 rfl
theorem dX12_handover_59 : decode cX12_handover 59 = .ok (.iinc 2 1, 3) := o132p ac_cX12_handover_48 11 2 1 rfl rfl
theorem dX12_handover_62 : decode cX12_handover 62 = .ok (.goto (-50), 3) := o167n ac_cX12_handover_48 14 255 206 49 rfl rfl rfl
def kb_cX12_handover_64 : List Nat := [206, 16, 254, 172]
theorem ac_cX12_handover_64 : AL cX12_handover 64 kb_cX12_handover_64 := AL.of (m := 4) (by decide +kernel)
theorem dX12_handover_65 : decode cX12_handover 65 = .ok (.bipush (-2), 2) := o16n ac_cX12_handover_64 1 254 1 rfl rfl rfl
theorem dX12_handover_67 : decode cX12_handover 67 = .ok (.ireturn, 1) := o172 ac_cX12_handover_64 3 rfl
theorem dX12_busiest_61 : decode cX12_busiest 61 = .ok (.aload_n 0, 1) := o42 ac_cX12_busiest_48 13 rfl
theorem dX12_busiest_62 : decode cX12_busiest 62 = .ok (.getfield 122, 3) := o180 ac_cX12_busiest_48 14 0 122 rfl
theorem dX12_busiest_65 : decode cX12_busiest 65 = .ok (.aload_n 0, 1) := o42 ac_cX12_busiest_64 1 rfl
theorem dX12_busiest_66 : decode cX12_busiest 66 = .ok (.getfield 341, 3) := o180 ac_cX12_busiest_64 2 1 85 rfl
theorem dX12_busiest_69 : decode cX12_busiest 69 = .ok (.dup2, 1) := o92 ac_cX12_busiest_64 5 rfl
theorem dX12_busiest_70 : decode cX12_busiest 70 = .ok (.iaload, 1) := o46 ac_cX12_busiest_64 6 rfl
theorem dX12_busiest_71 : decode cX12_busiest 71 = .ok (.iconst 1, 1) := o4 ac_cX12_busiest_64 7 rfl
theorem dX12_busiest_72 : decode cX12_busiest 72 = .ok (.iadd, 1) := o96 ac_cX12_busiest_64 8 rfl
theorem dX12_busiest_73 : decode cX12_busiest 73 = .ok (.iastore, 1) := o79 ac_cX12_busiest_64 9 rfl
theorem dX12_busiest_108 : decode cX12_busiest 108 = .ok (.iload 4, 2) := o21 ac_cX12_busiest_96 12 4 rfl
theorem dX12_busiest_110 : decode cX12_busiest 110 = .ok (.istore_n 3, 1) := o62 ac_cX12_busiest_96 14 rfl
theorem dX12_busiest_131 : decode cX12_busiest 131 = .ok (.iload_n 2, 1) := o28 ac_cX12_busiest_128 3 rfl
theorem dX12_busiest_132 : decode cX12_busiest 132 = .ok (.ifCond .ne 7, 3) := o154p ac_cX12_busiest_128 4 0 7 rfl rfl
theorem dX12_busiest_135 : decode cX12_busiest 135 = .ok (.iload_n 3, 1) := o29 ac_cX12_busiest_128 7 rfl
theorem dX12_busiest_136 : decode cX12_busiest 136 = .ok (.goto 9, 3) := o167p ac_cX12_busiest_128 8 0 9 rfl rfl
theorem dX12_busiest_139 : decode cX12_busiest 139 = .ok (.aload_n 0, 1) := o42 ac_cX12_busiest_128 11 rfl
theorem dX12_busiest_140 : decode cX12_busiest 140 = .ok (.getfield 122, 3) := o180 ac_cX12_busiest_128 12 0 122 rfl
theorem dX12_busiest_143 : decode cX12_busiest 143 = .ok (.iload_n 3, 1) := o29 ac_cX12_busiest_128 15 rfl
theorem dX12_busiest_144 : decode cX12_busiest 144 = .ok (.iaload, 1) := o46 ac_cX12_busiest_144 0 rfl
def kb_cX12_load_32 : List Nat := [23, 28, 42, 180, 0, 46, 16, 7, 42, 180, 0, 221, 104, 42, 180, 1, 85, 96, 46, 96]
theorem ac_cX12_load_32 : AL cX12_load 32 kb_cX12_load_32 := AL.of (m := 20) (by decide +kernel)
theorem dX12_load_33 : decode cX12_load 33 = .ok (.iload_n 2, 1) := o28 ac_cX12_load_32 1 rfl
theorem dX12_load_34 : decode cX12_load 34 = .ok (.aload_n 0, 1) := o42 ac_cX12_load_32 2 rfl
theorem dX12_load_35 : decode cX12_load 35 = .ok (.getfield 46, 3) := o180 ac_cX12_load_32 3 0 46 rfl
theorem dX12_load_38 : decode cX12_load 38 = .ok (.bipush 7, 2) := o16p ac_cX12_load_32 6 7 rfl rfl
theorem dX12_load_40 : decode cX12_load 40 = .ok (.aload_n 0, 1) := o42 ac_cX12_load_32 8 rfl
theorem dX12_load_41 : decode cX12_load 41 = .ok (.getfield 221, 3) := o180 ac_cX12_load_32 9 0 221 rfl
theorem dX12_load_44 : decode cX12_load 44 = .ok (.imul, 1) := o104 ac_cX12_load_32 12 rfl
theorem dX12_load_45 : decode cX12_load 45 = .ok (.aload_n 0, 1) := o42 ac_cX12_load_32 13 rfl
theorem dX12_load_46 : decode cX12_load 46 = .ok (.getfield 341, 3) := o180 ac_cX12_load_32 14 1 85 rfl
theorem dX12_load_49 : decode cX12_load 49 = .ok (.iadd, 1) := o96 ac_cX12_load_48 1 rfl
theorem dX12_load_50 : decode cX12_load 50 = .ok (.iaload, 1) := o46 ac_cX12_load_48 2 rfl
theorem dX12_load_51 : decode cX12_load 51 = .ok (.iadd, 1) := o96 ac_cX12_load_48 3 rfl
theorem dX12_load_52 : decode cX12_load 52 = .ok (.istore_n 2, 1) := o61 ac_cX12_load_48 4 rfl
theorem dX12_gap_25 : decode cX12_gap 25 = .ok (.iinc 1 1, 3) := o132p ac_cX12_gap_16 9 1 1 rfl rfl
theorem dX12_gap_28 : decode cX12_gap 28 = .ok (.goto (-22), 3) := o167n ac_cX12_gap_16 12 255 234 21 rfl rfl rfl
theorem dX12_gap_31 : decode cX12_gap 31 = .ok (.bipush (-2), 2) := o16n ac_cX12_gap_16 15 254 1 rfl rfl rfl
def kb_cX12_gap_32 : List Nat := [254, 172]
theorem ac_cX12_gap_32 : AL cX12_gap 32 kb_cX12_gap_32 := AL.of (m := 2) (by decide +kernel)
theorem dX12_gap_33 : decode cX12_gap 33 = .ok (.ireturn, 1) := o172 ac_cX12_gap_32 1 rfl
def kb_cX12_takesPattern_0 : List Nat := [3, 62, 29, 42, 27, 182, 1, 62, 162, 0, 23, 42, 180, 0, 116, 28, 29, 96, 42, 27]
theorem ac_cX12_takesPattern_0 : AL cX12_takesPattern 0 kb_cX12_takesPattern_0 := AL.of (m := 20) (by decide +kernel)
theorem dX12_takesPattern_0 : decode cX12_takesPattern 0 = .ok (.iconst 0, 1) := o3 ac_cX12_takesPattern_0 0 rfl
theorem dX12_takesPattern_1 : decode cX12_takesPattern 1 = .ok (.istore_n 3, 1) := o62 ac_cX12_takesPattern_0 1 rfl
theorem dX12_takesPattern_2 : decode cX12_takesPattern 2 = .ok (.iload_n 3, 1) := o29 ac_cX12_takesPattern_0 2 rfl
theorem dX12_takesPattern_3 : decode cX12_takesPattern 3 = .ok (.aload_n 0, 1) := o42 ac_cX12_takesPattern_0 3 rfl
theorem dX12_takesPattern_4 : decode cX12_takesPattern 4 = .ok (.iload_n 1, 1) := o27 ac_cX12_takesPattern_0 4 rfl
theorem dX12_takesPattern_5 : decode cX12_takesPattern 5 = .ok (.invokevirtual 318, 3) := o182 ac_cX12_takesPattern_0 5 1 62 rfl
theorem dX12_takesPattern_8 : decode cX12_takesPattern 8 = .ok (.if_icmp .ge 23, 3) := o162p ac_cX12_takesPattern_0 8 0 23 rfl rfl
theorem dX12_takesPattern_11 : decode cX12_takesPattern 11 = .ok (.aload_n 0, 1) := o42 ac_cX12_takesPattern_0 11 rfl
theorem dX12_takesPattern_12 : decode cX12_takesPattern 12 = .ok (.getfield 116, 3) := o180 ac_cX12_takesPattern_0 12 0 116 rfl
theorem dX12_takesPattern_15 : decode cX12_takesPattern 15 = .ok (.iload_n 2, 1) := o28 ac_cX12_takesPattern_0 15 rfl
def kb_cX12_takesPattern_16 : List Nat := [29, 96, 42, 27, 29, 182, 1, 65, 79, 132, 3, 1, 167, 255, 230, 42, 28, 42, 27, 182]
theorem ac_cX12_takesPattern_16 : AL cX12_takesPattern 16 kb_cX12_takesPattern_16 := AL.of (m := 20) (by decide +kernel)
theorem dX12_takesPattern_16 : decode cX12_takesPattern 16 = .ok (.iload_n 3, 1) := o29 ac_cX12_takesPattern_16 0 rfl
theorem dX12_takesPattern_17 : decode cX12_takesPattern 17 = .ok (.iadd, 1) := o96 ac_cX12_takesPattern_16 1 rfl
theorem dX12_takesPattern_18 : decode cX12_takesPattern 18 = .ok (.aload_n 0, 1) := o42 ac_cX12_takesPattern_16 2 rfl
theorem dX12_takesPattern_19 : decode cX12_takesPattern 19 = .ok (.iload_n 1, 1) := o27 ac_cX12_takesPattern_16 3 rfl
theorem dX12_takesPattern_20 : decode cX12_takesPattern 20 = .ok (.iload_n 3, 1) := o29 ac_cX12_takesPattern_16 4 rfl
theorem dX12_takesPattern_21 : decode cX12_takesPattern 21 = .ok (.invokevirtual 321, 3) := o182 ac_cX12_takesPattern_16 5 1 65 rfl
theorem dX12_takesPattern_24 : decode cX12_takesPattern 24 = .ok (.iastore, 1) := o79 ac_cX12_takesPattern_16 8 rfl
theorem dX12_takesPattern_25 : decode cX12_takesPattern 25 = .ok (.iinc 3 1, 3) := o132p ac_cX12_takesPattern_16 9 3 1 rfl rfl
theorem dX12_takesPattern_28 : decode cX12_takesPattern 28 = .ok (.goto (-26), 3) := o167n ac_cX12_takesPattern_16 12 255 230 25 rfl rfl rfl
theorem dX12_takesPattern_31 : decode cX12_takesPattern 31 = .ok (.aload_n 0, 1) := o42 ac_cX12_takesPattern_16 15 rfl
def kb_cX12_takesPattern_32 : List Nat := [28, 42, 27, 182, 1, 62, 96, 181, 1, 152, 177]
theorem ac_cX12_takesPattern_32 : AL cX12_takesPattern 32 kb_cX12_takesPattern_32 := AL.of (m := 11) (by decide +kernel)
theorem dX12_takesPattern_32 : decode cX12_takesPattern 32 = .ok (.iload_n 2, 1) := o28 ac_cX12_takesPattern_32 0 rfl
theorem dX12_takesPattern_33 : decode cX12_takesPattern 33 = .ok (.aload_n 0, 1) := o42 ac_cX12_takesPattern_32 1 rfl
theorem dX12_takesPattern_34 : decode cX12_takesPattern 34 = .ok (.iload_n 1, 1) := o27 ac_cX12_takesPattern_32 2 rfl
theorem dX12_takesPattern_35 : decode cX12_takesPattern 35 = .ok (.invokevirtual 318, 3) := o182 ac_cX12_takesPattern_32 3 1 62 rfl
theorem dX12_takesPattern_38 : decode cX12_takesPattern 38 = .ok (.iadd, 1) := o96 ac_cX12_takesPattern_32 6 rfl
theorem dX12_takesPattern_39 : decode cX12_takesPattern 39 = .ok (.putfield 408, 3) := o181 ac_cX12_takesPattern_32 7 1 152 rfl
theorem dX12_takesPattern_42 : decode cX12_takesPattern 42 = .ok (.return_, 1) := o177 ac_cX12_takesPattern_32 10 rfl
def kb_cX12_keepsOf_0 : List Nat := [42, 27, 3, 182, 1, 155, 42, 182, 1, 158, 172]
theorem ac_cX12_keepsOf_0 : AL cX12_keepsOf 0 kb_cX12_keepsOf_0 := AL.of (m := 11) (by decide +kernel)
theorem dX12_keepsOf_0 : decode cX12_keepsOf 0 = .ok (.aload_n 0, 1) := o42 ac_cX12_keepsOf_0 0 rfl
theorem dX12_keepsOf_1 : decode cX12_keepsOf 1 = .ok (.iload_n 1, 1) := o27 ac_cX12_keepsOf_0 1 rfl
theorem dX12_keepsOf_2 : decode cX12_keepsOf 2 = .ok (.iconst 0, 1) := o3 ac_cX12_keepsOf_0 2 rfl
theorem dX12_keepsOf_3 : decode cX12_keepsOf 3 = .ok (.invokevirtual 411, 3) := o182 ac_cX12_keepsOf_0 3 1 155 rfl
theorem dX12_keepsOf_6 : decode cX12_keepsOf 6 = .ok (.aload_n 0, 1) := o42 ac_cX12_keepsOf_0 6 rfl
theorem dX12_keepsOf_7 : decode cX12_keepsOf 7 = .ok (.invokevirtual 414, 3) := o182 ac_cX12_keepsOf_0 7 1 158 rfl
theorem dX12_keepsOf_10 : decode cX12_keepsOf 10 = .ok (.ireturn, 1) := o172 ac_cX12_keepsOf_0 10 rfl
theorem dX12_light_42 : decode cX12_light 42 = .ok (.aload_n 0, 1) := o42 ac_cX12_light_32 10 rfl
theorem dX12_light_43 : decode cX12_light 43 = .ok (.invokevirtual 429, 3) := o182 ac_cX12_light_32 11 1 173 rfl
theorem dX12_light_46 : decode cX12_light 46 = .ok (.aload_n 0, 1) := o42 ac_cX12_light_32 14 rfl
theorem dX12_light_47 : decode cX12_light 47 = .ok (.iload 5, 2) := o21 ac_cX12_light_32 15 5 rfl
def kb_cX12_light_48 : List Nat := [5, 182, 1, 161, 42, 3, 182, 1, 94, 184, 1, 97, 159, 0, 6, 167, 0, 45, 42, 21]
theorem ac_cX12_light_48 : AL cX12_light 48 kb_cX12_light_48 := AL.of (m := 20) (by decide +kernel)
theorem dX12_light_49 : decode cX12_light 49 = .ok (.invokevirtual 417, 3) := o182 ac_cX12_light_48 1 1 161 rfl
theorem dX12_light_52 : decode cX12_light 52 = .ok (.aload_n 0, 1) := o42 ac_cX12_light_48 4 rfl
theorem dX12_light_53 : decode cX12_light 53 = .ok (.iconst 0, 1) := o3 ac_cX12_light_48 5 rfl
theorem dX12_light_54 : decode cX12_light 54 = .ok (.invokevirtual 350, 3) := o182 ac_cX12_light_48 6 1 94 rfl
theorem dX12_light_57 : decode cX12_light 57 = .ok (.invokestatic 353, 3) := o184 ac_cX12_light_48 9 1 97 rfl
theorem dX12_light_60 : decode cX12_light 60 = .ok (.if_icmp .eq 6, 3) := o159p ac_cX12_light_48 12 0 6 rfl rfl
theorem dX12_light_63 : decode cX12_light 63 = .ok (.goto 45, 3) := o167p ac_cX12_light_48 15 0 45 rfl rfl
def kb_cX12_light_64 : List Nat := [0, 45, 42, 21, 5, 182, 1, 143, 42, 27, 182, 1, 149, 29, 155, 0, 18, 42, 180, 0]
theorem ac_cX12_light_64 : AL cX12_light 64 kb_cX12_light_64 := AL.of (m := 20) (by decide +kernel)
theorem dX12_light_66 : decode cX12_light 66 = .ok (.aload_n 0, 1) := o42 ac_cX12_light_64 2 rfl
theorem dX12_light_67 : decode cX12_light 67 = .ok (.iload 5, 2) := o21 ac_cX12_light_64 3 5 rfl
theorem dX12_light_69 : decode cX12_light 69 = .ok (.invokevirtual 399, 3) := o182 ac_cX12_light_64 5 1 143 rfl
theorem dX12_light_72 : decode cX12_light 72 = .ok (.aload_n 0, 1) := o42 ac_cX12_light_64 8 rfl
theorem dX12_light_73 : decode cX12_light 73 = .ok (.iload_n 1, 1) := o27 ac_cX12_light_64 9 rfl
theorem dX12_light_74 : decode cX12_light 74 = .ok (.invokevirtual 405, 3) := o182 ac_cX12_light_64 10 1 149 rfl
theorem dX12_light_77 : decode cX12_light 77 = .ok (.iload_n 3, 1) := o29 ac_cX12_light_64 13 rfl
theorem dX12_light_78 : decode cX12_light 78 = .ok (.ifCond .lt 18, 3) := o155p ac_cX12_light_64 14 0 18 rfl rfl
def kb_cX12_light_80 : List Nat := [18, 42, 180, 0, 110, 16, 22, 46, 21, 4, 161, 0, 6, 167, 0, 15, 21, 5, 62, 42]
theorem ac_cX12_light_80 : AL cX12_light 80 kb_cX12_light_80 := AL.of (m := 20) (by decide +kernel)
theorem dX12_light_81 : decode cX12_light 81 = .ok (.aload_n 0, 1) := o42 ac_cX12_light_80 1 rfl
theorem dX12_light_82 : decode cX12_light 82 = .ok (.getfield 110, 3) := o180 ac_cX12_light_80 2 0 110 rfl
theorem dX12_light_85 : decode cX12_light 85 = .ok (.bipush 22, 2) := o16p ac_cX12_light_80 5 22 rfl rfl
theorem dX12_light_87 : decode cX12_light 87 = .ok (.iaload, 1) := o46 ac_cX12_light_80 7 rfl
theorem dX12_light_88 : decode cX12_light 88 = .ok (.iload 4, 2) := o21 ac_cX12_light_80 8 4 rfl
theorem dX12_light_90 : decode cX12_light 90 = .ok (.if_icmp .lt 6, 3) := o161p ac_cX12_light_80 10 0 6 rfl rfl
theorem dX12_light_93 : decode cX12_light 93 = .ok (.goto 15, 3) := o167p ac_cX12_light_80 13 0 15 rfl rfl
def kb_cX12_light_96 : List Nat := [21, 5, 62, 42, 180, 0, 110, 16, 22, 46, 54, 4, 132, 5, 1, 167, 255, 173, 28, 154]
theorem ac_cX12_light_96 : AL cX12_light 96 kb_cX12_light_96 := AL.of (m := 20) (by decide +kernel)
theorem dX12_light_96 : decode cX12_light 96 = .ok (.iload 5, 2) := o21 ac_cX12_light_96 0 5 rfl
theorem dX12_light_98 : decode cX12_light 98 = .ok (.istore_n 3, 1) := o62 ac_cX12_light_96 2 rfl
theorem dX12_light_99 : decode cX12_light 99 = .ok (.aload_n 0, 1) := o42 ac_cX12_light_96 3 rfl
theorem dX12_light_100 : decode cX12_light 100 = .ok (.getfield 110, 3) := o180 ac_cX12_light_96 4 0 110 rfl
theorem dX12_light_103 : decode cX12_light 103 = .ok (.bipush 22, 2) := o16p ac_cX12_light_96 7 22 rfl rfl
theorem dX12_light_105 : decode cX12_light 105 = .ok (.iaload, 1) := o46 ac_cX12_light_96 9 rfl
theorem dX12_light_106 : decode cX12_light 106 = .ok (.istore 4, 2) := o54 ac_cX12_light_96 10 4 rfl
theorem dX12_light_108 : decode cX12_light 108 = .ok (.iinc 5 1, 3) := o132p ac_cX12_light_96 12 5 1 rfl rfl
theorem dX12_light_111 : decode cX12_light 111 = .ok (.goto (-83), 3) := o167n ac_cX12_light_96 15 255 173 82 rfl rfl rfl
theorem dX12_down_23 : decode cX12_down 23 = .ok (.aload_n 0, 1) := o42 ac_cX12_down_16 7 rfl
theorem dX12_down_24 : decode cX12_down 24 = .ok (.invokevirtual 387, 3) := o182 ac_cX12_down_16 8 1 131 rfl
theorem dX12_down_27 : decode cX12_down 27 = .ok (.iinc 1 1, 3) := o132p ac_cX12_down_16 11 1 1 rfl rfl
theorem dX12_down_30 : decode cX12_down 30 = .ok (.goto (-24), 3) := o167n ac_cX12_down_16 14 255 232 23 rfl rfl rfl
def kb_cX12_down_32 : List Nat := [232, 16, 254, 172]
theorem ac_cX12_down_32 : AL cX12_down 32 kb_cX12_down_32 := AL.of (m := 4) (by decide +kernel)
theorem dX12_down_33 : decode cX12_down 33 = .ok (.bipush (-2), 2) := o16n ac_cX12_down_32 1 254 1 rfl rfl rfl
theorem dX12_down_35 : decode cX12_down 35 = .ok (.ireturn, 1) := o172 ac_cX12_down_32 3 rfl
theorem dX12_glitterBits_45 : decode cX12_glitterBits 45 = .ok (.iconst 0, 1) := o3 ac_cX12_glitterBits_32 13 rfl
theorem dX12_glitterBits_46 : decode cX12_glitterBits 46 = .ok (.istore 4, 2) := o54 ac_cX12_glitterBits_32 14 4 rfl
def kb_cX12_glitterBits_48 : List Nat := [21, 4, 16, 7, 162, 0, 48, 42, 180, 0, 131, 42, 180, 0, 125, 29, 46, 46, 21, 4]
theorem ac_cX12_glitterBits_48 : AL cX12_glitterBits 48 kb_cX12_glitterBits_48 := AL.of (m := 20) (by decide +kernel)
theorem dX12_glitterBits_48 : decode cX12_glitterBits 48 = .ok (.iload 4, 2) := o21 ac_cX12_glitterBits_48 0 4 rfl
theorem dX12_glitterBits_50 : decode cX12_glitterBits 50 = .ok (.bipush 7, 2) := o16p ac_cX12_glitterBits_48 2 7 rfl rfl
theorem dX12_glitterBits_52 : decode cX12_glitterBits 52 = .ok (.if_icmp .ge 48, 3) := o162p ac_cX12_glitterBits_48 4 0 48 rfl rfl
theorem dX12_glitterBits_55 : decode cX12_glitterBits 55 = .ok (.aload_n 0, 1) := o42 ac_cX12_glitterBits_48 7 rfl
theorem dX12_glitterBits_56 : decode cX12_glitterBits 56 = .ok (.getfield 131, 3) := o180 ac_cX12_glitterBits_48 8 0 131 rfl
theorem dX12_glitterBits_59 : decode cX12_glitterBits 59 = .ok (.aload_n 0, 1) := o42 ac_cX12_glitterBits_48 11 rfl
theorem dX12_glitterBits_60 : decode cX12_glitterBits 60 = .ok (.getfield 125, 3) := o180 ac_cX12_glitterBits_48 12 0 125 rfl
theorem dX12_glitterBits_63 : decode cX12_glitterBits 63 = .ok (.iload_n 3, 1) := o29 ac_cX12_glitterBits_48 15 rfl
def kb_cX12_glitterBits_64 : List Nat := [46, 46, 21, 4, 160, 0, 7, 4, 167, 0, 4, 3, 42, 180, 0, 128, 29, 51, 159, 0]
theorem ac_cX12_glitterBits_64 : AL cX12_glitterBits 64 kb_cX12_glitterBits_64 := AL.of (m := 20) (by decide +kernel)
theorem dX12_glitterBits_64 : decode cX12_glitterBits 64 = .ok (.iaload, 1) := o46 ac_cX12_glitterBits_64 0 rfl
theorem dX12_glitterBits_65 : decode cX12_glitterBits 65 = .ok (.iaload, 1) := o46 ac_cX12_glitterBits_64 1 rfl
theorem dX12_glitterBits_66 : decode cX12_glitterBits 66 = .ok (.iload 4, 2) := o21 ac_cX12_glitterBits_64 2 4 rfl
theorem dX12_glitterBits_68 : decode cX12_glitterBits 68 = .ok (.if_icmp .ne 7, 3) := o160p ac_cX12_glitterBits_64 4 0 7 rfl rfl
theorem dX12_glitterBits_71 : decode cX12_glitterBits 71 = .ok (.iconst 1, 1) := o4 ac_cX12_glitterBits_64 7 rfl
theorem dX12_glitterBits_72 : decode cX12_glitterBits 72 = .ok (.goto 4, 3) := o167p ac_cX12_glitterBits_64 8 0 4 rfl rfl
theorem dX12_glitterBits_75 : decode cX12_glitterBits 75 = .ok (.iconst 0, 1) := o3 ac_cX12_glitterBits_64 11 rfl
theorem dX12_glitterBits_76 : decode cX12_glitterBits 76 = .ok (.aload_n 0, 1) := o42 ac_cX12_glitterBits_64 12 rfl
theorem dX12_glitterBits_77 : decode cX12_glitterBits 77 = .ok (.getfield 128, 3) := o180 ac_cX12_glitterBits_64 13 0 128 rfl
def kb_cX12_glitterBits_80 : List Nat := [29, 51, 159, 0, 12, 28, 4, 21, 4, 120, 2, 130, 126, 61, 132, 4, 1, 167, 255, 207]
theorem ac_cX12_glitterBits_80 : AL cX12_glitterBits 80 kb_cX12_glitterBits_80 := AL.of (m := 20) (by decide +kernel)
theorem dX12_glitterBits_80 : decode cX12_glitterBits 80 = .ok (.iload_n 3, 1) := o29 ac_cX12_glitterBits_80 0 rfl
theorem dX12_glitterBits_81 : decode cX12_glitterBits 81 = .ok (.baload, 1) := o51 ac_cX12_glitterBits_80 1 rfl
theorem dX12_glitterBits_82 : decode cX12_glitterBits 82 = .ok (.if_icmp .eq 12, 3) := o159p ac_cX12_glitterBits_80 2 0 12 rfl rfl
theorem dX12_glitterBits_85 : decode cX12_glitterBits 85 = .ok (.iload_n 2, 1) := o28 ac_cX12_glitterBits_80 5 rfl
theorem dX12_glitterBits_86 : decode cX12_glitterBits 86 = .ok (.iconst 1, 1) := o4 ac_cX12_glitterBits_80 6 rfl
theorem dX12_glitterBits_87 : decode cX12_glitterBits 87 = .ok (.iload 4, 2) := o21 ac_cX12_glitterBits_80 7 4 rfl
theorem dX12_glitterBits_89 : decode cX12_glitterBits 89 = .ok (.ishl, 1) := o120 ac_cX12_glitterBits_80 9 rfl
theorem dX12_glitterBits_90 : decode cX12_glitterBits 90 = .ok (.iconst (-1), 1) := o2 ac_cX12_glitterBits_80 10 rfl
theorem dX12_glitterBits_91 : decode cX12_glitterBits 91 = .ok (.ixor, 1) := o130 ac_cX12_glitterBits_80 11 rfl
theorem dX12_glitterBits_92 : decode cX12_glitterBits 92 = .ok (.iand, 1) := o126 ac_cX12_glitterBits_80 12 rfl
theorem dX12_glitterBits_93 : decode cX12_glitterBits 93 = .ok (.istore_n 2, 1) := o61 ac_cX12_glitterBits_80 13 rfl
theorem dX12_glitterBits_94 : decode cX12_glitterBits 94 = .ok (.iinc 4 1, 3) := o132p ac_cX12_glitterBits_80 14 4 1 rfl rfl
theorem dX12_glitterBits_97 : decode cX12_glitterBits 97 = .ok (.goto (-49), 3) := o167n ac_cX12_glitterBits_96 1 255 207 48 rfl rfl rfl
theorem dX12_glitterBits_100 : decode cX12_glitterBits 100 = .ok (.iinc 3 1, 3) := o132p ac_cX12_glitterBits_96 4 3 1 rfl rfl
theorem dX12_glitterBits_103 : decode cX12_glitterBits 103 = .ok (.goto (-63), 3) := o167n ac_cX12_glitterBits_96 7 255 193 62 rfl rfl rfl
theorem dX12_watch_46 : decode cX12_watch 46 = .ok (.aload_n 0, 1) := o42 ac_cX12_watch_32 14 rfl
theorem dX12_watch_47 : decode cX12_watch 47 = .ok (.getfield 131, 3) := o180 ac_cX12_watch_32 15 0 131 rfl
def kb_cX12_watch_48 : List Nat := [0, 131, 21, 6, 46, 155, 0, 22, 28, 42, 180, 0, 131, 21, 6, 46, 122, 4, 126, 4]
theorem ac_cX12_watch_48 : AL cX12_watch 48 kb_cX12_watch_48 := AL.of (m := 20) (by decide +kernel)
theorem dX12_watch_50 : decode cX12_watch 50 = .ok (.iload 6, 2) := o21 ac_cX12_watch_48 2 6 rfl
theorem dX12_watch_52 : decode cX12_watch 52 = .ok (.iaload, 1) := o46 ac_cX12_watch_48 4 rfl
theorem dX12_watch_53 : decode cX12_watch 53 = .ok (.ifCond .lt 22, 3) := o155p ac_cX12_watch_48 5 0 22 rfl rfl
theorem dX12_watch_56 : decode cX12_watch 56 = .ok (.iload_n 2, 1) := o28 ac_cX12_watch_48 8 rfl
theorem dX12_watch_57 : decode cX12_watch 57 = .ok (.aload_n 0, 1) := o42 ac_cX12_watch_48 9 rfl
theorem dX12_watch_58 : decode cX12_watch 58 = .ok (.getfield 131, 3) := o180 ac_cX12_watch_48 10 0 131 rfl
theorem dX12_watch_61 : decode cX12_watch 61 = .ok (.iload 6, 2) := o21 ac_cX12_watch_48 13 6 rfl
theorem dX12_watch_63 : decode cX12_watch 63 = .ok (.iaload, 1) := o46 ac_cX12_watch_48 15 rfl
def kb_cX12_watch_64 : List Nat := [122, 4, 126, 4, 160, 0, 7, 4, 167, 0, 4, 3, 54, 7, 21, 7, 29, 21, 7, 100]
theorem ac_cX12_watch_64 : AL cX12_watch 64 kb_cX12_watch_64 := AL.of (m := 20) (by decide +kernel)
theorem dX12_watch_64 : decode cX12_watch 64 = .ok (.ishr, 1) := o122 ac_cX12_watch_64 0 rfl
theorem dX12_watch_65 : decode cX12_watch 65 = .ok (.iconst 1, 1) := o4 ac_cX12_watch_64 1 rfl
theorem dX12_watch_66 : decode cX12_watch 66 = .ok (.iand, 1) := o126 ac_cX12_watch_64 2 rfl
theorem dX12_watch_67 : decode cX12_watch 67 = .ok (.iconst 1, 1) := o4 ac_cX12_watch_64 3 rfl
theorem dX12_watch_68 : decode cX12_watch 68 = .ok (.if_icmp .ne 7, 3) := o160p ac_cX12_watch_64 4 0 7 rfl rfl
theorem dX12_watch_71 : decode cX12_watch 71 = .ok (.iconst 1, 1) := o4 ac_cX12_watch_64 7 rfl
theorem dX12_watch_72 : decode cX12_watch 72 = .ok (.goto 4, 3) := o167p ac_cX12_watch_64 8 0 4 rfl rfl
theorem dX12_watch_75 : decode cX12_watch 75 = .ok (.iconst 0, 1) := o3 ac_cX12_watch_64 11 rfl
theorem dX12_watch_76 : decode cX12_watch 76 = .ok (.istore 7, 2) := o54 ac_cX12_watch_64 12 7 rfl
theorem dX12_watch_78 : decode cX12_watch 78 = .ok (.iload 7, 2) := o21 ac_cX12_watch_64 14 7 rfl
def kb_cX12_watch_80 : List Nat := [29, 21, 7, 100, 164, 0, 8, 21, 7, 167, 0, 7, 29, 21, 7, 100, 54, 8, 21, 4]
theorem ac_cX12_watch_80 : AL cX12_watch 80 kb_cX12_watch_80 := AL.of (m := 20) (by decide +kernel)
theorem dX12_watch_80 : decode cX12_watch 80 = .ok (.iload_n 3, 1) := o29 ac_cX12_watch_80 0 rfl
theorem dX12_watch_81 : decode cX12_watch 81 = .ok (.iload 7, 2) := o21 ac_cX12_watch_80 1 7 rfl
theorem dX12_watch_83 : decode cX12_watch 83 = .ok (.isub, 1) := o100 ac_cX12_watch_80 3 rfl
theorem dX12_watch_84 : decode cX12_watch 84 = .ok (.if_icmp .le 8, 3) := o164p ac_cX12_watch_80 4 0 8 rfl rfl
theorem dX12_watch_87 : decode cX12_watch 87 = .ok (.iload 7, 2) := o21 ac_cX12_watch_80 7 7 rfl
theorem dX12_watch_89 : decode cX12_watch 89 = .ok (.goto 7, 3) := o167p ac_cX12_watch_80 9 0 7 rfl rfl
theorem dX12_watch_92 : decode cX12_watch 92 = .ok (.iload_n 3, 1) := o29 ac_cX12_watch_80 12 rfl
theorem dX12_watch_93 : decode cX12_watch 93 = .ok (.iload 7, 2) := o21 ac_cX12_watch_80 13 7 rfl
theorem dX12_watch_95 : decode cX12_watch 95 = .ok (.isub, 1) := o100 ac_cX12_watch_80 15 rfl
def kb_cX12_watch_96 : List Nat := [54, 8, 21, 4, 155, 0, 13, 21, 8, 21, 5, 161, 0, 6, 167, 0, 11, 21, 6, 54]
theorem ac_cX12_watch_96 : AL cX12_watch 96 kb_cX12_watch_96 := AL.of (m := 20) (by decide +kernel)
theorem dX12_watch_96 : decode cX12_watch 96 = .ok (.istore 8, 2) := o54 ac_cX12_watch_96 0 8 rfl
theorem dX12_watch_98 : decode cX12_watch 98 = .ok (.iload 4, 2) := o21 ac_cX12_watch_96 2 4 rfl
theorem dX12_watch_100 : decode cX12_watch 100 = .ok (.ifCond .lt 13, 3) := o155p ac_cX12_watch_96 4 0 13 rfl rfl
theorem dX12_watch_103 : decode cX12_watch 103 = .ok (.iload 8, 2) := o21 ac_cX12_watch_96 7 8 rfl
theorem dX12_watch_105 : decode cX12_watch 105 = .ok (.iload 5, 2) := o21 ac_cX12_watch_96 9 5 rfl
theorem dX12_watch_107 : decode cX12_watch 107 = .ok (.if_icmp .lt 6, 3) := o161p ac_cX12_watch_96 11 0 6 rfl rfl
theorem dX12_watch_110 : decode cX12_watch 110 = .ok (.goto 11, 3) := o167p ac_cX12_watch_96 14 0 11 rfl rfl
theorem dX12_watch_113 : decode cX12_watch 113 = .ok (.iload 6, 2) := o21 ac_cX12_watch_112 1 6 rfl
theorem dX12_watch_115 : decode cX12_watch 115 = .ok (.istore 4, 2) := o54 ac_cX12_watch_112 3 4 rfl
theorem dX12_watch_117 : decode cX12_watch 117 = .ok (.iload 8, 2) := o21 ac_cX12_watch_112 5 8 rfl
theorem dX12_watch_119 : decode cX12_watch 119 = .ok (.istore 5, 2) := o54 ac_cX12_watch_112 7 5 rfl
theorem dX12_watch_121 : decode cX12_watch 121 = .ok (.iinc 6 1, 3) := o132p ac_cX12_watch_112 9 6 1 rfl rfl
theorem dX12_watch_124 : decode cX12_watch 124 = .ok (.goto (-89), 3) := o167n ac_cX12_watch_112 12 255 167 88 rfl rfl rfl
theorem dX12_count_187 : decode cX12_count 187 = .ok (.iconst 1, 1) := o4 ac_cX12_count_176 11 rfl
theorem dX12_count_188 : decode cX12_count 188 = .ok (.goto 4, 3) := o167p ac_cX12_count_176 12 0 4 rfl rfl
theorem dX12_count_201 : decode cX12_count 201 = .ok (.iconst 1, 1) := o4 ac_cX12_count_192 9 rfl
theorem dX12_count_202 : decode cX12_count 202 = .ok (.goto 4, 3) := o167p ac_cX12_count_192 10 0 4 rfl rfl
theorem dX12_count_216 : decode cX12_count 216 = .ok (.iconst 1, 1) := o4 ac_cX12_count_208 8 rfl
theorem dX12_count_217 : decode cX12_count 217 = .ok (.goto 4, 3) := o167p ac_cX12_count_208 9 0 4 rfl rfl
theorem dX12_thing_10 : decode cX12_thing 10 = .ok (.iload_n 2, 1) := o28 ac_cX12_thing_0 10 rfl
theorem dX12_thing_11 : decode cX12_thing 11 = .ok (.tableswitch 104 0 4 #[33, 48, 63, 70, 94], 33) := by decide +kernel
def kb_cX12_thing_32 : List Nat := [0, 0, 0, 63, 0, 0, 0, 70, 0, 0, 0, 94, 42, 180, 0, 46, 16, 7, 42, 180]
theorem ac_cX12_thing_32 : AL cX12_thing 32 kb_cX12_thing_32 := AL.of (m := 20) (by decide +kernel)
theorem dX12_thing_44 : decode cX12_thing 44 = .ok (.aload_n 0, 1) := o42 ac_cX12_thing_32 12 rfl
theorem dX12_thing_45 : decode cX12_thing 45 = .ok (.getfield 46, 3) := o180 ac_cX12_thing_32 13 0 46 rfl
def kb_cX12_thing_48 : List Nat := [16, 7, 42, 180, 0, 221, 104, 27, 96, 46, 172, 42, 180, 0, 49, 16, 7, 42, 180, 0]
theorem ac_cX12_thing_48 : AL cX12_thing 48 kb_cX12_thing_48 := AL.of (m := 20) (by decide +kernel)
theorem dX12_thing_48 : decode cX12_thing 48 = .ok (.bipush 7, 2) := o16p ac_cX12_thing_48 0 7 rfl rfl
theorem dX12_thing_50 : decode cX12_thing 50 = .ok (.aload_n 0, 1) := o42 ac_cX12_thing_48 2 rfl
theorem dX12_thing_51 : decode cX12_thing 51 = .ok (.getfield 221, 3) := o180 ac_cX12_thing_48 3 0 221 rfl
theorem dX12_thing_54 : decode cX12_thing 54 = .ok (.imul, 1) := o104 ac_cX12_thing_48 6 rfl
theorem dX12_thing_55 : decode cX12_thing 55 = .ok (.iload_n 1, 1) := o27 ac_cX12_thing_48 7 rfl
theorem dX12_thing_56 : decode cX12_thing 56 = .ok (.iadd, 1) := o96 ac_cX12_thing_48 8 rfl
theorem dX12_thing_57 : decode cX12_thing 57 = .ok (.iaload, 1) := o46 ac_cX12_thing_48 9 rfl
theorem dX12_thing_58 : decode cX12_thing 58 = .ok (.ireturn, 1) := o172 ac_cX12_thing_48 10 rfl
theorem dX12_thing_59 : decode cX12_thing 59 = .ok (.aload_n 0, 1) := o42 ac_cX12_thing_48 11 rfl
theorem dX12_thing_60 : decode cX12_thing 60 = .ok (.getfield 49, 3) := o180 ac_cX12_thing_48 12 0 49 rfl
theorem dX12_thing_63 : decode cX12_thing 63 = .ok (.bipush 7, 2) := o16p ac_cX12_thing_48 15 7 rfl rfl
def kb_cX12_thing_64 : List Nat := [7, 42, 180, 0, 221, 104, 27, 96, 46, 172, 42, 180, 0, 107, 27, 46, 172, 42, 180, 0]
theorem ac_cX12_thing_64 : AL cX12_thing 64 kb_cX12_thing_64 := AL.of (m := 20) (by decide +kernel)
theorem dX12_thing_65 : decode cX12_thing 65 = .ok (.aload_n 0, 1) := o42 ac_cX12_thing_64 1 rfl
theorem dX12_thing_66 : decode cX12_thing 66 = .ok (.getfield 221, 3) := o180 ac_cX12_thing_64 2 0 221 rfl
theorem dX12_thing_69 : decode cX12_thing 69 = .ok (.imul, 1) := o104 ac_cX12_thing_64 5 rfl
theorem dX12_thing_70 : decode cX12_thing 70 = .ok (.iload_n 1, 1) := o27 ac_cX12_thing_64 6 rfl
theorem dX12_thing_71 : decode cX12_thing 71 = .ok (.iadd, 1) := o96 ac_cX12_thing_64 7 rfl
theorem dX12_thing_72 : decode cX12_thing 72 = .ok (.iaload, 1) := o46 ac_cX12_thing_64 8 rfl
theorem dX12_thing_73 : decode cX12_thing 73 = .ok (.ireturn, 1) := o172 ac_cX12_thing_64 9 rfl
theorem dX12_thing_74 : decode cX12_thing 74 = .ok (.aload_n 0, 1) := o42 ac_cX12_thing_64 10 rfl
theorem dX12_thing_75 : decode cX12_thing 75 = .ok (.getfield 107, 3) := o180 ac_cX12_thing_64 11 0 107 rfl
theorem dX12_thing_78 : decode cX12_thing 78 = .ok (.iload_n 1, 1) := o27 ac_cX12_thing_64 14 rfl
theorem dX12_thing_79 : decode cX12_thing 79 = .ok (.iaload, 1) := o46 ac_cX12_thing_64 15 rfl
def kb_cX12_thing_80 : List Nat := [172, 42, 180, 0, 107, 27, 46, 154, 0, 15, 42, 180, 0, 107, 16, 7, 27, 96, 46, 167]
theorem ac_cX12_thing_80 : AL cX12_thing 80 kb_cX12_thing_80 := AL.of (m := 20) (by decide +kernel)
theorem dX12_thing_80 : decode cX12_thing 80 = .ok (.ireturn, 1) := o172 ac_cX12_thing_80 0 rfl
theorem dX12_thing_81 : decode cX12_thing 81 = .ok (.aload_n 0, 1) := o42 ac_cX12_thing_80 1 rfl
theorem dX12_thing_82 : decode cX12_thing 82 = .ok (.getfield 107, 3) := o180 ac_cX12_thing_80 2 0 107 rfl
theorem dX12_thing_85 : decode cX12_thing 85 = .ok (.iload_n 1, 1) := o27 ac_cX12_thing_80 5 rfl
theorem dX12_thing_86 : decode cX12_thing 86 = .ok (.iaload, 1) := o46 ac_cX12_thing_80 6 rfl
theorem dX12_thing_87 : decode cX12_thing 87 = .ok (.ifCond .ne 15, 3) := o154p ac_cX12_thing_80 7 0 15 rfl rfl
theorem dX12_thing_90 : decode cX12_thing 90 = .ok (.aload_n 0, 1) := o42 ac_cX12_thing_80 10 rfl
theorem dX12_thing_91 : decode cX12_thing 91 = .ok (.getfield 107, 3) := o180 ac_cX12_thing_80 11 0 107 rfl
theorem dX12_thing_94 : decode cX12_thing 94 = .ok (.bipush 7, 2) := o16p ac_cX12_thing_80 14 7 rfl rfl
def kb_cX12_thing_96 : List Nat := [27, 96, 46, 167, 0, 5, 16, 254, 172, 42, 180, 0, 107, 16, 14, 27, 96, 46, 172, 2]
theorem ac_cX12_thing_96 : AL cX12_thing 96 kb_cX12_thing_96 := AL.of (m := 20) (by decide +kernel)
theorem dX12_thing_96 : decode cX12_thing 96 = .ok (.iload_n 1, 1) := o27 ac_cX12_thing_96 0 rfl
theorem dX12_thing_97 : decode cX12_thing 97 = .ok (.iadd, 1) := o96 ac_cX12_thing_96 1 rfl
theorem dX12_thing_98 : decode cX12_thing 98 = .ok (.iaload, 1) := o46 ac_cX12_thing_96 2 rfl
theorem dX12_thing_99 : decode cX12_thing 99 = .ok (.goto 5, 3) := o167p ac_cX12_thing_96 3 0 5 rfl rfl
theorem dX12_thing_102 : decode cX12_thing 102 = .ok (.bipush (-2), 2) := o16n ac_cX12_thing_96 6 254 1 rfl rfl rfl
theorem dX12_thing_104 : decode cX12_thing 104 = .ok (.ireturn, 1) := o172 ac_cX12_thing_96 8 rfl
theorem dX12_thing_105 : decode cX12_thing 105 = .ok (.aload_n 0, 1) := o42 ac_cX12_thing_96 9 rfl
theorem dX12_thing_106 : decode cX12_thing 106 = .ok (.getfield 107, 3) := o180 ac_cX12_thing_96 10 0 107 rfl
theorem dX12_thing_109 : decode cX12_thing 109 = .ok (.bipush 14, 2) := o16p ac_cX12_thing_96 13 14 rfl rfl
theorem dX12_thing_111 : decode cX12_thing 111 = .ok (.iload_n 1, 1) := o27 ac_cX12_thing_96 15 rfl
def kb_cX12_thing_112 : List Nat := [96, 46, 172, 2, 172]
theorem ac_cX12_thing_112 : AL cX12_thing 112 kb_cX12_thing_112 := AL.of (m := 5) (by decide +kernel)
theorem dX12_thing_112 : decode cX12_thing 112 = .ok (.iadd, 1) := o96 ac_cX12_thing_112 0 rfl
theorem dX12_thing_113 : decode cX12_thing 113 = .ok (.iaload, 1) := o46 ac_cX12_thing_112 1 rfl
theorem dX12_thing_114 : decode cX12_thing 114 = .ok (.ireturn, 1) := o172 ac_cX12_thing_112 2 rfl
theorem dX12_thing_115 : decode cX12_thing 115 = .ok (.iconst (-1), 1) := o2 ac_cX12_thing_112 3 rfl
theorem dX12_thing_116 : decode cX12_thing 116 = .ok (.ireturn, 1) := o172 ac_cX12_thing_112 4 rfl
theorem dX12_pattern_8 : decode cX12_pattern 8 = .ok (.iload_n 2, 1) := o28 ac_cX12_pattern_0 8 rfl
theorem dX12_pattern_9 : decode cX12_pattern 9 = .ok (.iconst (-1), 1) := o2 ac_cX12_pattern_0 9 rfl
theorem dX12_pattern_10 : decode cX12_pattern 10 = .ok (.aload_n 0, 1) := o42 ac_cX12_pattern_0 10 rfl
theorem dX12_pattern_11 : decode cX12_pattern 11 = .ok (.iload_n 1, 1) := o27 ac_cX12_pattern_0 11 rfl
theorem dX12_pattern_12 : decode cX12_pattern 12 = .ok (.invokevirtual 318, 3) := o182 ac_cX12_pattern_0 12 1 62 rfl
theorem dX12_pattern_15 : decode cX12_pattern 15 = .ok (.iconst 1, 1) := o4 ac_cX12_pattern_0 15 rfl
theorem dX12_pattern_16 : decode cX12_pattern 16 = .ok (.isub, 1) := o100 ac_cX12_pattern_16 0 rfl
theorem dX12_pattern_17 : decode cX12_pattern 17 = .ok (.invokestatic 301, 3) := o184 ac_cX12_pattern_16 1 1 45 rfl
theorem dX12_pattern_20 : decode cX12_pattern 20 = .ok (.ifCond .ne 5, 3) := o154p ac_cX12_pattern_16 4 0 5 rfl rfl
theorem dX12_pattern_25 : decode cX12_pattern 25 = .ok (.iload_n 2, 1) := o28 ac_cX12_pattern_16 9 rfl
theorem dX12_pattern_26 : decode cX12_pattern 26 = .ok (.iconst (-1), 1) := o2 ac_cX12_pattern_16 10 rfl
theorem dX12_pattern_27 : decode cX12_pattern 27 = .ok (.if_icmp .ne 11, 3) := o160p ac_cX12_pattern_16 11 0 11 rfl rfl
theorem dX12_pattern_30 : decode cX12_pattern 30 = .ok (.aload_n 0, 1) := o42 ac_cX12_pattern_16 14 rfl
theorem dX12_pattern_31 : decode cX12_pattern 31 = .ok (.iload_n 1, 1) := o27 ac_cX12_pattern_16 15 rfl
def kb_cX12_pattern_32 : List Nat := [182, 1, 62, 167, 0, 9, 42, 27, 28, 182, 1, 65, 172]
theorem ac_cX12_pattern_32 : AL cX12_pattern 32 kb_cX12_pattern_32 := AL.of (m := 13) (by decide +kernel)
theorem dX12_pattern_32 : decode cX12_pattern 32 = .ok (.invokevirtual 318, 3) := o182 ac_cX12_pattern_32 0 1 62 rfl
theorem dX12_pattern_35 : decode cX12_pattern 35 = .ok (.goto 9, 3) := o167p ac_cX12_pattern_32 3 0 9 rfl rfl
theorem dX12_pattern_38 : decode cX12_pattern 38 = .ok (.aload_n 0, 1) := o42 ac_cX12_pattern_32 6 rfl
theorem dX12_pattern_39 : decode cX12_pattern 39 = .ok (.iload_n 1, 1) := o27 ac_cX12_pattern_32 7 rfl
theorem dX12_pattern_40 : decode cX12_pattern 40 = .ok (.iload_n 2, 1) := o28 ac_cX12_pattern_32 8 rfl
theorem dX12_pattern_41 : decode cX12_pattern 41 = .ok (.invokevirtual 321, 3) := o182 ac_cX12_pattern_32 9 1 65 rfl
theorem dX12_pattern_44 : decode cX12_pattern 44 = .ok (.ireturn, 1) := o172 ac_cX12_pattern_32 12 rfl
theorem dX12_tells_8 : decode cX12_tells 8 = .ok (.iload_n 3, 1) := o29 ac_cX12_tells_0 8 rfl
theorem dX12_tells_9 : decode cX12_tells 9 = .ok (.iconst 0, 1) := o3 ac_cX12_tells_0 9 rfl
theorem dX12_tells_10 : decode cX12_tells 10 = .ok (.iconst 3, 1) := o6 ac_cX12_tells_0 10 rfl
theorem dX12_tells_11 : decode cX12_tells 11 = .ok (.invokestatic 301, 3) := o184 ac_cX12_tells_0 11 1 45 rfl
theorem dX12_tells_14 : decode cX12_tells 14 = .ok (.ifCond .eq 18, 3) := o153p ac_cX12_tells_0 14 0 18 rfl rfl
def kb_cX12_tells_16 : List Nat := [18, 29, 5, 162, 0, 16, 28, 3, 16, 9, 184, 1, 45, 154, 0, 6, 16, 156, 172, 42]
theorem ac_cX12_tells_16 : AL cX12_tells 16 kb_cX12_tells_16 := AL.of (m := 20) (by decide +kernel)
theorem dX12_tells_17 : decode cX12_tells 17 = .ok (.iload_n 3, 1) := o29 ac_cX12_tells_16 1 rfl
theorem dX12_tells_18 : decode cX12_tells 18 = .ok (.iconst 2, 1) := o5 ac_cX12_tells_16 2 rfl
theorem dX12_tells_19 : decode cX12_tells 19 = .ok (.if_icmp .ge 16, 3) := o162p ac_cX12_tells_16 3 0 16 rfl rfl
theorem dX12_tells_22 : decode cX12_tells 22 = .ok (.iload_n 2, 1) := o28 ac_cX12_tells_16 6 rfl
theorem dX12_tells_23 : decode cX12_tells 23 = .ok (.iconst 0, 1) := o3 ac_cX12_tells_16 7 rfl
theorem dX12_tells_24 : decode cX12_tells 24 = .ok (.bipush 9, 2) := o16p ac_cX12_tells_16 8 9 rfl rfl
theorem dX12_tells_26 : decode cX12_tells 26 = .ok (.invokestatic 301, 3) := o184 ac_cX12_tells_16 10 1 45 rfl
theorem dX12_tells_29 : decode cX12_tells 29 = .ok (.ifCond .ne 6, 3) := o154p ac_cX12_tells_16 13 0 6 rfl rfl
theorem dX12_tells_35 : decode cX12_tells 35 = .ok (.aload_n 0, 1) := o42 ac_cX12_tells_32 3 rfl
theorem dX12_tells_36 : decode cX12_tells 36 = .ok (.invokevirtual 311, 3) := o182 ac_cX12_tells_32 4 1 55 rfl
theorem dX12_tells_39 : decode cX12_tells 39 = .ok (.aload_n 0, 1) := o42 ac_cX12_tells_32 7 rfl
theorem dX12_tells_40 : decode cX12_tells 40 = .ok (.iconst 0, 1) := o3 ac_cX12_tells_32 8 rfl
theorem dX12_tells_41 : decode cX12_tells 41 = .ok (.invokevirtual 350, 3) := o182 ac_cX12_tells_32 9 1 94 rfl
theorem dX12_tells_44 : decode cX12_tells 44 = .ok (.invokestatic 353, 3) := o184 ac_cX12_tells_32 12 1 97 rfl
theorem dX12_tells_47 : decode cX12_tells 47 = .ok (.istore 4, 2) := o54 ac_cX12_tells_32 15 4 rfl
def kb_cX12_tells_48 : List Nat := [4, 29, 154, 0, 14, 42, 27, 28, 21, 4, 182, 1, 100, 167, 0, 41, 29, 4, 160, 0]
theorem ac_cX12_tells_48 : AL cX12_tells 48 kb_cX12_tells_48 := AL.of (m := 20) (by decide +kernel)
theorem dX12_tells_49 : decode cX12_tells 49 = .ok (.iload_n 3, 1) := o29 ac_cX12_tells_48 1 rfl
theorem dX12_tells_50 : decode cX12_tells 50 = .ok (.ifCond .ne 14, 3) := o154p ac_cX12_tells_48 2 0 14 rfl rfl
theorem dX12_tells_53 : decode cX12_tells 53 = .ok (.aload_n 0, 1) := o42 ac_cX12_tells_48 5 rfl
theorem dX12_tells_54 : decode cX12_tells 54 = .ok (.iload_n 1, 1) := o27 ac_cX12_tells_48 6 rfl
theorem dX12_tells_55 : decode cX12_tells 55 = .ok (.iload_n 2, 1) := o28 ac_cX12_tells_48 7 rfl
theorem dX12_tells_56 : decode cX12_tells 56 = .ok (.iload 4, 2) := o21 ac_cX12_tells_48 8 4 rfl
theorem dX12_tells_58 : decode cX12_tells 58 = .ok (.invokevirtual 356, 3) := o182 ac_cX12_tells_48 10 1 100 rfl
theorem dX12_tells_61 : decode cX12_tells 61 = .ok (.goto 41, 3) := o167p ac_cX12_tells_48 13 0 41 rfl rfl
def kb_cX12_tells_64 : List Nat := [29, 4, 160, 0, 14, 42, 27, 28, 21, 4, 182, 1, 115, 167, 0, 25, 29, 5, 160, 0]
theorem ac_cX12_tells_64 : AL cX12_tells 64 kb_cX12_tells_64 := AL.of (m := 20) (by decide +kernel)
theorem dX12_tells_64 : decode cX12_tells 64 = .ok (.iload_n 3, 1) := o29 ac_cX12_tells_64 0 rfl
theorem dX12_tells_65 : decode cX12_tells 65 = .ok (.iconst 1, 1) := o4 ac_cX12_tells_64 1 rfl
theorem dX12_tells_66 : decode cX12_tells 66 = .ok (.if_icmp .ne 14, 3) := o160p ac_cX12_tells_64 2 0 14 rfl rfl
theorem dX12_tells_69 : decode cX12_tells 69 = .ok (.aload_n 0, 1) := o42 ac_cX12_tells_64 5 rfl
theorem dX12_tells_70 : decode cX12_tells 70 = .ok (.iload_n 1, 1) := o27 ac_cX12_tells_64 6 rfl
theorem dX12_tells_71 : decode cX12_tells 71 = .ok (.iload_n 2, 1) := o28 ac_cX12_tells_64 7 rfl
theorem dX12_tells_72 : decode cX12_tells 72 = .ok (.iload 4, 2) := o21 ac_cX12_tells_64 8 4 rfl
theorem dX12_tells_74 : decode cX12_tells 74 = .ok (.invokevirtual 371, 3) := o182 ac_cX12_tells_64 10 1 115 rfl
theorem dX12_tells_77 : decode cX12_tells 77 = .ok (.goto 25, 3) := o167p ac_cX12_tells_64 13 0 25 rfl rfl
def kb_cX12_tells_80 : List Nat := [29, 5, 160, 0, 13, 42, 27, 21, 4, 182, 1, 106, 167, 0, 10, 42, 27, 21, 4, 182]
theorem ac_cX12_tells_80 : AL cX12_tells 80 kb_cX12_tells_80 := AL.of (m := 20) (by decide +kernel)
theorem dX12_tells_80 : decode cX12_tells 80 = .ok (.iload_n 3, 1) := o29 ac_cX12_tells_80 0 rfl
theorem dX12_tells_81 : decode cX12_tells 81 = .ok (.iconst 2, 1) := o5 ac_cX12_tells_80 1 rfl
theorem dX12_tells_82 : decode cX12_tells 82 = .ok (.if_icmp .ne 13, 3) := o160p ac_cX12_tells_80 2 0 13 rfl rfl
theorem dX12_tells_85 : decode cX12_tells 85 = .ok (.aload_n 0, 1) := o42 ac_cX12_tells_80 5 rfl
theorem dX12_tells_86 : decode cX12_tells 86 = .ok (.iload_n 1, 1) := o27 ac_cX12_tells_80 6 rfl
theorem dX12_tells_87 : decode cX12_tells 87 = .ok (.iload 4, 2) := o21 ac_cX12_tells_80 7 4 rfl
theorem dX12_tells_89 : decode cX12_tells 89 = .ok (.invokevirtual 362, 3) := o182 ac_cX12_tells_80 9 1 106 rfl
theorem dX12_tells_92 : decode cX12_tells 92 = .ok (.goto 10, 3) := o167p ac_cX12_tells_80 12 0 10 rfl rfl
theorem dX12_tells_95 : decode cX12_tells 95 = .ok (.aload_n 0, 1) := o42 ac_cX12_tells_80 15 rfl
def kb_cX12_tells_96 : List Nat := [27, 21, 4, 182, 1, 103, 172]
theorem ac_cX12_tells_96 : AL cX12_tells 96 kb_cX12_tells_96 := AL.of (m := 7) (by decide +kernel)
theorem dX12_tells_96 : decode cX12_tells 96 = .ok (.iload_n 1, 1) := o27 ac_cX12_tells_96 0 rfl
theorem dX12_tells_97 : decode cX12_tells 97 = .ok (.iload 4, 2) := o21 ac_cX12_tells_96 1 4 rfl
theorem dX12_tells_99 : decode cX12_tells 99 = .ok (.invokevirtual 359, 3) := o182 ac_cX12_tells_96 3 1 103 rfl
theorem dX12_tells_102 : decode cX12_tells 102 = .ok (.ireturn, 1) := o172 ac_cX12_tells_96 6 rfl
theorem dX12_closes_8 : decode cX12_closes 8 = .ok (.iload_n 2, 1) := o28 ac_cX12_closes_0 8 rfl
theorem dX12_closes_9 : decode cX12_closes 9 = .ok (.iconst 0, 1) := o3 ac_cX12_closes_0 9 rfl
theorem dX12_closes_10 : decode cX12_closes 10 = .ok (.iconst 1, 1) := o4 ac_cX12_closes_0 10 rfl
theorem dX12_closes_11 : decode cX12_closes 11 = .ok (.invokestatic 301, 3) := o184 ac_cX12_closes_0 11 1 45 rfl
theorem dX12_closes_14 : decode cX12_closes 14 = .ok (.ifCond .eq 15, 3) := o153p ac_cX12_closes_0 14 0 15 rfl rfl
theorem dX12_closes_17 : decode cX12_closes 17 = .ok (.aload_n 0, 1) := o42 ac_cX12_closes_16 1 rfl
theorem dX12_closes_18 : decode cX12_closes 18 = .ok (.iload_n 1, 1) := o27 ac_cX12_closes_16 2 rfl
theorem dX12_closes_19 : decode cX12_closes 19 = .ok (.invokevirtual 417, 3) := o182 ac_cX12_closes_16 3 1 161 rfl
theorem dX12_closes_22 : decode cX12_closes 22 = .ok (.iload_n 2, 1) := o28 ac_cX12_closes_16 6 rfl
theorem dX12_closes_23 : decode cX12_closes 23 = .ok (.invokestatic 420, 3) := o184 ac_cX12_closes_16 7 1 164 rfl
theorem dX12_closes_26 : decode cX12_closes 26 = .ok (.goto 4, 3) := o167p ac_cX12_closes_16 10 0 4 rfl rfl
theorem dX12_joined_8 : decode cX12_joined 8 = .ok (.aload_n 0, 1) := o42 ac_cX12_joined_0 8 rfl
theorem dX12_joined_9 : decode cX12_joined 9 = .ok (.iload_n 2, 1) := o28 ac_cX12_joined_0 9 rfl
theorem dX12_joined_10 : decode cX12_joined 10 = .ok (.invokevirtual 393, 3) := o182 ac_cX12_joined_0 10 1 137 rfl
theorem dX12_joined_13 : decode cX12_joined 13 = .ok (.ifCond .eq 12, 3) := o153p ac_cX12_joined_0 13 0 12 rfl rfl
theorem dX12_joined_16 : decode cX12_joined 16 = .ok (.iload_n 3, 1) := o29 ac_cX12_joined_16 0 rfl
theorem dX12_joined_17 : decode cX12_joined 17 = .ok (.iconst 0, 1) := o3 ac_cX12_joined_16 1 rfl
theorem dX12_joined_18 : decode cX12_joined 18 = .ok (.iconst 1, 1) := o4 ac_cX12_joined_16 2 rfl
theorem dX12_joined_19 : decode cX12_joined 19 = .ok (.invokestatic 301, 3) := o184 ac_cX12_joined_16 3 1 45 rfl
theorem dX12_joined_22 : decode cX12_joined 22 = .ok (.ifCond .ne 5, 3) := o154p ac_cX12_joined_16 6 0 5 rfl rfl
theorem dX12_joined_27 : decode cX12_joined 27 = .ok (.aload_n 0, 1) := o42 ac_cX12_joined_16 11 rfl
theorem dX12_joined_28 : decode cX12_joined 28 = .ok (.iload_n 1, 1) := o27 ac_cX12_joined_16 12 rfl
theorem dX12_joined_29 : decode cX12_joined 29 = .ok (.iconst 0, 1) := o3 ac_cX12_joined_16 13 rfl
theorem dX12_joined_30 : decode cX12_joined 30 = .ok (.invokevirtual 411, 3) := o182 ac_cX12_joined_16 14 1 155 rfl
def kb_cX12_joined_32 : List Nat := [155, 42, 28, 42, 27, 182, 1, 62, 182, 1, 155, 42, 182, 1, 158, 29, 184, 1, 164, 172]
theorem ac_cX12_joined_32 : AL cX12_joined 32 kb_cX12_joined_32 := AL.of (m := 20) (by decide +kernel)
theorem dX12_joined_33 : decode cX12_joined 33 = .ok (.aload_n 0, 1) := o42 ac_cX12_joined_32 1 rfl
theorem dX12_joined_34 : decode cX12_joined 34 = .ok (.iload_n 2, 1) := o28 ac_cX12_joined_32 2 rfl
theorem dX12_joined_35 : decode cX12_joined 35 = .ok (.aload_n 0, 1) := o42 ac_cX12_joined_32 3 rfl
theorem dX12_joined_36 : decode cX12_joined 36 = .ok (.iload_n 1, 1) := o27 ac_cX12_joined_32 4 rfl
theorem dX12_joined_37 : decode cX12_joined 37 = .ok (.invokevirtual 318, 3) := o182 ac_cX12_joined_32 5 1 62 rfl
theorem dX12_joined_40 : decode cX12_joined 40 = .ok (.invokevirtual 411, 3) := o182 ac_cX12_joined_32 8 1 155 rfl
theorem dX12_joined_43 : decode cX12_joined 43 = .ok (.aload_n 0, 1) := o42 ac_cX12_joined_32 11 rfl
theorem dX12_joined_44 : decode cX12_joined 44 = .ok (.invokevirtual 414, 3) := o182 ac_cX12_joined_32 12 1 158 rfl
theorem dX12_joined_47 : decode cX12_joined 47 = .ok (.iload_n 3, 1) := o29 ac_cX12_joined_32 15 rfl
def kb_cX12_joined_48 : List Nat := [184, 1, 164, 172]
theorem ac_cX12_joined_48 : AL cX12_joined 48 kb_cX12_joined_48 := AL.of (m := 4) (by decide +kernel)
theorem dX12_joined_48 : decode cX12_joined 48 = .ok (.invokestatic 420, 3) := o184 ac_cX12_joined_48 0 1 164 rfl
theorem dX12_joined_51 : decode cX12_joined 51 = .ok (.ireturn, 1) := o172 ac_cX12_joined_48 3 rfl
def kb_cX12_isTurned_0 : List Nat := [3, 54, 4, 21, 4, 42, 27, 182, 1, 62, 162, 0, 30, 42, 27, 21, 4, 29, 96, 182]
theorem ac_cX12_isTurned_0 : AL cX12_isTurned 0 kb_cX12_isTurned_0 := AL.of (m := 20) (by decide +kernel)
theorem dX12_isTurned_0 : decode cX12_isTurned 0 = .ok (.iconst 0, 1) := o3 ac_cX12_isTurned_0 0 rfl
theorem dX12_isTurned_1 : decode cX12_isTurned 1 = .ok (.istore 4, 2) := o54 ac_cX12_isTurned_0 1 4 rfl
theorem dX12_isTurned_3 : decode cX12_isTurned 3 = .ok (.iload 4, 2) := o21 ac_cX12_isTurned_0 3 4 rfl
theorem dX12_isTurned_5 : decode cX12_isTurned 5 = .ok (.aload_n 0, 1) := o42 ac_cX12_isTurned_0 5 rfl
theorem dX12_isTurned_6 : decode cX12_isTurned 6 = .ok (.iload_n 1, 1) := o27 ac_cX12_isTurned_0 6 rfl
theorem dX12_isTurned_7 : decode cX12_isTurned 7 = .ok (.invokevirtual 318, 3) := o182 ac_cX12_isTurned_0 7 1 62 rfl
theorem dX12_isTurned_10 : decode cX12_isTurned 10 = .ok (.if_icmp .ge 30, 3) := o162p ac_cX12_isTurned_0 10 0 30 rfl rfl
theorem dX12_isTurned_13 : decode cX12_isTurned 13 = .ok (.aload_n 0, 1) := o42 ac_cX12_isTurned_0 13 rfl
theorem dX12_isTurned_14 : decode cX12_isTurned 14 = .ok (.iload_n 1, 1) := o27 ac_cX12_isTurned_0 14 rfl
theorem dX12_isTurned_15 : decode cX12_isTurned 15 = .ok (.iload 4, 2) := o21 ac_cX12_isTurned_0 15 4 rfl
def kb_cX12_isTurned_16 : List Nat := [4, 29, 96, 182, 1, 65, 42, 28, 21, 4, 182, 1, 65, 159, 0, 5, 3, 172, 132, 4]
theorem ac_cX12_isTurned_16 : AL cX12_isTurned 16 kb_cX12_isTurned_16 := AL.of (m := 20) (by decide +kernel)
theorem dX12_isTurned_17 : decode cX12_isTurned 17 = .ok (.iload_n 3, 1) := o29 ac_cX12_isTurned_16 1 rfl
theorem dX12_isTurned_18 : decode cX12_isTurned 18 = .ok (.iadd, 1) := o96 ac_cX12_isTurned_16 2 rfl
theorem dX12_isTurned_19 : decode cX12_isTurned 19 = .ok (.invokevirtual 321, 3) := o182 ac_cX12_isTurned_16 3 1 65 rfl
theorem dX12_isTurned_22 : decode cX12_isTurned 22 = .ok (.aload_n 0, 1) := o42 ac_cX12_isTurned_16 6 rfl
theorem dX12_isTurned_23 : decode cX12_isTurned 23 = .ok (.iload_n 2, 1) := o28 ac_cX12_isTurned_16 7 rfl
theorem dX12_isTurned_24 : decode cX12_isTurned 24 = .ok (.iload 4, 2) := o21 ac_cX12_isTurned_16 8 4 rfl
theorem dX12_isTurned_26 : decode cX12_isTurned 26 = .ok (.invokevirtual 321, 3) := o182 ac_cX12_isTurned_16 10 1 65 rfl
theorem dX12_isTurned_29 : decode cX12_isTurned 29 = .ok (.if_icmp .eq 5, 3) := o159p ac_cX12_isTurned_16 13 0 5 rfl rfl
def kb_cX12_isTurned_32 : List Nat := [3, 172, 132, 4, 1, 167, 255, 222, 4, 172]
theorem ac_cX12_isTurned_32 : AL cX12_isTurned 32 kb_cX12_isTurned_32 := AL.of (m := 10) (by decide +kernel)
theorem dX12_isTurned_32 : decode cX12_isTurned 32 = .ok (.iconst 0, 1) := o3 ac_cX12_isTurned_32 0 rfl
theorem dX12_isTurned_33 : decode cX12_isTurned 33 = .ok (.ireturn, 1) := o172 ac_cX12_isTurned_32 1 rfl
theorem dX12_isTurned_34 : decode cX12_isTurned 34 = .ok (.iinc 4 1, 3) := o132p ac_cX12_isTurned_32 2 4 1 rfl rfl
theorem dX12_isTurned_37 : decode cX12_isTurned 37 = .ok (.goto (-34), 3) := o167n ac_cX12_isTurned_32 5 255 222 33 rfl rfl rfl
theorem dX12_isTurned_40 : decode cX12_isTurned 40 = .ok (.iconst 1, 1) := o4 ac_cX12_isTurned_32 8 rfl
theorem dX12_isTurned_41 : decode cX12_isTurned 41 = .ok (.ireturn, 1) := o172 ac_cX12_isTurned_32 9 rfl
theorem dX12_turned_8 : decode cX12_turned 8 = .ok (.aload_n 0, 1) := o42 ac_cX12_turned_0 8 rfl
theorem dX12_turned_9 : decode cX12_turned 9 = .ok (.iload_n 2, 1) := o28 ac_cX12_turned_0 9 rfl
theorem dX12_turned_10 : decode cX12_turned 10 = .ok (.invokevirtual 393, 3) := o182 ac_cX12_turned_0 10 1 137 rfl
theorem dX12_turned_13 : decode cX12_turned 13 = .ok (.ifCond .ne 5, 3) := o154p ac_cX12_turned_0 13 0 5 rfl rfl
theorem dX12_turned_18 : decode cX12_turned 18 = .ok (.aload_n 0, 1) := o42 ac_cX12_turned_16 2 rfl
theorem dX12_turned_19 : decode cX12_turned 19 = .ok (.iload_n 1, 1) := o27 ac_cX12_turned_16 3 rfl
theorem dX12_turned_20 : decode cX12_turned 20 = .ok (.invokevirtual 318, 3) := o182 ac_cX12_turned_16 4 1 62 rfl
theorem dX12_turned_23 : decode cX12_turned 23 = .ok (.aload_n 0, 1) := o42 ac_cX12_turned_16 7 rfl
theorem dX12_turned_24 : decode cX12_turned 24 = .ok (.iload_n 2, 1) := o28 ac_cX12_turned_16 8 rfl
theorem dX12_turned_25 : decode cX12_turned 25 = .ok (.invokevirtual 318, 3) := o182 ac_cX12_turned_16 9 1 62 rfl
theorem dX12_turned_28 : decode cX12_turned 28 = .ok (.if_icmp .eq 6, 3) := o159p ac_cX12_turned_16 12 0 6 rfl rfl
theorem dX12_turned_31 : decode cX12_turned 31 = .ok (.bipush (-2), 2) := o16n ac_cX12_turned_16 15 254 1 rfl rfl rfl
def kb_cX12_turned_32 : List Nat := [254, 172, 3, 62, 29, 42, 27, 182, 1, 62, 162, 0, 21, 42, 27, 28, 29, 182, 1, 167]
theorem ac_cX12_turned_32 : AL cX12_turned 32 kb_cX12_turned_32 := AL.of (m := 20) (by decide +kernel)
theorem dX12_turned_33 : decode cX12_turned 33 = .ok (.ireturn, 1) := o172 ac_cX12_turned_32 1 rfl
theorem dX12_turned_34 : decode cX12_turned 34 = .ok (.iconst 0, 1) := o3 ac_cX12_turned_32 2 rfl
theorem dX12_turned_35 : decode cX12_turned 35 = .ok (.istore_n 3, 1) := o62 ac_cX12_turned_32 3 rfl
theorem dX12_turned_36 : decode cX12_turned 36 = .ok (.iload_n 3, 1) := o29 ac_cX12_turned_32 4 rfl
theorem dX12_turned_37 : decode cX12_turned 37 = .ok (.aload_n 0, 1) := o42 ac_cX12_turned_32 5 rfl
theorem dX12_turned_38 : decode cX12_turned 38 = .ok (.iload_n 1, 1) := o27 ac_cX12_turned_32 6 rfl
theorem dX12_turned_39 : decode cX12_turned 39 = .ok (.invokevirtual 318, 3) := o182 ac_cX12_turned_32 7 1 62 rfl
theorem dX12_turned_42 : decode cX12_turned 42 = .ok (.if_icmp .ge 21, 3) := o162p ac_cX12_turned_32 10 0 21 rfl rfl
theorem dX12_turned_45 : decode cX12_turned 45 = .ok (.aload_n 0, 1) := o42 ac_cX12_turned_32 13 rfl
theorem dX12_turned_46 : decode cX12_turned 46 = .ok (.iload_n 1, 1) := o27 ac_cX12_turned_32 14 rfl
theorem dX12_turned_47 : decode cX12_turned 47 = .ok (.iload_n 2, 1) := o28 ac_cX12_turned_32 15 rfl
def kb_cX12_turned_48 : List Nat := [29, 182, 1, 167, 153, 0, 5, 29, 172, 132, 3, 1, 167, 255, 232, 16, 254, 172]
theorem ac_cX12_turned_48 : AL cX12_turned 48 kb_cX12_turned_48 := AL.of (m := 18) (by decide +kernel)
theorem dX12_turned_48 : decode cX12_turned 48 = .ok (.iload_n 3, 1) := o29 ac_cX12_turned_48 0 rfl
theorem dX12_turned_49 : decode cX12_turned 49 = .ok (.invokevirtual 423, 3) := o182 ac_cX12_turned_48 1 1 167 rfl
theorem dX12_turned_52 : decode cX12_turned 52 = .ok (.ifCond .eq 5, 3) := o153p ac_cX12_turned_48 4 0 5 rfl rfl
theorem dX12_turned_55 : decode cX12_turned 55 = .ok (.iload_n 3, 1) := o29 ac_cX12_turned_48 7 rfl
theorem dX12_turned_56 : decode cX12_turned 56 = .ok (.ireturn, 1) := o172 ac_cX12_turned_48 8 rfl
theorem dX12_turned_57 : decode cX12_turned 57 = .ok (.iinc 3 1, 3) := o132p ac_cX12_turned_48 9 3 1 rfl rfl
theorem dX12_turned_60 : decode cX12_turned 60 = .ok (.goto (-24), 3) := o167n ac_cX12_turned_48 12 255 232 23 rfl rfl rfl
theorem dX12_turned_63 : decode cX12_turned 63 = .ok (.bipush (-2), 2) := o16n ac_cX12_turned_48 15 254 1 rfl rfl rfl
def kb_cX12_turned_64 : List Nat := [254, 172]
theorem ac_cX12_turned_64 : AL cX12_turned 64 kb_cX12_turned_64 := AL.of (m := 2) (by decide +kernel)
theorem dX12_turned_65 : decode cX12_turned 65 = .ok (.ireturn, 1) := o172 ac_cX12_turned_64 1 rfl
theorem dX12_span_10 : decode cX12_span 10 = .ok (.iconst 0, 1) := o3 ac_cX12_span_0 10 rfl
theorem dX12_span_11 : decode cX12_span 11 = .ok (.istore_n 2, 1) := o61 ac_cX12_span_0 11 rfl
theorem dX12_span_12 : decode cX12_span 12 = .ok (.iconst 0, 1) := o3 ac_cX12_span_0 12 rfl
theorem dX12_span_13 : decode cX12_span 13 = .ok (.istore_n 3, 1) := o62 ac_cX12_span_0 13 rfl
theorem dX12_span_14 : decode cX12_span 14 = .ok (.iload_n 3, 1) := o29 ac_cX12_span_0 14 rfl
theorem dX12_span_15 : decode cX12_span 15 = .ok (.aload_n 0, 1) := o42 ac_cX12_span_0 15 rfl
def kb_cX12_span_16 : List Nat := [27, 182, 1, 62, 162, 0, 26, 42, 27, 29, 182, 1, 65, 28, 164, 0, 10, 42, 27, 29]
theorem ac_cX12_span_16 : AL cX12_span 16 kb_cX12_span_16 := AL.of (m := 20) (by decide +kernel)
theorem dX12_span_16 : decode cX12_span 16 = .ok (.iload_n 1, 1) := o27 ac_cX12_span_16 0 rfl
theorem dX12_span_17 : decode cX12_span 17 = .ok (.invokevirtual 318, 3) := o182 ac_cX12_span_16 1 1 62 rfl
theorem dX12_span_20 : decode cX12_span 20 = .ok (.if_icmp .ge 26, 3) := o162p ac_cX12_span_16 4 0 26 rfl rfl
theorem dX12_span_23 : decode cX12_span 23 = .ok (.aload_n 0, 1) := o42 ac_cX12_span_16 7 rfl
theorem dX12_span_24 : decode cX12_span 24 = .ok (.iload_n 1, 1) := o27 ac_cX12_span_16 8 rfl
theorem dX12_span_25 : decode cX12_span 25 = .ok (.iload_n 3, 1) := o29 ac_cX12_span_16 9 rfl
theorem dX12_span_26 : decode cX12_span 26 = .ok (.invokevirtual 321, 3) := o182 ac_cX12_span_16 10 1 65 rfl
theorem dX12_span_29 : decode cX12_span 29 = .ok (.iload_n 2, 1) := o28 ac_cX12_span_16 13 rfl
theorem dX12_span_30 : decode cX12_span 30 = .ok (.if_icmp .le 10, 3) := o164p ac_cX12_span_16 14 0 10 rfl rfl
def kb_cX12_span_32 : List Nat := [10, 42, 27, 29, 182, 1, 65, 61, 132, 3, 1, 167, 255, 227, 28, 172]
theorem ac_cX12_span_32 : AL cX12_span 32 kb_cX12_span_32 := AL.of (m := 16) (by decide +kernel)
theorem dX12_span_33 : decode cX12_span 33 = .ok (.aload_n 0, 1) := o42 ac_cX12_span_32 1 rfl
theorem dX12_span_34 : decode cX12_span 34 = .ok (.iload_n 1, 1) := o27 ac_cX12_span_32 2 rfl
theorem dX12_span_35 : decode cX12_span 35 = .ok (.iload_n 3, 1) := o29 ac_cX12_span_32 3 rfl
theorem dX12_span_36 : decode cX12_span 36 = .ok (.invokevirtual 321, 3) := o182 ac_cX12_span_32 4 1 65 rfl
theorem dX12_span_39 : decode cX12_span 39 = .ok (.istore_n 2, 1) := o61 ac_cX12_span_32 7 rfl
theorem dX12_span_40 : decode cX12_span 40 = .ok (.iinc 3 1, 3) := o132p ac_cX12_span_32 8 3 1 rfl rfl
theorem dX12_span_43 : decode cX12_span 43 = .ok (.goto (-29), 3) := o167n ac_cX12_span_32 11 255 227 28 rfl rfl rfl
theorem dX12_span_46 : decode cX12_span 46 = .ok (.iload_n 2, 1) := o28 ac_cX12_span_32 14 rfl
theorem dX12_span_47 : decode cX12_span 47 = .ok (.ireturn, 1) := o172 ac_cX12_span_32 15 rfl
theorem dX12_swaps_10 : decode cX12_swaps 10 = .ok (.iconst 0, 1) := o3 ac_cX12_swaps_0 10 rfl
theorem dX12_swaps_11 : decode cX12_swaps 11 = .ok (.istore_n 2, 1) := o61 ac_cX12_swaps_0 11 rfl
theorem dX12_swaps_12 : decode cX12_swaps 12 = .ok (.iconst 0, 1) := o3 ac_cX12_swaps_0 12 rfl
theorem dX12_swaps_13 : decode cX12_swaps 13 = .ok (.istore_n 3, 1) := o62 ac_cX12_swaps_0 13 rfl
theorem dX12_swaps_14 : decode cX12_swaps 14 = .ok (.iload_n 3, 1) := o29 ac_cX12_swaps_0 14 rfl
theorem dX12_swaps_15 : decode cX12_swaps 15 = .ok (.aload_n 0, 1) := o42 ac_cX12_swaps_0 15 rfl
def kb_cX12_swaps_16 : List Nat := [27, 182, 1, 62, 162, 0, 74, 29, 4, 96, 54, 4, 21, 4, 42, 27, 182, 1, 62, 162]
theorem ac_cX12_swaps_16 : AL cX12_swaps 16 kb_cX12_swaps_16 := AL.of (m := 20) (by decide +kernel)
theorem dX12_swaps_16 : decode cX12_swaps 16 = .ok (.iload_n 1, 1) := o27 ac_cX12_swaps_16 0 rfl
theorem dX12_swaps_17 : decode cX12_swaps 17 = .ok (.invokevirtual 318, 3) := o182 ac_cX12_swaps_16 1 1 62 rfl
theorem dX12_swaps_20 : decode cX12_swaps 20 = .ok (.if_icmp .ge 74, 3) := o162p ac_cX12_swaps_16 4 0 74 rfl rfl
theorem dX12_swaps_23 : decode cX12_swaps 23 = .ok (.iload_n 3, 1) := o29 ac_cX12_swaps_16 7 rfl
theorem dX12_swaps_24 : decode cX12_swaps 24 = .ok (.iconst 1, 1) := o4 ac_cX12_swaps_16 8 rfl
theorem dX12_swaps_25 : decode cX12_swaps 25 = .ok (.iadd, 1) := o96 ac_cX12_swaps_16 9 rfl
theorem dX12_swaps_26 : decode cX12_swaps 26 = .ok (.istore 4, 2) := o54 ac_cX12_swaps_16 10 4 rfl
theorem dX12_swaps_28 : decode cX12_swaps 28 = .ok (.iload 4, 2) := o21 ac_cX12_swaps_16 12 4 rfl
theorem dX12_swaps_30 : decode cX12_swaps 30 = .ok (.aload_n 0, 1) := o42 ac_cX12_swaps_16 14 rfl
theorem dX12_swaps_31 : decode cX12_swaps 31 = .ok (.iload_n 1, 1) := o27 ac_cX12_swaps_16 15 rfl
def kb_cX12_swaps_32 : List Nat := [182, 1, 62, 162, 0, 53, 42, 27, 21, 4, 182, 1, 65, 21, 4, 96, 29, 100, 3, 16]
theorem ac_cX12_swaps_32 : AL cX12_swaps 32 kb_cX12_swaps_32 := AL.of (m := 20) (by decide +kernel)
theorem dX12_swaps_32 : decode cX12_swaps 32 = .ok (.invokevirtual 318, 3) := o182 ac_cX12_swaps_32 0 1 62 rfl
theorem dX12_swaps_35 : decode cX12_swaps 35 = .ok (.if_icmp .ge 53, 3) := o162p ac_cX12_swaps_32 3 0 53 rfl rfl
theorem dX12_swaps_38 : decode cX12_swaps 38 = .ok (.aload_n 0, 1) := o42 ac_cX12_swaps_32 6 rfl
theorem dX12_swaps_39 : decode cX12_swaps 39 = .ok (.iload_n 1, 1) := o27 ac_cX12_swaps_32 7 rfl
theorem dX12_swaps_40 : decode cX12_swaps 40 = .ok (.iload 4, 2) := o21 ac_cX12_swaps_32 8 4 rfl
theorem dX12_swaps_42 : decode cX12_swaps 42 = .ok (.invokevirtual 321, 3) := o182 ac_cX12_swaps_32 10 1 65 rfl
theorem dX12_swaps_45 : decode cX12_swaps 45 = .ok (.iload 4, 2) := o21 ac_cX12_swaps_32 13 4 rfl
theorem dX12_swaps_47 : decode cX12_swaps 47 = .ok (.iadd, 1) := o96 ac_cX12_swaps_32 15 rfl
def kb_cX12_swaps_48 : List Nat := [29, 100, 3, 16, 9, 184, 1, 45, 153, 0, 26, 42, 27, 29, 182, 1, 65, 21, 4, 100]
theorem ac_cX12_swaps_48 : AL cX12_swaps 48 kb_cX12_swaps_48 := AL.of (m := 20) (by decide +kernel)
theorem dX12_swaps_48 : decode cX12_swaps 48 = .ok (.iload_n 3, 1) := o29 ac_cX12_swaps_48 0 rfl
theorem dX12_swaps_49 : decode cX12_swaps 49 = .ok (.isub, 1) := o100 ac_cX12_swaps_48 1 rfl
theorem dX12_swaps_50 : decode cX12_swaps 50 = .ok (.iconst 0, 1) := o3 ac_cX12_swaps_48 2 rfl
theorem dX12_swaps_51 : decode cX12_swaps 51 = .ok (.bipush 9, 2) := o16p ac_cX12_swaps_48 3 9 rfl rfl
theorem dX12_swaps_53 : decode cX12_swaps 53 = .ok (.invokestatic 301, 3) := o184 ac_cX12_swaps_48 5 1 45 rfl
theorem dX12_swaps_56 : decode cX12_swaps 56 = .ok (.ifCond .eq 26, 3) := o153p ac_cX12_swaps_48 8 0 26 rfl rfl
theorem dX12_swaps_59 : decode cX12_swaps 59 = .ok (.aload_n 0, 1) := o42 ac_cX12_swaps_48 11 rfl
theorem dX12_swaps_60 : decode cX12_swaps 60 = .ok (.iload_n 1, 1) := o27 ac_cX12_swaps_48 12 rfl
theorem dX12_swaps_61 : decode cX12_swaps 61 = .ok (.iload_n 3, 1) := o29 ac_cX12_swaps_48 13 rfl
theorem dX12_swaps_62 : decode cX12_swaps 62 = .ok (.invokevirtual 321, 3) := o182 ac_cX12_swaps_48 14 1 65 rfl
def kb_cX12_swaps_64 : List Nat := [65, 21, 4, 100, 29, 96, 3, 16, 9, 184, 1, 45, 153, 0, 6, 132, 2, 1, 132, 4]
theorem ac_cX12_swaps_64 : AL cX12_swaps 64 kb_cX12_swaps_64 := AL.of (m := 20) (by decide +kernel)
theorem dX12_swaps_65 : decode cX12_swaps 65 = .ok (.iload 4, 2) := o21 ac_cX12_swaps_64 1 4 rfl
theorem dX12_swaps_67 : decode cX12_swaps 67 = .ok (.isub, 1) := o100 ac_cX12_swaps_64 3 rfl
theorem dX12_swaps_68 : decode cX12_swaps 68 = .ok (.iload_n 3, 1) := o29 ac_cX12_swaps_64 4 rfl
theorem dX12_swaps_69 : decode cX12_swaps 69 = .ok (.iadd, 1) := o96 ac_cX12_swaps_64 5 rfl
theorem dX12_swaps_70 : decode cX12_swaps 70 = .ok (.iconst 0, 1) := o3 ac_cX12_swaps_64 6 rfl
theorem dX12_swaps_71 : decode cX12_swaps 71 = .ok (.bipush 9, 2) := o16p ac_cX12_swaps_64 7 9 rfl rfl
theorem dX12_swaps_73 : decode cX12_swaps 73 = .ok (.invokestatic 301, 3) := o184 ac_cX12_swaps_64 9 1 45 rfl
theorem dX12_swaps_76 : decode cX12_swaps 76 = .ok (.ifCond .eq 6, 3) := o153p ac_cX12_swaps_64 12 0 6 rfl rfl
theorem dX12_swaps_79 : decode cX12_swaps 79 = .ok (.iinc 2 1, 3) := o132p ac_cX12_swaps_64 15 2 1 rfl rfl
def kb_cX12_swaps_80 : List Nat := [2, 1, 132, 4, 1, 167, 255, 199, 132, 3, 1, 167, 255, 179, 28, 172]
theorem ac_cX12_swaps_80 : AL cX12_swaps 80 kb_cX12_swaps_80 := AL.of (m := 16) (by decide +kernel)
theorem dX12_swaps_82 : decode cX12_swaps 82 = .ok (.iinc 4 1, 3) := o132p ac_cX12_swaps_80 2 4 1 rfl rfl
theorem dX12_swaps_85 : decode cX12_swaps 85 = .ok (.goto (-57), 3) := o167n ac_cX12_swaps_80 5 255 199 56 rfl rfl rfl
theorem dX12_swaps_88 : decode cX12_swaps 88 = .ok (.iinc 3 1, 3) := o132p ac_cX12_swaps_80 8 3 1 rfl rfl
theorem dX12_swaps_91 : decode cX12_swaps 91 = .ok (.goto (-77), 3) := o167n ac_cX12_swaps_80 11 255 179 76 rfl rfl rfl
theorem dX12_swaps_94 : decode cX12_swaps 94 = .ok (.iload_n 2, 1) := o28 ac_cX12_swaps_80 14 rfl
theorem dX12_swaps_95 : decode cX12_swaps 95 = .ok (.ireturn, 1) := o172 ac_cX12_swaps_80 15 rfl
theorem dX12_lands_22 : decode cX12_lands 22 = .ok (.iload_n 1, 1) := o27 ac_cX12_lands_16 6 rfl
theorem dX12_lands_23 : decode cX12_lands 23 = .ok (.iconst 1, 1) := o4 ac_cX12_lands_16 7 rfl
theorem dX12_lands_24 : decode cX12_lands 24 = .ok (.iload_n 2, 1) := o28 ac_cX12_lands_16 8 rfl
theorem dX12_lands_25 : decode cX12_lands 25 = .ok (.ishl, 1) := o120 ac_cX12_lands_16 9 rfl
theorem dX12_lands_26 : decode cX12_lands 26 = .ok (.ior, 1) := o128 ac_cX12_lands_16 10 rfl
theorem dX12_lands_27 : decode cX12_lands 27 = .ok (.istore_n 1, 1) := o60 ac_cX12_lands_16 11 rfl
def kb_cX12_areTwoSoon_0 : List Nat := [3, 60, 27, 16, 10, 162, 0, 20, 42, 27, 182, 1, 170, 4, 164, 0, 5, 4, 172, 132]
theorem ac_cX12_areTwoSoon_0 : AL cX12_areTwoSoon 0 kb_cX12_areTwoSoon_0 := AL.of (m := 20) (by decide +kernel)
theorem dX12_areTwoSoon_0 : decode cX12_areTwoSoon 0 = .ok (.iconst 0, 1) := o3 ac_cX12_areTwoSoon_0 0 rfl
theorem dX12_areTwoSoon_1 : decode cX12_areTwoSoon 1 = .ok (.istore_n 1, 1) := o60 ac_cX12_areTwoSoon_0 1 rfl
theorem dX12_areTwoSoon_2 : decode cX12_areTwoSoon 2 = .ok (.iload_n 1, 1) := o27 ac_cX12_areTwoSoon_0 2 rfl
theorem dX12_areTwoSoon_3 : decode cX12_areTwoSoon 3 = .ok (.bipush 10, 2) := o16p ac_cX12_areTwoSoon_0 3 10 rfl rfl
theorem dX12_areTwoSoon_5 : decode cX12_areTwoSoon 5 = .ok (.if_icmp .ge 20, 3) := o162p ac_cX12_areTwoSoon_0 5 0 20 rfl rfl
theorem dX12_areTwoSoon_8 : decode cX12_areTwoSoon 8 = .ok (.aload_n 0, 1) := o42 ac_cX12_areTwoSoon_0 8 rfl
theorem dX12_areTwoSoon_9 : decode cX12_areTwoSoon 9 = .ok (.iload_n 1, 1) := o27 ac_cX12_areTwoSoon_0 9 rfl
theorem dX12_areTwoSoon_10 : decode cX12_areTwoSoon 10 = .ok (.invokevirtual 426, 3) := o182 ac_cX12_areTwoSoon_0 10 1 170 rfl
theorem dX12_areTwoSoon_13 : decode cX12_areTwoSoon 13 = .ok (.iconst 1, 1) := o4 ac_cX12_areTwoSoon_0 13 rfl
theorem dX12_areTwoSoon_14 : decode cX12_areTwoSoon 14 = .ok (.if_icmp .le 5, 3) := o164p ac_cX12_areTwoSoon_0 14 0 5 rfl rfl
def kb_cX12_areTwoSoon_16 : List Nat := [5, 4, 172, 132, 1, 1, 167, 255, 236, 3, 172]
theorem ac_cX12_areTwoSoon_16 : AL cX12_areTwoSoon 16 kb_cX12_areTwoSoon_16 := AL.of (m := 11) (by decide +kernel)
theorem dX12_areTwoSoon_17 : decode cX12_areTwoSoon 17 = .ok (.iconst 1, 1) := o4 ac_cX12_areTwoSoon_16 1 rfl
theorem dX12_areTwoSoon_18 : decode cX12_areTwoSoon 18 = .ok (.ireturn, 1) := o172 ac_cX12_areTwoSoon_16 2 rfl
theorem dX12_areTwoSoon_19 : decode cX12_areTwoSoon 19 = .ok (.iinc 1 1, 3) := o132p ac_cX12_areTwoSoon_16 3 1 1 rfl rfl
theorem dX12_areTwoSoon_22 : decode cX12_areTwoSoon 22 = .ok (.goto (-20), 3) := o167n ac_cX12_areTwoSoon_16 6 255 236 19 rfl rfl rfl
theorem dX12_areTwoSoon_25 : decode cX12_areTwoSoon 25 = .ok (.iconst 0, 1) := o3 ac_cX12_areTwoSoon_16 9 rfl
theorem dX12_areTwoSoon_26 : decode cX12_areTwoSoon 26 = .ok (.ireturn, 1) := o172 ac_cX12_areTwoSoon_16 10 rfl
def kb_cX12_aimOf_0 : List Nat := [3, 61, 4, 62, 29, 16, 9, 163, 0, 50, 42, 27, 182, 1, 62, 16, 9, 104, 29, 100]
theorem ac_cX12_aimOf_0 : AL cX12_aimOf 0 kb_cX12_aimOf_0 := AL.of (m := 20) (by decide +kernel)
theorem dX12_aimOf_0 : decode cX12_aimOf 0 = .ok (.iconst 0, 1) := o3 ac_cX12_aimOf_0 0 rfl
theorem dX12_aimOf_1 : decode cX12_aimOf 1 = .ok (.istore_n 2, 1) := o61 ac_cX12_aimOf_0 1 rfl
theorem dX12_aimOf_2 : decode cX12_aimOf 2 = .ok (.iconst 1, 1) := o4 ac_cX12_aimOf_0 2 rfl
theorem dX12_aimOf_3 : decode cX12_aimOf 3 = .ok (.istore_n 3, 1) := o62 ac_cX12_aimOf_0 3 rfl
theorem dX12_aimOf_4 : decode cX12_aimOf 4 = .ok (.iload_n 3, 1) := o29 ac_cX12_aimOf_0 4 rfl
theorem dX12_aimOf_5 : decode cX12_aimOf 5 = .ok (.bipush 9, 2) := o16p ac_cX12_aimOf_0 5 9 rfl rfl
theorem dX12_aimOf_7 : decode cX12_aimOf 7 = .ok (.if_icmp .gt 50, 3) := o163p ac_cX12_aimOf_0 7 0 50 rfl rfl
theorem dX12_aimOf_10 : decode cX12_aimOf 10 = .ok (.aload_n 0, 1) := o42 ac_cX12_aimOf_0 10 rfl
theorem dX12_aimOf_11 : decode cX12_aimOf 11 = .ok (.iload_n 1, 1) := o27 ac_cX12_aimOf_0 11 rfl
theorem dX12_aimOf_12 : decode cX12_aimOf 12 = .ok (.invokevirtual 318, 3) := o182 ac_cX12_aimOf_0 12 1 62 rfl
theorem dX12_aimOf_15 : decode cX12_aimOf 15 = .ok (.bipush 9, 2) := o16p ac_cX12_aimOf_0 15 9 rfl rfl
def kb_cX12_aimOf_16 : List Nat := [9, 104, 29, 100, 42, 27, 182, 1, 62, 112, 54, 4, 42, 27, 21, 4, 182, 1, 65, 29]
theorem ac_cX12_aimOf_16 : AL cX12_aimOf 16 kb_cX12_aimOf_16 := AL.of (m := 20) (by decide +kernel)
theorem dX12_aimOf_17 : decode cX12_aimOf 17 = .ok (.imul, 1) := o104 ac_cX12_aimOf_16 1 rfl
theorem dX12_aimOf_18 : decode cX12_aimOf 18 = .ok (.iload_n 3, 1) := o29 ac_cX12_aimOf_16 2 rfl
theorem dX12_aimOf_19 : decode cX12_aimOf 19 = .ok (.isub, 1) := o100 ac_cX12_aimOf_16 3 rfl
theorem dX12_aimOf_20 : decode cX12_aimOf 20 = .ok (.aload_n 0, 1) := o42 ac_cX12_aimOf_16 4 rfl
theorem dX12_aimOf_21 : decode cX12_aimOf 21 = .ok (.iload_n 1, 1) := o27 ac_cX12_aimOf_16 5 rfl
theorem dX12_aimOf_22 : decode cX12_aimOf 22 = .ok (.invokevirtual 318, 3) := o182 ac_cX12_aimOf_16 6 1 62 rfl
theorem dX12_aimOf_25 : decode cX12_aimOf 25 = .ok (.irem, 1) := o112 ac_cX12_aimOf_16 9 rfl
theorem dX12_aimOf_26 : decode cX12_aimOf 26 = .ok (.istore 4, 2) := o54 ac_cX12_aimOf_16 10 4 rfl
theorem dX12_aimOf_28 : decode cX12_aimOf 28 = .ok (.aload_n 0, 1) := o42 ac_cX12_aimOf_16 12 rfl
theorem dX12_aimOf_29 : decode cX12_aimOf 29 = .ok (.iload_n 1, 1) := o27 ac_cX12_aimOf_16 13 rfl
theorem dX12_aimOf_30 : decode cX12_aimOf 30 = .ok (.iload 4, 2) := o21 ac_cX12_aimOf_16 14 4 rfl
def kb_cX12_aimOf_32 : List Nat := [182, 1, 65, 29, 100, 54, 5, 21, 5, 155, 0, 10, 28, 4, 21, 5, 120, 128, 61, 132]
theorem ac_cX12_aimOf_32 : AL cX12_aimOf 32 kb_cX12_aimOf_32 := AL.of (m := 20) (by decide +kernel)
theorem dX12_aimOf_32 : decode cX12_aimOf 32 = .ok (.invokevirtual 321, 3) := o182 ac_cX12_aimOf_32 0 1 65 rfl
theorem dX12_aimOf_35 : decode cX12_aimOf 35 = .ok (.iload_n 3, 1) := o29 ac_cX12_aimOf_32 3 rfl
theorem dX12_aimOf_36 : decode cX12_aimOf 36 = .ok (.isub, 1) := o100 ac_cX12_aimOf_32 4 rfl
theorem dX12_aimOf_37 : decode cX12_aimOf 37 = .ok (.istore 5, 2) := o54 ac_cX12_aimOf_32 5 5 rfl
theorem dX12_aimOf_39 : decode cX12_aimOf 39 = .ok (.iload 5, 2) := o21 ac_cX12_aimOf_32 7 5 rfl
theorem dX12_aimOf_41 : decode cX12_aimOf 41 = .ok (.ifCond .lt 10, 3) := o155p ac_cX12_aimOf_32 9 0 10 rfl rfl
theorem dX12_aimOf_44 : decode cX12_aimOf 44 = .ok (.iload_n 2, 1) := o28 ac_cX12_aimOf_32 12 rfl
theorem dX12_aimOf_45 : decode cX12_aimOf 45 = .ok (.iconst 1, 1) := o4 ac_cX12_aimOf_32 13 rfl
theorem dX12_aimOf_46 : decode cX12_aimOf 46 = .ok (.iload 5, 2) := o21 ac_cX12_aimOf_32 14 5 rfl
def kb_cX12_aimOf_48 : List Nat := [120, 128, 61, 132, 3, 1, 167, 255, 206, 28, 172]
theorem ac_cX12_aimOf_48 : AL cX12_aimOf 48 kb_cX12_aimOf_48 := AL.of (m := 11) (by decide +kernel)
theorem dX12_aimOf_48 : decode cX12_aimOf 48 = .ok (.ishl, 1) := o120 ac_cX12_aimOf_48 0 rfl
theorem dX12_aimOf_49 : decode cX12_aimOf 49 = .ok (.ior, 1) := o128 ac_cX12_aimOf_48 1 rfl
theorem dX12_aimOf_50 : decode cX12_aimOf 50 = .ok (.istore_n 2, 1) := o61 ac_cX12_aimOf_48 2 rfl
theorem dX12_aimOf_51 : decode cX12_aimOf 51 = .ok (.iinc 3 1, 3) := o132p ac_cX12_aimOf_48 3 3 1 rfl rfl
theorem dX12_aimOf_54 : decode cX12_aimOf 54 = .ok (.goto (-50), 3) := o167n ac_cX12_aimOf_48 6 255 206 49 rfl rfl rfl
theorem dX12_aimOf_57 : decode cX12_aimOf 57 = .ok (.iload_n 2, 1) := o28 ac_cX12_aimOf_48 9 rfl
theorem dX12_aimOf_58 : decode cX12_aimOf 58 = .ok (.ireturn, 1) := o172 ac_cX12_aimOf_48 10 rfl
theorem dX12_order_37 : decode cX12_order 37 = .ok (.aload_n 0, 1) := o42 ac_cX12_order_32 5 rfl
theorem dX12_order_38 : decode cX12_order 38 = .ok (.iload_n 3, 1) := o29 ac_cX12_order_32 6 rfl
theorem dX12_order_39 : decode cX12_order 39 = .ok (.bipush 7, 2) := o16p ac_cX12_order_32 7 7 rfl rfl
theorem dX12_order_41 : decode cX12_order 41 = .ok (.irem, 1) := o112 ac_cX12_order_32 9 rfl
theorem dX12_order_42 : decode cX12_order 42 = .ok (.iload_n 3, 1) := o29 ac_cX12_order_32 10 rfl
theorem dX12_order_43 : decode cX12_order 43 = .ok (.bipush 7, 2) := o16p ac_cX12_order_32 11 7 rfl rfl
theorem dX12_order_45 : decode cX12_order 45 = .ok (.idiv, 1) := o108 ac_cX12_order_32 13 rfl
theorem dX12_order_46 : decode cX12_order 46 = .ok (.invokevirtual 324, 3) := o182 ac_cX12_order_32 14 1 68 rfl
def kb_cX12_order_48 : List Nat := [68, 154, 0, 6, 167, 0, 16, 28, 27, 160, 0, 8, 29, 16, 7, 112, 172, 132, 2, 1]
theorem ac_cX12_order_48 : AL cX12_order 48 kb_cX12_order_48 := AL.of (m := 20) (by decide +kernel)
theorem dX12_order_49 : decode cX12_order 49 = .ok (.ifCond .ne 6, 3) := o154p ac_cX12_order_48 1 0 6 rfl rfl
theorem dX12_order_52 : decode cX12_order 52 = .ok (.goto 16, 3) := o167p ac_cX12_order_48 4 0 16 rfl rfl
theorem dX12_order_55 : decode cX12_order 55 = .ok (.iload_n 2, 1) := o28 ac_cX12_order_48 7 rfl
theorem dX12_order_56 : decode cX12_order 56 = .ok (.iload_n 1, 1) := o27 ac_cX12_order_48 8 rfl
theorem dX12_order_57 : decode cX12_order 57 = .ok (.if_icmp .ne 8, 3) := o160p ac_cX12_order_48 9 0 8 rfl rfl
theorem dX12_order_60 : decode cX12_order 60 = .ok (.iload_n 3, 1) := o29 ac_cX12_order_48 12 rfl
theorem dX12_order_61 : decode cX12_order 61 = .ok (.bipush 7, 2) := o16p ac_cX12_order_48 13 7 rfl rfl
theorem dX12_order_63 : decode cX12_order 63 = .ok (.irem, 1) := o112 ac_cX12_order_48 15 rfl
theorem dX12_order_64 : decode cX12_order 64 = .ok (.ireturn, 1) := o172 ac_cX12_order_64 0 rfl
theorem dX12_order_65 : decode cX12_order 65 = .ok (.iinc 2 1, 3) := o132p ac_cX12_order_64 1 2 1 rfl rfl
theorem dX12_undo_9 : decode cX12_undo 9 = .ok (.aload_n 0, 1) := o42 ac_cX12_undo_0 9 rfl
theorem dX12_undo_10 : decode cX12_undo 10 = .ok (.dup, 1) := o89 ac_cX12_undo_0 10 rfl
theorem dX12_undo_11 : decode cX12_undo 11 = .ok (.getfield 239, 3) := o180 ac_cX12_undo_0 11 0 239 rfl
theorem dX12_undo_14 : decode cX12_undo 14 = .ok (.iconst 1, 1) := o4 ac_cX12_undo_0 14 rfl
theorem dX12_undo_15 : decode cX12_undo 15 = .ok (.isub, 1) := o100 ac_cX12_undo_0 15 rfl
def kb_cX12_undo_16 : List Nat := [181, 0, 239, 3, 60, 27, 16, 29, 162, 0, 29, 42, 180, 0, 107, 27, 42, 180, 0, 113]
theorem ac_cX12_undo_16 : AL cX12_undo 16 kb_cX12_undo_16 := AL.of (m := 20) (by decide +kernel)
theorem dX12_undo_16 : decode cX12_undo 16 = .ok (.putfield 239, 3) := o181 ac_cX12_undo_16 0 0 239 rfl
theorem dX12_undo_19 : decode cX12_undo 19 = .ok (.iconst 0, 1) := o3 ac_cX12_undo_16 3 rfl
theorem dX12_undo_20 : decode cX12_undo 20 = .ok (.istore_n 1, 1) := o60 ac_cX12_undo_16 4 rfl
theorem dX12_undo_21 : decode cX12_undo 21 = .ok (.iload_n 1, 1) := o27 ac_cX12_undo_16 5 rfl
theorem dX12_undo_22 : decode cX12_undo 22 = .ok (.bipush 29, 2) := o16p ac_cX12_undo_16 6 29 rfl rfl
theorem dX12_undo_24 : decode cX12_undo 24 = .ok (.if_icmp .ge 29, 3) := o162p ac_cX12_undo_16 8 0 29 rfl rfl
theorem dX12_undo_27 : decode cX12_undo 27 = .ok (.aload_n 0, 1) := o42 ac_cX12_undo_16 11 rfl
theorem dX12_undo_28 : decode cX12_undo 28 = .ok (.getfield 107, 3) := o180 ac_cX12_undo_16 12 0 107 rfl
theorem dX12_undo_31 : decode cX12_undo 31 = .ok (.iload_n 1, 1) := o27 ac_cX12_undo_16 15 rfl
def kb_cX12_undo_32 : List Nat := [42, 180, 0, 113, 16, 29, 42, 180, 0, 239, 104, 27, 96, 46, 79, 132, 1, 1, 167, 255]
theorem ac_cX12_undo_32 : AL cX12_undo 32 kb_cX12_undo_32 := AL.of (m := 20) (by decide +kernel)
theorem dX12_undo_32 : decode cX12_undo 32 = .ok (.aload_n 0, 1) := o42 ac_cX12_undo_32 0 rfl
theorem dX12_undo_33 : decode cX12_undo 33 = .ok (.getfield 113, 3) := o180 ac_cX12_undo_32 1 0 113 rfl
theorem dX12_undo_36 : decode cX12_undo 36 = .ok (.bipush 29, 2) := o16p ac_cX12_undo_32 4 29 rfl rfl
theorem dX12_undo_38 : decode cX12_undo 38 = .ok (.aload_n 0, 1) := o42 ac_cX12_undo_32 6 rfl
theorem dX12_undo_39 : decode cX12_undo 39 = .ok (.getfield 239, 3) := o180 ac_cX12_undo_32 7 0 239 rfl
theorem dX12_undo_42 : decode cX12_undo 42 = .ok (.imul, 1) := o104 ac_cX12_undo_32 10 rfl
theorem dX12_undo_43 : decode cX12_undo 43 = .ok (.iload_n 1, 1) := o27 ac_cX12_undo_32 11 rfl
theorem dX12_undo_44 : decode cX12_undo 44 = .ok (.iadd, 1) := o96 ac_cX12_undo_32 12 rfl
theorem dX12_undo_45 : decode cX12_undo 45 = .ok (.iaload, 1) := o46 ac_cX12_undo_32 13 rfl
theorem dX12_undo_46 : decode cX12_undo 46 = .ok (.iastore, 1) := o79 ac_cX12_undo_32 14 rfl
theorem dX12_undo_47 : decode cX12_undo 47 = .ok (.iinc 1 1, 3) := o132p ac_cX12_undo_32 15 1 1 rfl rfl
def kb_cX12_undo_48 : List Nat := [1, 1, 167, 255, 227, 4, 172]
theorem ac_cX12_undo_48 : AL cX12_undo 48 kb_cX12_undo_48 := AL.of (m := 7) (by decide +kernel)
theorem dX12_undo_50 : decode cX12_undo 50 = .ok (.goto (-29), 3) := o167n ac_cX12_undo_48 2 255 227 28 rfl rfl rfl
theorem dX12_undo_53 : decode cX12_undo 53 = .ok (.iconst 1, 1) := o4 ac_cX12_undo_48 5 rfl
theorem dX12_undo_54 : decode cX12_undo 54 = .ok (.ireturn, 1) := o172 ac_cX12_undo_48 6 rfl
theorem dX12_restore_20 : decode cX12_restore 20 = .ok (.iconst 0, 1) := o3 ac_cX12_restore_16 4 rfl
theorem dX12_restore_21 : decode cX12_restore 21 = .ok (.istore_n 2, 1) := o61 ac_cX12_restore_16 5 rfl
theorem dX12_restore_22 : decode cX12_restore 22 = .ok (.iload_n 2, 1) := o28 ac_cX12_restore_16 6 rfl
theorem dX12_restore_23 : decode cX12_restore 23 = .ok (.bipush 29, 2) := o16p ac_cX12_restore_16 7 29 rfl rfl
theorem dX12_restore_25 : decode cX12_restore 25 = .ok (.if_icmp .ge 26, 3) := o162p ac_cX12_restore_16 9 0 26 rfl rfl
theorem dX12_restore_28 : decode cX12_restore 28 = .ok (.aload_n 0, 1) := o42 ac_cX12_restore_16 12 rfl
theorem dX12_restore_29 : decode cX12_restore 29 = .ok (.getfield 107, 3) := o180 ac_cX12_restore_16 13 0 107 rfl
def kb_cX12_restore_32 : List Nat := [28, 42, 180, 0, 137, 16, 29, 27, 104, 28, 96, 46, 79, 132, 2, 1, 167, 255, 230, 42]
theorem ac_cX12_restore_32 : AL cX12_restore 32 kb_cX12_restore_32 := AL.of (m := 20) (by decide +kernel)
theorem dX12_restore_32 : decode cX12_restore 32 = .ok (.iload_n 2, 1) := o28 ac_cX12_restore_32 0 rfl
theorem dX12_restore_33 : decode cX12_restore 33 = .ok (.aload_n 0, 1) := o42 ac_cX12_restore_32 1 rfl
theorem dX12_restore_34 : decode cX12_restore 34 = .ok (.getfield 137, 3) := o180 ac_cX12_restore_32 2 0 137 rfl
theorem dX12_restore_37 : decode cX12_restore 37 = .ok (.bipush 29, 2) := o16p ac_cX12_restore_32 5 29 rfl rfl
theorem dX12_restore_39 : decode cX12_restore 39 = .ok (.iload_n 1, 1) := o27 ac_cX12_restore_32 7 rfl
theorem dX12_restore_40 : decode cX12_restore 40 = .ok (.imul, 1) := o104 ac_cX12_restore_32 8 rfl
theorem dX12_restore_41 : decode cX12_restore 41 = .ok (.iload_n 2, 1) := o28 ac_cX12_restore_32 9 rfl
theorem dX12_restore_42 : decode cX12_restore 42 = .ok (.iadd, 1) := o96 ac_cX12_restore_32 10 rfl
theorem dX12_restore_43 : decode cX12_restore 43 = .ok (.iaload, 1) := o46 ac_cX12_restore_32 11 rfl
theorem dX12_restore_44 : decode cX12_restore 44 = .ok (.iastore, 1) := o79 ac_cX12_restore_32 12 rfl
theorem dX12_restore_45 : decode cX12_restore 45 = .ok (.iinc 2 1, 3) := o132p ac_cX12_restore_32 13 2 1 rfl rfl
def kb_cX12_restore_48 : List Nat := [167, 255, 230, 42, 3, 181, 0, 239, 4, 172]
theorem ac_cX12_restore_48 : AL cX12_restore 48 kb_cX12_restore_48 := AL.of (m := 10) (by decide +kernel)
theorem dX12_restore_48 : decode cX12_restore 48 = .ok (.goto (-26), 3) := o167n ac_cX12_restore_48 0 255 230 25 rfl rfl rfl
theorem dX12_restore_51 : decode cX12_restore 51 = .ok (.aload_n 0, 1) := o42 ac_cX12_restore_48 3 rfl
theorem dX12_restore_52 : decode cX12_restore 52 = .ok (.iconst 0, 1) := o3 ac_cX12_restore_48 4 rfl
theorem dX12_restore_53 : decode cX12_restore 53 = .ok (.putfield 239, 3) := o181 ac_cX12_restore_48 5 0 239 rfl
theorem dX12_restore_56 : decode cX12_restore 56 = .ok (.iconst 1, 1) := o4 ac_cX12_restore_48 8 rfl
theorem dX12_restore_57 : decode cX12_restore 57 = .ok (.ireturn, 1) := o172 ac_cX12_restore_48 9 rfl
theorem dX12_records_9 : decode cX12_records 9 = .ok (.iconst 0, 1) := o3 ac_cX12_records_0 9 rfl
theorem dX12_records_10 : decode cX12_records 10 = .ok (.istore_n 1, 1) := o60 ac_cX12_records_0 10 rfl
theorem dX12_records_11 : decode cX12_records 11 = .ok (.iload_n 1, 1) := o27 ac_cX12_records_0 11 rfl
theorem dX12_records_12 : decode cX12_records 12 = .ok (.sipush 1131, 3) := o17p ac_cX12_records_0 12 4 107 rfl rfl
theorem dX12_records_15 : decode cX12_records 15 = .ok (.if_icmp .ge 24, 3) := o162p ac_cX12_records_0 15 0 24 rfl rfl
def kb_cX12_records_16 : List Nat := [0, 24, 42, 180, 0, 113, 27, 42, 180, 0, 113, 27, 16, 29, 96, 46, 79, 132, 1, 1]
theorem ac_cX12_records_16 : AL cX12_records 16 kb_cX12_records_16 := AL.of (m := 20) (by decide +kernel)
theorem dX12_records_18 : decode cX12_records 18 = .ok (.aload_n 0, 1) := o42 ac_cX12_records_16 2 rfl
theorem dX12_records_19 : decode cX12_records 19 = .ok (.getfield 113, 3) := o180 ac_cX12_records_16 3 0 113 rfl
theorem dX12_records_22 : decode cX12_records 22 = .ok (.iload_n 1, 1) := o27 ac_cX12_records_16 6 rfl
theorem dX12_records_23 : decode cX12_records 23 = .ok (.aload_n 0, 1) := o42 ac_cX12_records_16 7 rfl
theorem dX12_records_24 : decode cX12_records 24 = .ok (.getfield 113, 3) := o180 ac_cX12_records_16 8 0 113 rfl
theorem dX12_records_27 : decode cX12_records 27 = .ok (.iload_n 1, 1) := o27 ac_cX12_records_16 11 rfl
theorem dX12_records_28 : decode cX12_records 28 = .ok (.bipush 29, 2) := o16p ac_cX12_records_16 12 29 rfl rfl
theorem dX12_records_30 : decode cX12_records 30 = .ok (.iadd, 1) := o96 ac_cX12_records_16 14 rfl
theorem dX12_records_31 : decode cX12_records 31 = .ok (.iaload, 1) := o46 ac_cX12_records_16 15 rfl
def kb_cX12_records_32 : List Nat := [79, 132, 1, 1, 167, 255, 231, 42, 89, 180, 0, 239, 4, 100, 181, 0, 239, 3, 60, 27]
theorem ac_cX12_records_32 : AL cX12_records 32 kb_cX12_records_32 := AL.of (m := 20) (by decide +kernel)
theorem dX12_records_32 : decode cX12_records 32 = .ok (.iastore, 1) := o79 ac_cX12_records_32 0 rfl
theorem dX12_records_33 : decode cX12_records 33 = .ok (.iinc 1 1, 3) := o132p ac_cX12_records_32 1 1 1 rfl rfl
theorem dX12_records_36 : decode cX12_records 36 = .ok (.goto (-25), 3) := o167n ac_cX12_records_32 4 255 231 24 rfl rfl rfl
theorem dX12_records_39 : decode cX12_records 39 = .ok (.aload_n 0, 1) := o42 ac_cX12_records_32 7 rfl
theorem dX12_records_40 : decode cX12_records 40 = .ok (.dup, 1) := o89 ac_cX12_records_32 8 rfl
theorem dX12_records_41 : decode cX12_records 41 = .ok (.getfield 239, 3) := o180 ac_cX12_records_32 9 0 239 rfl
theorem dX12_records_44 : decode cX12_records 44 = .ok (.iconst 1, 1) := o4 ac_cX12_records_32 12 rfl
theorem dX12_records_45 : decode cX12_records 45 = .ok (.isub, 1) := o100 ac_cX12_records_32 13 rfl
theorem dX12_records_46 : decode cX12_records 46 = .ok (.putfield 239, 3) := o181 ac_cX12_records_32 14 0 239 rfl
theorem dX12_throwIn_8 : decode cX12_throwIn 8 = .ok (.aload_n 0, 1) := o42 ac_cX12_throwIn_0 8 rfl
theorem dX12_throwIn_9 : decode cX12_throwIn 9 = .ok (.getfield 107, 3) := o180 ac_cX12_throwIn_0 9 0 107 rfl
theorem dX12_throwIn_12 : decode cX12_throwIn 12 = .ok (.iload_n 1, 1) := o27 ac_cX12_throwIn_0 12 rfl
theorem dX12_throwIn_13 : decode cX12_throwIn 13 = .ok (.iaload, 1) := o46 ac_cX12_throwIn_0 13 rfl
theorem dX12_throwIn_14 : decode cX12_throwIn 14 = .ok (.ifCond .eq 13, 3) := o153p ac_cX12_throwIn_0 14 0 13 rfl rfl
theorem dX12_throwIn_17 : decode cX12_throwIn 17 = .ok (.iload_n 2, 1) := o28 ac_cX12_throwIn_16 1 rfl
theorem dX12_throwIn_18 : decode cX12_throwIn 18 = .ok (.iconst 0, 1) := o3 ac_cX12_throwIn_16 2 rfl
theorem dX12_throwIn_19 : decode cX12_throwIn 19 = .ok (.bipush 9, 2) := o16p ac_cX12_throwIn_16 3 9 rfl rfl
theorem dX12_throwIn_21 : decode cX12_throwIn 21 = .ok (.invokestatic 301, 3) := o184 ac_cX12_throwIn_16 5 1 45 rfl
theorem dX12_throwIn_24 : decode cX12_throwIn 24 = .ok (.ifCond .ne 5, 3) := o154p ac_cX12_throwIn_16 8 0 5 rfl rfl
theorem dX12_throwIn_29 : decode cX12_throwIn 29 = .ok (.aload_n 0, 1) := o42 ac_cX12_throwIn_16 13 rfl
theorem dX12_throwIn_30 : decode cX12_throwIn 30 = .ok (.invokevirtual 311, 3) := o182 ac_cX12_throwIn_16 14 1 55 rfl
def kb_cX12_throwIn_32 : List Nat := [55, 42, 180, 0, 110, 27, 3, 79, 42, 180, 0, 110, 16, 7, 27, 96, 28, 79, 42, 182]
theorem ac_cX12_throwIn_32 : AL cX12_throwIn 32 kb_cX12_throwIn_32 := AL.of (m := 20) (by decide +kernel)
theorem dX12_throwIn_33 : decode cX12_throwIn 33 = .ok (.aload_n 0, 1) := o42 ac_cX12_throwIn_32 1 rfl
theorem dX12_throwIn_34 : decode cX12_throwIn 34 = .ok (.getfield 110, 3) := o180 ac_cX12_throwIn_32 2 0 110 rfl
theorem dX12_throwIn_37 : decode cX12_throwIn 37 = .ok (.iload_n 1, 1) := o27 ac_cX12_throwIn_32 5 rfl
theorem dX12_throwIn_38 : decode cX12_throwIn 38 = .ok (.iconst 0, 1) := o3 ac_cX12_throwIn_32 6 rfl
theorem dX12_throwIn_39 : decode cX12_throwIn 39 = .ok (.iastore, 1) := o79 ac_cX12_throwIn_32 7 rfl
theorem dX12_throwIn_40 : decode cX12_throwIn 40 = .ok (.aload_n 0, 1) := o42 ac_cX12_throwIn_32 8 rfl
theorem dX12_throwIn_41 : decode cX12_throwIn 41 = .ok (.getfield 110, 3) := o180 ac_cX12_throwIn_32 9 0 110 rfl
theorem dX12_throwIn_44 : decode cX12_throwIn 44 = .ok (.bipush 7, 2) := o16p ac_cX12_throwIn_32 12 7 rfl rfl
theorem dX12_throwIn_46 : decode cX12_throwIn 46 = .ok (.iload_n 1, 1) := o27 ac_cX12_throwIn_32 14 rfl
theorem dX12_throwIn_47 : decode cX12_throwIn 47 = .ok (.iadd, 1) := o96 ac_cX12_throwIn_32 15 rfl
def kb_cX12_throwIn_48 : List Nat := [28, 79, 42, 182, 1, 140, 4, 172]
theorem ac_cX12_throwIn_48 : AL cX12_throwIn 48 kb_cX12_throwIn_48 := AL.of (m := 8) (by decide +kernel)
theorem dX12_throwIn_48 : decode cX12_throwIn 48 = .ok (.iload_n 2, 1) := o28 ac_cX12_throwIn_48 0 rfl
theorem dX12_throwIn_49 : decode cX12_throwIn 49 = .ok (.iastore, 1) := o79 ac_cX12_throwIn_48 1 rfl
theorem dX12_throwIn_50 : decode cX12_throwIn 50 = .ok (.aload_n 0, 1) := o42 ac_cX12_throwIn_48 2 rfl
theorem dX12_throwIn_51 : decode cX12_throwIn 51 = .ok (.invokevirtual 396, 3) := o182 ac_cX12_throwIn_48 3 1 140 rfl
theorem dX12_throwIn_54 : decode cX12_throwIn 54 = .ok (.iconst 1, 1) := o4 ac_cX12_throwIn_48 6 rfl
theorem dX12_throwIn_55 : decode cX12_throwIn 55 = .ok (.ireturn, 1) := o172 ac_cX12_throwIn_48 7 rfl
theorem dX12_use_10 : decode cX12_use 10 = .ok (.aload_n 0, 1) := o42 ac_cX12_use_0 10 rfl
theorem dX12_use_11 : decode cX12_use 11 = .ok (.invokevirtual 311, 3) := o182 ac_cX12_use_0 11 1 55 rfl
theorem dX12_use_14 : decode cX12_use 14 = .ok (.aload_n 0, 1) := o42 ac_cX12_use_0 14 rfl
theorem dX12_use_15 : decode cX12_use 15 = .ok (.iload_n 1, 1) := o27 ac_cX12_use_0 15 rfl
def kb_cX12_use_16 : List Nat := [182, 1, 143, 42, 182, 1, 140, 4, 172]
theorem ac_cX12_use_16 : AL cX12_use 16 kb_cX12_use_16 := AL.of (m := 9) (by decide +kernel)
theorem dX12_use_16 : decode cX12_use 16 = .ok (.invokevirtual 399, 3) := o182 ac_cX12_use_16 0 1 143 rfl
theorem dX12_use_19 : decode cX12_use 19 = .ok (.aload_n 0, 1) := o42 ac_cX12_use_16 3 rfl
theorem dX12_use_20 : decode cX12_use 20 = .ok (.invokevirtual 396, 3) := o182 ac_cX12_use_16 4 1 140 rfl
theorem dX12_use_23 : decode cX12_use 23 = .ok (.iconst 1, 1) := o4 ac_cX12_use_16 7 rfl
theorem dX12_use_24 : decode cX12_use 24 = .ok (.ireturn, 1) := o172 ac_cX12_use_16 8 rfl
def kb_cX12_nextOf_0 : List Nat := [26, 4, 126, 154, 0, 15, 27, 154, 0, 9, 26, 4, 122, 167, 0, 4, 2, 172, 27, 153]
theorem ac_cX12_nextOf_0 : AL cX12_nextOf 0 kb_cX12_nextOf_0 := AL.of (m := 20) (by decide +kernel)
theorem dX12_nextOf_0 : decode cX12_nextOf 0 = .ok (.iload_n 0, 1) := o26 ac_cX12_nextOf_0 0 rfl
theorem dX12_nextOf_1 : decode cX12_nextOf 1 = .ok (.iconst 1, 1) := o4 ac_cX12_nextOf_0 1 rfl
theorem dX12_nextOf_2 : decode cX12_nextOf 2 = .ok (.iand, 1) := o126 ac_cX12_nextOf_0 2 rfl
theorem dX12_nextOf_3 : decode cX12_nextOf 3 = .ok (.ifCond .ne 15, 3) := o154p ac_cX12_nextOf_0 3 0 15 rfl rfl
theorem dX12_nextOf_6 : decode cX12_nextOf 6 = .ok (.iload_n 1, 1) := o27 ac_cX12_nextOf_0 6 rfl
theorem dX12_nextOf_7 : decode cX12_nextOf 7 = .ok (.ifCond .ne 9, 3) := o154p ac_cX12_nextOf_0 7 0 9 rfl rfl
theorem dX12_nextOf_10 : decode cX12_nextOf 10 = .ok (.iload_n 0, 1) := o26 ac_cX12_nextOf_0 10 rfl
theorem dX12_nextOf_11 : decode cX12_nextOf 11 = .ok (.iconst 1, 1) := o4 ac_cX12_nextOf_0 11 rfl
theorem dX12_nextOf_12 : decode cX12_nextOf 12 = .ok (.ishr, 1) := o122 ac_cX12_nextOf_0 12 rfl
theorem dX12_nextOf_13 : decode cX12_nextOf 13 = .ok (.goto 4, 3) := o167p ac_cX12_nextOf_0 13 0 4 rfl rfl
def kb_cX12_nextOf_16 : List Nat := [2, 172, 27, 153, 0, 12, 26, 27, 122, 4, 126, 4, 160, 0, 5, 2, 172, 26, 4, 122]
theorem ac_cX12_nextOf_16 : AL cX12_nextOf 16 kb_cX12_nextOf_16 := AL.of (m := 20) (by decide +kernel)
theorem dX12_nextOf_16 : decode cX12_nextOf 16 = .ok (.iconst (-1), 1) := o2 ac_cX12_nextOf_16 0 rfl
theorem dX12_nextOf_17 : decode cX12_nextOf 17 = .ok (.ireturn, 1) := o172 ac_cX12_nextOf_16 1 rfl
theorem dX12_nextOf_18 : decode cX12_nextOf 18 = .ok (.iload_n 1, 1) := o27 ac_cX12_nextOf_16 2 rfl
theorem dX12_nextOf_19 : decode cX12_nextOf 19 = .ok (.ifCond .eq 12, 3) := o153p ac_cX12_nextOf_16 3 0 12 rfl rfl
theorem dX12_nextOf_22 : decode cX12_nextOf 22 = .ok (.iload_n 0, 1) := o26 ac_cX12_nextOf_16 6 rfl
theorem dX12_nextOf_23 : decode cX12_nextOf 23 = .ok (.iload_n 1, 1) := o27 ac_cX12_nextOf_16 7 rfl
theorem dX12_nextOf_24 : decode cX12_nextOf 24 = .ok (.ishr, 1) := o122 ac_cX12_nextOf_16 8 rfl
theorem dX12_nextOf_25 : decode cX12_nextOf 25 = .ok (.iconst 1, 1) := o4 ac_cX12_nextOf_16 9 rfl
theorem dX12_nextOf_26 : decode cX12_nextOf 26 = .ok (.iand, 1) := o126 ac_cX12_nextOf_16 10 rfl
theorem dX12_nextOf_27 : decode cX12_nextOf 27 = .ok (.iconst 1, 1) := o4 ac_cX12_nextOf_16 11 rfl
theorem dX12_nextOf_28 : decode cX12_nextOf 28 = .ok (.if_icmp .ne 5, 3) := o160p ac_cX12_nextOf_16 12 0 5 rfl rfl
theorem dX12_nextOf_31 : decode cX12_nextOf 31 = .ok (.iconst (-1), 1) := o2 ac_cX12_nextOf_16 15 rfl
def kb_cX12_nextOf_32 : List Nat := [172, 26, 4, 122, 4, 27, 4, 100, 120, 128, 172]
theorem ac_cX12_nextOf_32 : AL cX12_nextOf 32 kb_cX12_nextOf_32 := AL.of (m := 11) (by decide +kernel)
theorem dX12_nextOf_32 : decode cX12_nextOf 32 = .ok (.ireturn, 1) := o172 ac_cX12_nextOf_32 0 rfl
theorem dX12_nextOf_33 : decode cX12_nextOf 33 = .ok (.iload_n 0, 1) := o26 ac_cX12_nextOf_32 1 rfl
theorem dX12_nextOf_34 : decode cX12_nextOf 34 = .ok (.iconst 1, 1) := o4 ac_cX12_nextOf_32 2 rfl
theorem dX12_nextOf_35 : decode cX12_nextOf 35 = .ok (.ishr, 1) := o122 ac_cX12_nextOf_32 3 rfl
theorem dX12_nextOf_36 : decode cX12_nextOf 36 = .ok (.iconst 1, 1) := o4 ac_cX12_nextOf_32 4 rfl
theorem dX12_nextOf_37 : decode cX12_nextOf 37 = .ok (.iload_n 1, 1) := o27 ac_cX12_nextOf_32 5 rfl
theorem dX12_nextOf_38 : decode cX12_nextOf 38 = .ok (.iconst 1, 1) := o4 ac_cX12_nextOf_32 6 rfl
theorem dX12_nextOf_39 : decode cX12_nextOf 39 = .ok (.isub, 1) := o100 ac_cX12_nextOf_32 7 rfl
theorem dX12_nextOf_40 : decode cX12_nextOf 40 = .ok (.ishl, 1) := o120 ac_cX12_nextOf_32 8 rfl
theorem dX12_nextOf_41 : decode cX12_nextOf 41 = .ok (.ior, 1) := o128 ac_cX12_nextOf_32 9 rfl
theorem dX12_nextOf_42 : decode cX12_nextOf 42 = .ok (.ireturn, 1) := o172 ac_cX12_nextOf_32 10 rfl
/-! nextOf -/
def nxt (s h : Int32) : Int32 := if (s &&& 1).toInt ≠ 0 then (if h.toInt = 0 then -1 else if ((s >>> (h &&& 31)) &&& 1).toInt ≠ (1 : Int32).toInt then (s >>> ((1 : Int32) &&& 31)) ||| ((1 : Int32) <<< ((h - 1) &&& 31)) else -1) else (if h.toInt ≠ 0 then -1 else s >>> ((1 : Int32) &&& 31))
/-! farOf -/
def FJ (f : Nat → Int32) (n : Int) : Prop := ∀ s : Int32, 0 ≤ s.toInt → s.toInt < 1024 → (f s.toInt.toNat).toInt ≠ 99 → 0 ≤ (f s.toInt.toNat).toInt ∧ (f s.toInt.toNat).toInt ≤ n ∧ (1 ≤ (f s.toInt.toNat).toInt → ∃ h : Int32, 0 ≤ h.toInt ∧ h.toInt ≤ 9 ∧ 0 ≤ (nxt s h).toInt ∧ (f (nxt s h).toInt.toNat).toInt = (f s.toInt.toNat).toInt - 1)
theorem FJ.of {f : Nat → Int32} {k n : Int} (h : ∀ q : Nat, (q : Int) < k → (f q).toInt = 0 ∨ (f q).toInt = 99) (hk : 1024 ≤ k) (hn : 0 ≤ n) : FJ f n := by
  intro s h0 h1 hne
  rcases h s.toInt.toNat (by omega) with e | e
  · exact ⟨by omega, by omega, fun h9 => absurd h9 (by omega)⟩
  · exact absurd e hne
theorem FJ.mono {f : Nat → Int32} {n m : Int} (h : FJ f n) (hm : n ≤ m) : FJ f m := fun s h0 h1 hne => ⟨(h s h0 h1 hne).1, by have := (h s h0 h1 hne).2.1; omega, (h s h0 h1 hne).2.2⟩
def FO (f : Nat → Int32) (s y : Int32) : Prop := ∃ h : Int32, y.toInt ≤ h.toInt ∧ h.toInt ≤ 9 ∧ 0 ≤ (nxt s h).toInt ∧ (f (nxt s h).toInt.toNat).toInt = (f s.toInt.toNat).toInt - 1
theorem FO.step {f : Nat → Int32} {s y y1 : Int32} (h : FO f s y) (h1 : y1.toInt = y.toInt + 1) (ne : 0 ≤ (nxt s y).toInt → (f (nxt s y).toInt.toNat).toInt ≠ (f s.toInt.toNat).toInt - 1) : FO f s y1 := by
  obtain ⟨h9, a1, a2, a3, a4⟩ := h
  refine ⟨h9, ?_, a2, a3, a4⟩
  by_cases e : y.toInt = h9.toInt
  · have := Int32.toInt_inj.mp e
    subst this
    exact absurd a4 (ne a3)
  · omega
theorem FO.le {f : Nat → Int32} {s y : Int32} (h : FO f s y) : y.toInt ≤ 9 := by
  obtain ⟨h9, a1, a2, _⟩ := h
  omega
theorem FO.of {f : Nat → Int32} {s y : Int32} (h : FJ f 12) (h0 : 0 ≤ s.toInt) (h1 : s.toInt < 1024) (h2 : 1 ≤ (f s.toInt.toNat).toInt) (h3 : (f s.toInt.toNat).toInt ≠ 99) (hy : y.toInt = 0) : FO f s y := by
  obtain ⟨h9, a1, a2, a3, a4⟩ := (h s h0 h1 h3).2.2 h2
  exact ⟨h9, by omega, a2, a3, a4⟩
section NL
variable {ids : List Nat} {ad : Nat → Nat} {ca : Nat → ClassId} {Γ : GT} {cc : ByteArray} {own : String} {l0 : Launch} {D0 : va_G} {fr lo nL0 : Nat} {pc : Nat} {vs : List (Option Value)} {st : List Value} {σ : HS}
end NL
/-! feed and back, exactly -/
theorem dX12_feed_13 : decode cX12_feed 13 = .ok (.iconst (-1), 1) := o2 ac_cX12_feed_0 13 rfl
theorem dX12_feed_14 : decode cX12_feed 14 = .ok (.ireturn, 1) := o172 ac_cX12_feed_0 14 rfl
def FD (a b r : Int32) : Prop := (a.toInt + 20 ≤ 2000 → b.toInt = a.toInt + 20 ∧ r = b) ∧ (2000 < a.toInt + 20 → b = a ∧ r = -1)
def BD (n a b r : Int32) : Prop := (0 ≤ n.toInt ∧ n.toInt ≤ a.toInt → b.toInt = a.toInt - n.toInt ∧ r = b) ∧ (¬ (0 ≤ n.toInt ∧ n.toInt ≤ a.toInt) → b = a ∧ r = -1)
theorem FD.same {a b r b1 r1 : Int32} (h : FD a b r) (h1 : FD a b1 r1) : b = b1 ∧ r = r1 := by
  by_cases c : a.toInt + 20 ≤ 2000
  · obtain ⟨e1, e2⟩ := h.1 c
    obtain ⟨e3, e4⟩ := h1.1 c
    have e : b = b1 := Int32.toInt_inj.mp (by omega)
    exact ⟨e, by rw [e2, e4, e]⟩
  · obtain ⟨e1, e2⟩ := h.2 (by omega)
    obtain ⟨e3, e4⟩ := h1.2 (by omega)
    exact ⟨by rw [e1, e3], by rw [e2, e4]⟩
theorem BD.same {n a b r b1 r1 : Int32} (h : BD n a b r) (h1 : BD n a b1 r1) : b = b1 ∧ r = r1 := by
  by_cases c : 0 ≤ n.toInt ∧ n.toInt ≤ a.toInt
  · obtain ⟨e1, e2⟩ := h.1 c
    obtain ⟨e3, e4⟩ := h1.1 c
    have e : b = b1 := Int32.toInt_inj.mp (by omega)
    exact ⟨e, by rw [e2, e4, e]⟩
  · obtain ⟨e1, e2⟩ := h.2 c
    obtain ⟨e3, e4⟩ := h1.2 c
    exact ⟨by rw [e1, e3], by rw [e2, e4]⟩
/-- of the reference only the tape changes, and how much is on it -/
def MT (σ σ1 : HS) : Prop := ony [236, 237] σ σ1 ∧ ∀ k, k ≠ 2 → σ1.1 236 k = σ.1 236 k
theorem MT.rf {σ : HS} : MT σ σ := ⟨ony.rf, fun _ _ => rfl⟩
theorem MT.tr {σ σ1 σ2 : HS} (h : MT σ σ1) (h2 : MT σ1 σ2) : MT σ σ2 := ⟨h.1.tr h2.1, fun k hk => (h2.2 k hk).trans (h.2 k hk)⟩
theorem MT.n {σ σ1 : HS} {v : Int32} (h : MT σ σ1) : MT σ (hI σ1 236 2 v) := ⟨h.1.I (by decide), fun k hk => (hI_n hk).trans (h.2 k hk)⟩
theorem MT.b {σ σ1 : HS} {j : Nat} {v : Int32} (h : MT σ σ1) : MT σ (hI σ1 237 j v) := ⟨h.1.I (by decide), fun k hk => by rw [hI_o (show (236 : Nat) ≠ 237 by decide)]; exact h.2 k hk⟩
/-! the String constants at the start -/
def tmS (i : Nat) : Term := if i = 0 then Term.string RX9 67 else Term.string RX9 52
def flS : List Cond := flatC (Jvm.Cond.and given_1 narrow_1)
theorem fS_ex : ∀ i, i < 2 → Cond.exactly (tmS i) "java/lang/String" ∈ flS := by decide +kernel
theorem fS_co : ∀ i, i < 2 → Cond.eq (.field (tmS i) "java/lang/String" "coder" "B") (.int 0) ∈ flS := by decide +kernel
theorem fS_ar : ∀ i, i < 2 → Cond.arrayOf (.field (tmS i) "java/lang/String" "value" "[B") .byte ∈ flS := by decide +kernel
theorem fS_le : ∀ i, i < 2 → Cond.eq (.length (.field (tmS i) "java/lang/String" "value" "[B")) (.int (Int32.ofNat (lenS.getD i 0))) ∈ flS := by decide +kernel
set_option maxRecDepth 100000 in
theorem fS_at : ∀ i, i < 2 → ∀ j, j < lenS.getD i 0 → flS[(if i = 0 then 13 else 129) + j]? = some (Cond.eq (.elem (.field (tmS i) "java/lang/String" "value" "[B") (.int (Int32.ofNat j))) (.int ((bytS.getD i []).getD j 0))) := by decide +kernel
theorem fS_el : ∀ i, i < 2 → ∀ j, j < lenS.getD i 0 → Cond.eq (.elem (.field (tmS i) "java/lang/String" "value" "[B") (.int (Int32.ofNat j))) (.int ((bytS.getD i []).getD j 0)) ∈ flS := fun i hi j hj => List.mem_of_getElem? (fS_at i hi j hj)
theorem fS_ne : Cond.not (Cond.eq (tmS 0) (tmS 1)) ∈ flS := by decide +kernel
theorem start_S {s : State} {b : Nat} {A : Nat → Prop} (hts : ∀ w ∈ lw_tbl, w.before #[Value.ref b] s = true) (hgv : (Jvm.Cond.and given_1 narrow_1).before #[Value.ref b] s = true) (hA : ∀ a : Nat, a < s.heap.size → ¬ A a) : ∃ K : (Nat → Nat) × (Nat → Nat), SE K A s := by
  have hs : ∀ w ∈ flS, w.before #[Value.ref b] s = true := flat_of_before _ hgv
  obtain ⟨adK, adV, hS, ht⟩ := vk_Sof (args := #[Value.ref b]) (s := s) (N := 2) (tm := tmS) (len := lenS) (byt := bytS) (A := A) (by decide +kernel) (fun i hi => hs _ (fS_ex i hi)) (fun i hi => hs _ (fS_co i hi)) (fun i hi => hs _ (fS_ar i hi)) (fun i hi => hs _ (fS_le i hi)) (fun i hi j hj => hs _ (fS_el i hi j hj)) (fun i j hi hj hij => by
    rcases (show (i = 0 ∧ j = 1) ∨ (i = 1 ∧ j = 0) by omega) with ⟨rfl, rfl⟩ | ⟨rfl, rfl⟩
    · exact Or.inl (hs _ fS_ne)
    · exact Or.inr (hs _ fS_ne)) hA
  refine ⟨(adK, adV), hS, ?_, ?_, ?_, ?_⟩
  · exact vk_R.of (hts (.stringRef RX9 67 txW) (List.mem_of_getElem? (i := 550) (by decide +kernel))) (ht 0 (by decide))
  · exact vk_R.of (hts (.stringRef RX9 52 txS) (List.mem_of_getElem? (i := 607) (by decide +kernel))) (ht 1 (by decide))
  · exact va_Zof (hts (.laysStatic RJ0 "COMPACT_STRINGS" "Z") (List.mem_of_getElem? (i := 560) (by decide +kernel))) (hts (.initialized RJ0) (List.mem_of_getElem? (i := 108) (by decide +kernel))) (va_eqt (hs (Cond.eq (Term.static RJ0 "COMPACT_STRINGS" "Z") (.int 1)) (by decide +kernel))) hA
  · exact va_Zqof (hts (.laysStatic RJ3 "SIOOBE_FORMATTER" "Ljava/util/function/BiFunction;") (List.mem_of_getElem? (i := 576) (by decide +kernel))) (hts (.initialized RJ3) (List.mem_of_getElem? (i := 110) (by decide +kernel))) (hs (Cond.isRef (Term.static RJ3 "SIOOBE_FORMATTER" "Ljava/util/function/BiFunction;")) (by decide +kernel)) hA

def kb_cX12_fillsFar_0 : List Nat := [3, 61, 28, 17, 4, 0, 162, 0, 26, 42, 180, 0, 119, 28, 28, 27, 160, 0, 7, 3]
theorem ac_cX12_fillsFar_0 : AL cX12_fillsFar 0 kb_cX12_fillsFar_0 := AL.of (m := 20) (by decide +kernel)
theorem dX12_fillsFar_0 : decode cX12_fillsFar 0 = .ok (.iconst 0, 1) := o3 ac_cX12_fillsFar_0 0 rfl
theorem dX12_fillsFar_1 : decode cX12_fillsFar 1 = .ok (.istore_n 2, 1) := o61 ac_cX12_fillsFar_0 1 rfl
theorem dX12_fillsFar_2 : decode cX12_fillsFar 2 = .ok (.iload_n 2, 1) := o28 ac_cX12_fillsFar_0 2 rfl
theorem dX12_fillsFar_3 : decode cX12_fillsFar 3 = .ok (.sipush 1024, 3) := o17p ac_cX12_fillsFar_0 3 4 0 rfl rfl
theorem dX12_fillsFar_6 : decode cX12_fillsFar 6 = .ok (.if_icmp .ge 26, 3) := o162p ac_cX12_fillsFar_0 6 0 26 rfl rfl
theorem dX12_fillsFar_9 : decode cX12_fillsFar 9 = .ok (.aload_n 0, 1) := o42 ac_cX12_fillsFar_0 9 rfl
theorem dX12_fillsFar_10 : decode cX12_fillsFar 10 = .ok (.getfield 119, 3) := o180 ac_cX12_fillsFar_0 10 0 119 rfl
theorem dX12_fillsFar_13 : decode cX12_fillsFar 13 = .ok (.iload_n 2, 1) := o28 ac_cX12_fillsFar_0 13 rfl
theorem dX12_fillsFar_14 : decode cX12_fillsFar 14 = .ok (.iload_n 2, 1) := o28 ac_cX12_fillsFar_0 14 rfl
theorem dX12_fillsFar_15 : decode cX12_fillsFar 15 = .ok (.iload_n 1, 1) := o27 ac_cX12_fillsFar_0 15 rfl
def kb_cX12_fillsFar_16 : List Nat := [160, 0, 7, 3, 167, 0, 5, 16, 99, 79, 132, 2, 1, 167, 255, 229, 4, 61, 28, 16]
theorem ac_cX12_fillsFar_16 : AL cX12_fillsFar 16 kb_cX12_fillsFar_16 := AL.of (m := 20) (by decide +kernel)
theorem dX12_fillsFar_16 : decode cX12_fillsFar 16 = .ok (.if_icmp .ne 7, 3) := o160p ac_cX12_fillsFar_16 0 0 7 rfl rfl
theorem dX12_fillsFar_19 : decode cX12_fillsFar 19 = .ok (.iconst 0, 1) := o3 ac_cX12_fillsFar_16 3 rfl
theorem dX12_fillsFar_20 : decode cX12_fillsFar 20 = .ok (.goto 5, 3) := o167p ac_cX12_fillsFar_16 4 0 5 rfl rfl
theorem dX12_fillsFar_23 : decode cX12_fillsFar 23 = .ok (.bipush 99, 2) := o16p ac_cX12_fillsFar_16 7 99 rfl rfl
theorem dX12_fillsFar_25 : decode cX12_fillsFar 25 = .ok (.iastore, 1) := o79 ac_cX12_fillsFar_16 9 rfl
theorem dX12_fillsFar_26 : decode cX12_fillsFar 26 = .ok (.iinc 2 1, 3) := o132p ac_cX12_fillsFar_16 10 2 1 rfl rfl
theorem dX12_fillsFar_29 : decode cX12_fillsFar 29 = .ok (.goto (-27), 3) := o167n ac_cX12_fillsFar_16 13 255 229 26 rfl rfl rfl
def kb_cX12_fillsFar_32 : List Nat := [4, 61, 28, 16, 12, 163, 0, 84, 3, 62, 29, 17, 4, 0, 162, 0, 69, 3, 54, 4]
theorem ac_cX12_fillsFar_32 : AL cX12_fillsFar 32 kb_cX12_fillsFar_32 := AL.of (m := 20) (by decide +kernel)
theorem dX12_fillsFar_32 : decode cX12_fillsFar 32 = .ok (.iconst 1, 1) := o4 ac_cX12_fillsFar_32 0 rfl
theorem dX12_fillsFar_33 : decode cX12_fillsFar 33 = .ok (.istore_n 2, 1) := o61 ac_cX12_fillsFar_32 1 rfl
theorem dX12_fillsFar_34 : decode cX12_fillsFar 34 = .ok (.iload_n 2, 1) := o28 ac_cX12_fillsFar_32 2 rfl
theorem dX12_fillsFar_35 : decode cX12_fillsFar 35 = .ok (.bipush 12, 2) := o16p ac_cX12_fillsFar_32 3 12 rfl rfl
theorem dX12_fillsFar_37 : decode cX12_fillsFar 37 = .ok (.if_icmp .gt 84, 3) := o163p ac_cX12_fillsFar_32 5 0 84 rfl rfl
theorem dX12_fillsFar_40 : decode cX12_fillsFar 40 = .ok (.iconst 0, 1) := o3 ac_cX12_fillsFar_32 8 rfl
theorem dX12_fillsFar_41 : decode cX12_fillsFar 41 = .ok (.istore_n 3, 1) := o62 ac_cX12_fillsFar_32 9 rfl
theorem dX12_fillsFar_42 : decode cX12_fillsFar 42 = .ok (.iload_n 3, 1) := o29 ac_cX12_fillsFar_32 10 rfl
theorem dX12_fillsFar_43 : decode cX12_fillsFar 43 = .ok (.sipush 1024, 3) := o17p ac_cX12_fillsFar_32 11 4 0 rfl rfl
theorem dX12_fillsFar_46 : decode cX12_fillsFar 46 = .ok (.if_icmp .ge 69, 3) := o162p ac_cX12_fillsFar_32 14 0 69 rfl rfl
def kb_cX12_fillsFar_48 : List Nat := [69, 3, 54, 4, 21, 4, 16, 9, 163, 0, 53, 42, 180, 0, 119, 29, 46, 16, 99, 160]
theorem ac_cX12_fillsFar_48 : AL cX12_fillsFar 48 kb_cX12_fillsFar_48 := AL.of (m := 20) (by decide +kernel)
theorem dX12_fillsFar_49 : decode cX12_fillsFar 49 = .ok (.iconst 0, 1) := o3 ac_cX12_fillsFar_48 1 rfl
theorem dX12_fillsFar_50 : decode cX12_fillsFar 50 = .ok (.istore 4, 2) := o54 ac_cX12_fillsFar_48 2 4 rfl
theorem dX12_fillsFar_52 : decode cX12_fillsFar 52 = .ok (.iload 4, 2) := o21 ac_cX12_fillsFar_48 4 4 rfl
theorem dX12_fillsFar_54 : decode cX12_fillsFar 54 = .ok (.bipush 9, 2) := o16p ac_cX12_fillsFar_48 6 9 rfl rfl
theorem dX12_fillsFar_56 : decode cX12_fillsFar 56 = .ok (.if_icmp .gt 53, 3) := o163p ac_cX12_fillsFar_48 8 0 53 rfl rfl
theorem dX12_fillsFar_59 : decode cX12_fillsFar 59 = .ok (.aload_n 0, 1) := o42 ac_cX12_fillsFar_48 11 rfl
theorem dX12_fillsFar_60 : decode cX12_fillsFar 60 = .ok (.getfield 119, 3) := o180 ac_cX12_fillsFar_48 12 0 119 rfl
theorem dX12_fillsFar_63 : decode cX12_fillsFar 63 = .ok (.iload_n 3, 1) := o29 ac_cX12_fillsFar_48 15 rfl
def kb_cX12_fillsFar_64 : List Nat := [46, 16, 99, 160, 0, 42, 29, 21, 4, 184, 1, 176, 54, 5, 21, 5, 155, 0, 23, 42]
theorem ac_cX12_fillsFar_64 : AL cX12_fillsFar 64 kb_cX12_fillsFar_64 := AL.of (m := 20) (by decide +kernel)
theorem dX12_fillsFar_64 : decode cX12_fillsFar 64 = .ok (.iaload, 1) := o46 ac_cX12_fillsFar_64 0 rfl
theorem dX12_fillsFar_65 : decode cX12_fillsFar 65 = .ok (.bipush 99, 2) := o16p ac_cX12_fillsFar_64 1 99 rfl rfl
theorem dX12_fillsFar_67 : decode cX12_fillsFar 67 = .ok (.if_icmp .ne 42, 3) := o160p ac_cX12_fillsFar_64 3 0 42 rfl rfl
theorem dX12_fillsFar_70 : decode cX12_fillsFar 70 = .ok (.iload_n 3, 1) := o29 ac_cX12_fillsFar_64 6 rfl
theorem dX12_fillsFar_71 : decode cX12_fillsFar 71 = .ok (.iload 4, 2) := o21 ac_cX12_fillsFar_64 7 4 rfl
theorem dX12_fillsFar_73 : decode cX12_fillsFar 73 = .ok (.invokestatic 432, 3) := o184 ac_cX12_fillsFar_64 9 1 176 rfl
theorem dX12_fillsFar_76 : decode cX12_fillsFar 76 = .ok (.istore 5, 2) := o54 ac_cX12_fillsFar_64 12 5 rfl
theorem dX12_fillsFar_78 : decode cX12_fillsFar 78 = .ok (.iload 5, 2) := o21 ac_cX12_fillsFar_64 14 5 rfl
def kb_cX12_fillsFar_80 : List Nat := [155, 0, 23, 42, 180, 0, 119, 21, 5, 46, 28, 4, 100, 160, 0, 10, 42, 180, 0, 119]
theorem ac_cX12_fillsFar_80 : AL cX12_fillsFar 80 kb_cX12_fillsFar_80 := AL.of (m := 20) (by decide +kernel)
theorem dX12_fillsFar_80 : decode cX12_fillsFar 80 = .ok (.ifCond .lt 23, 3) := o155p ac_cX12_fillsFar_80 0 0 23 rfl rfl
theorem dX12_fillsFar_83 : decode cX12_fillsFar 83 = .ok (.aload_n 0, 1) := o42 ac_cX12_fillsFar_80 3 rfl
theorem dX12_fillsFar_84 : decode cX12_fillsFar 84 = .ok (.getfield 119, 3) := o180 ac_cX12_fillsFar_80 4 0 119 rfl
theorem dX12_fillsFar_87 : decode cX12_fillsFar 87 = .ok (.iload 5, 2) := o21 ac_cX12_fillsFar_80 7 5 rfl
theorem dX12_fillsFar_89 : decode cX12_fillsFar 89 = .ok (.iaload, 1) := o46 ac_cX12_fillsFar_80 9 rfl
theorem dX12_fillsFar_90 : decode cX12_fillsFar 90 = .ok (.iload_n 2, 1) := o28 ac_cX12_fillsFar_80 10 rfl
theorem dX12_fillsFar_91 : decode cX12_fillsFar 91 = .ok (.iconst 1, 1) := o4 ac_cX12_fillsFar_80 11 rfl
theorem dX12_fillsFar_92 : decode cX12_fillsFar 92 = .ok (.isub, 1) := o100 ac_cX12_fillsFar_80 12 rfl
theorem dX12_fillsFar_93 : decode cX12_fillsFar 93 = .ok (.if_icmp .ne 10, 3) := o160p ac_cX12_fillsFar_80 13 0 10 rfl rfl
def kb_cX12_fillsFar_96 : List Nat := [42, 180, 0, 119, 29, 28, 79, 132, 4, 1, 167, 255, 202, 132, 3, 1, 167, 255, 186, 132]
theorem ac_cX12_fillsFar_96 : AL cX12_fillsFar 96 kb_cX12_fillsFar_96 := AL.of (m := 20) (by decide +kernel)
theorem dX12_fillsFar_96 : decode cX12_fillsFar 96 = .ok (.aload_n 0, 1) := o42 ac_cX12_fillsFar_96 0 rfl
theorem dX12_fillsFar_97 : decode cX12_fillsFar 97 = .ok (.getfield 119, 3) := o180 ac_cX12_fillsFar_96 1 0 119 rfl
theorem dX12_fillsFar_100 : decode cX12_fillsFar 100 = .ok (.iload_n 3, 1) := o29 ac_cX12_fillsFar_96 4 rfl
theorem dX12_fillsFar_101 : decode cX12_fillsFar 101 = .ok (.iload_n 2, 1) := o28 ac_cX12_fillsFar_96 5 rfl
theorem dX12_fillsFar_102 : decode cX12_fillsFar 102 = .ok (.iastore, 1) := o79 ac_cX12_fillsFar_96 6 rfl
theorem dX12_fillsFar_103 : decode cX12_fillsFar 103 = .ok (.iinc 4 1, 3) := o132p ac_cX12_fillsFar_96 7 4 1 rfl rfl
theorem dX12_fillsFar_106 : decode cX12_fillsFar 106 = .ok (.goto (-54), 3) := o167n ac_cX12_fillsFar_96 10 255 202 53 rfl rfl rfl
theorem dX12_fillsFar_109 : decode cX12_fillsFar 109 = .ok (.iinc 3 1, 3) := o132p ac_cX12_fillsFar_96 13 3 1 rfl rfl
def kb_cX12_fillsFar_112 : List Nat := [167, 255, 186, 132, 2, 1, 167, 255, 172, 177]
theorem ac_cX12_fillsFar_112 : AL cX12_fillsFar 112 kb_cX12_fillsFar_112 := AL.of (m := 10) (by decide +kernel)
theorem dX12_fillsFar_112 : decode cX12_fillsFar 112 = .ok (.goto (-70), 3) := o167n ac_cX12_fillsFar_112 0 255 186 69 rfl rfl rfl
theorem dX12_fillsFar_115 : decode cX12_fillsFar 115 = .ok (.iinc 2 1, 3) := o132p ac_cX12_fillsFar_112 3 2 1 rfl rfl
theorem dX12_fillsFar_118 : decode cX12_fillsFar 118 = .ok (.goto (-84), 3) := o167n ac_cX12_fillsFar_112 6 255 172 83 rfl rfl rfl
theorem dX12_fillsFar_121 : decode cX12_fillsFar 121 = .ok (.return_, 1) := o177 ac_cX12_fillsFar_112 9 rfl
def kb_cX12_firstOf_0 : List Nat := [3, 61, 27, 28, 184, 1, 176, 155, 0, 24, 42, 180, 0, 119, 27, 28, 184, 1, 176, 46]
theorem ac_cX12_firstOf_0 : AL cX12_firstOf 0 kb_cX12_firstOf_0 := AL.of (m := 20) (by decide +kernel)
theorem dX12_firstOf_0 : decode cX12_firstOf 0 = .ok (.iconst 0, 1) := o3 ac_cX12_firstOf_0 0 rfl
theorem dX12_firstOf_1 : decode cX12_firstOf 1 = .ok (.istore_n 2, 1) := o61 ac_cX12_firstOf_0 1 rfl
theorem dX12_firstOf_2 : decode cX12_firstOf 2 = .ok (.iload_n 1, 1) := o27 ac_cX12_firstOf_0 2 rfl
theorem dX12_firstOf_3 : decode cX12_firstOf 3 = .ok (.iload_n 2, 1) := o28 ac_cX12_firstOf_0 3 rfl
theorem dX12_firstOf_4 : decode cX12_firstOf 4 = .ok (.invokestatic 432, 3) := o184 ac_cX12_firstOf_0 4 1 176 rfl
theorem dX12_firstOf_7 : decode cX12_firstOf 7 = .ok (.ifCond .lt 24, 3) := o155p ac_cX12_firstOf_0 7 0 24 rfl rfl
theorem dX12_firstOf_10 : decode cX12_firstOf 10 = .ok (.aload_n 0, 1) := o42 ac_cX12_firstOf_0 10 rfl
theorem dX12_firstOf_11 : decode cX12_firstOf 11 = .ok (.getfield 119, 3) := o180 ac_cX12_firstOf_0 11 0 119 rfl
theorem dX12_firstOf_14 : decode cX12_firstOf 14 = .ok (.iload_n 1, 1) := o27 ac_cX12_firstOf_0 14 rfl
theorem dX12_firstOf_15 : decode cX12_firstOf 15 = .ok (.iload_n 2, 1) := o28 ac_cX12_firstOf_0 15 rfl
def kb_cX12_firstOf_16 : List Nat := [184, 1, 176, 46, 42, 180, 0, 119, 27, 46, 4, 100, 159, 0, 9, 132, 2, 1, 167, 255]
theorem ac_cX12_firstOf_16 : AL cX12_firstOf 16 kb_cX12_firstOf_16 := AL.of (m := 20) (by decide +kernel)
theorem dX12_firstOf_16 : decode cX12_firstOf 16 = .ok (.invokestatic 432, 3) := o184 ac_cX12_firstOf_16 0 1 176 rfl
theorem dX12_firstOf_19 : decode cX12_firstOf 19 = .ok (.iaload, 1) := o46 ac_cX12_firstOf_16 3 rfl
theorem dX12_firstOf_20 : decode cX12_firstOf 20 = .ok (.aload_n 0, 1) := o42 ac_cX12_firstOf_16 4 rfl
theorem dX12_firstOf_21 : decode cX12_firstOf 21 = .ok (.getfield 119, 3) := o180 ac_cX12_firstOf_16 5 0 119 rfl
theorem dX12_firstOf_24 : decode cX12_firstOf 24 = .ok (.iload_n 1, 1) := o27 ac_cX12_firstOf_16 8 rfl
theorem dX12_firstOf_25 : decode cX12_firstOf 25 = .ok (.iaload, 1) := o46 ac_cX12_firstOf_16 9 rfl
theorem dX12_firstOf_26 : decode cX12_firstOf 26 = .ok (.iconst 1, 1) := o4 ac_cX12_firstOf_16 10 rfl
theorem dX12_firstOf_27 : decode cX12_firstOf 27 = .ok (.isub, 1) := o100 ac_cX12_firstOf_16 11 rfl
theorem dX12_firstOf_28 : decode cX12_firstOf 28 = .ok (.if_icmp .eq 9, 3) := o159p ac_cX12_firstOf_16 12 0 9 rfl rfl
theorem dX12_firstOf_31 : decode cX12_firstOf 31 = .ok (.iinc 2 1, 3) := o132p ac_cX12_firstOf_16 15 2 1 rfl rfl
def kb_cX12_firstOf_32 : List Nat := [2, 1, 167, 255, 224, 28, 172]
theorem ac_cX12_firstOf_32 : AL cX12_firstOf 32 kb_cX12_firstOf_32 := AL.of (m := 7) (by decide +kernel)
theorem dX12_firstOf_34 : decode cX12_firstOf 34 = .ok (.goto (-32), 3) := o167n ac_cX12_firstOf_32 2 255 224 31 rfl rfl rfl
theorem dX12_firstOf_37 : decode cX12_firstOf 37 = .ok (.iload_n 2, 1) := o28 ac_cX12_firstOf_32 5 rfl
theorem dX12_firstOf_38 : decode cX12_firstOf 38 = .ok (.ireturn, 1) := o172 ac_cX12_firstOf_32 6 rfl
theorem dX12_into_8 : decode cX12_into 8 = .ok (.aload_n 0, 1) := o42 ac_cX12_into_0 8 rfl
theorem dX12_into_9 : decode cX12_into 9 = .ok (.iload_n 1, 1) := o27 ac_cX12_into_0 9 rfl
theorem dX12_into_10 : decode cX12_into 10 = .ok (.invokevirtual 417, 3) := o182 ac_cX12_into_0 10 1 161 rfl
theorem dX12_into_13 : decode cX12_into 13 = .ok (.ifCond .lt 8, 3) := o155p ac_cX12_into_0 13 0 8 rfl rfl
theorem dX12_into_16 : decode cX12_into 16 = .ok (.iload_n 2, 1) := o28 ac_cX12_into_16 0 rfl
theorem dX12_into_17 : decode cX12_into 17 = .ok (.iconst (-1), 1) := o2 ac_cX12_into_16 1 rfl
theorem dX12_into_18 : decode cX12_into 18 = .ok (.if_icmp .ge 5, 3) := o162p ac_cX12_into_16 2 0 5 rfl rfl
theorem dX12_into_23 : decode cX12_into 23 = .ok (.aload_n 0, 1) := o42 ac_cX12_into_16 7 rfl
theorem dX12_into_24 : decode cX12_into 24 = .ok (.invokevirtual 435, 3) := o182 ac_cX12_into_16 8 1 179 rfl
theorem dX12_into_27 : decode cX12_into 27 = .ok (.istore_n 3, 1) := o62 ac_cX12_into_16 11 rfl
theorem dX12_into_28 : decode cX12_into 28 = .ok (.aload_n 0, 1) := o42 ac_cX12_into_16 12 rfl
theorem dX12_into_29 : decode cX12_into 29 = .ok (.aload_n 0, 1) := o42 ac_cX12_into_16 13 rfl
theorem dX12_into_30 : decode cX12_into 30 = .ok (.iload_n 1, 1) := o27 ac_cX12_into_16 14 rfl
theorem dX12_into_31 : decode cX12_into 31 = .ok (.invokevirtual 438, 3) := o182 ac_cX12_into_16 15 1 182 rfl
def kb_cX12_into_32 : List Nat := [1, 182, 182, 1, 185, 42, 182, 1, 188, 154, 0, 14, 42, 180, 0, 119, 29, 46, 16, 99]
theorem ac_cX12_into_32 : AL cX12_into 32 kb_cX12_into_32 := AL.of (m := 20) (by decide +kernel)
theorem dX12_into_34 : decode cX12_into 34 = .ok (.invokevirtual 441, 3) := o182 ac_cX12_into_32 2 1 185 rfl
theorem dX12_into_37 : decode cX12_into 37 = .ok (.aload_n 0, 1) := o42 ac_cX12_into_32 5 rfl
theorem dX12_into_38 : decode cX12_into 38 = .ok (.invokevirtual 444, 3) := o182 ac_cX12_into_32 6 1 188 rfl
theorem dX12_into_41 : decode cX12_into 41 = .ok (.ifCond .ne 14, 3) := o154p ac_cX12_into_32 9 0 14 rfl rfl
theorem dX12_into_44 : decode cX12_into 44 = .ok (.aload_n 0, 1) := o42 ac_cX12_into_32 12 rfl
theorem dX12_into_45 : decode cX12_into 45 = .ok (.getfield 119, 3) := o180 ac_cX12_into_32 13 0 119 rfl
def kb_cX12_into_48 : List Nat := [29, 46, 16, 99, 160, 0, 16, 28, 2, 160, 0, 8, 16, 254, 167, 0, 5, 16, 253, 172]
theorem ac_cX12_into_48 : AL cX12_into 48 kb_cX12_into_48 := AL.of (m := 20) (by decide +kernel)
theorem dX12_into_48 : decode cX12_into 48 = .ok (.iload_n 3, 1) := o29 ac_cX12_into_48 0 rfl
theorem dX12_into_49 : decode cX12_into 49 = .ok (.iaload, 1) := o46 ac_cX12_into_48 1 rfl
theorem dX12_into_50 : decode cX12_into 50 = .ok (.bipush 99, 2) := o16p ac_cX12_into_48 2 99 rfl rfl
theorem dX12_into_52 : decode cX12_into 52 = .ok (.if_icmp .ne 16, 3) := o160p ac_cX12_into_48 4 0 16 rfl rfl
theorem dX12_into_55 : decode cX12_into 55 = .ok (.iload_n 2, 1) := o28 ac_cX12_into_48 7 rfl
theorem dX12_into_56 : decode cX12_into 56 = .ok (.iconst (-1), 1) := o2 ac_cX12_into_48 8 rfl
theorem dX12_into_57 : decode cX12_into 57 = .ok (.if_icmp .ne 8, 3) := o160p ac_cX12_into_48 9 0 8 rfl rfl
theorem dX12_into_60 : decode cX12_into 60 = .ok (.bipush (-2), 2) := o16n ac_cX12_into_48 12 254 1 rfl rfl rfl
theorem dX12_into_62 : decode cX12_into 62 = .ok (.goto 5, 3) := o167p ac_cX12_into_48 14 0 5 rfl rfl
def kb_cX12_into_64 : List Nat := [5, 16, 253, 172, 28, 2, 160, 0, 10, 42, 180, 0, 119, 29, 46, 172, 28, 42, 180, 0]
theorem ac_cX12_into_64 : AL cX12_into 64 kb_cX12_into_64 := AL.of (m := 20) (by decide +kernel)
theorem dX12_into_65 : decode cX12_into 65 = .ok (.bipush (-3), 2) := o16n ac_cX12_into_64 1 253 2 rfl rfl rfl
theorem dX12_into_67 : decode cX12_into 67 = .ok (.ireturn, 1) := o172 ac_cX12_into_64 3 rfl
theorem dX12_into_68 : decode cX12_into 68 = .ok (.iload_n 2, 1) := o28 ac_cX12_into_64 4 rfl
theorem dX12_into_69 : decode cX12_into 69 = .ok (.iconst (-1), 1) := o2 ac_cX12_into_64 5 rfl
theorem dX12_into_70 : decode cX12_into 70 = .ok (.if_icmp .ne 10, 3) := o160p ac_cX12_into_64 6 0 10 rfl rfl
theorem dX12_into_73 : decode cX12_into 73 = .ok (.aload_n 0, 1) := o42 ac_cX12_into_64 9 rfl
theorem dX12_into_74 : decode cX12_into 74 = .ok (.getfield 119, 3) := o180 ac_cX12_into_64 10 0 119 rfl
theorem dX12_into_77 : decode cX12_into 77 = .ok (.iload_n 3, 1) := o29 ac_cX12_into_64 13 rfl
theorem dX12_into_78 : decode cX12_into 78 = .ok (.iaload, 1) := o46 ac_cX12_into_64 14 rfl
theorem dX12_into_79 : decode cX12_into 79 = .ok (.ireturn, 1) := o172 ac_cX12_into_64 15 rfl
def kb_cX12_into_80 : List Nat := [28, 42, 180, 0, 119, 29, 46, 161, 0, 5, 2, 172, 3, 54, 4, 21, 4, 28, 162, 0]
theorem ac_cX12_into_80 : AL cX12_into 80 kb_cX12_into_80 := AL.of (m := 20) (by decide +kernel)
theorem dX12_into_80 : decode cX12_into 80 = .ok (.iload_n 2, 1) := o28 ac_cX12_into_80 0 rfl
theorem dX12_into_81 : decode cX12_into 81 = .ok (.aload_n 0, 1) := o42 ac_cX12_into_80 1 rfl
theorem dX12_into_82 : decode cX12_into 82 = .ok (.getfield 119, 3) := o180 ac_cX12_into_80 2 0 119 rfl
theorem dX12_into_85 : decode cX12_into 85 = .ok (.iload_n 3, 1) := o29 ac_cX12_into_80 5 rfl
theorem dX12_into_86 : decode cX12_into 86 = .ok (.iaload, 1) := o46 ac_cX12_into_80 6 rfl
theorem dX12_into_87 : decode cX12_into 87 = .ok (.if_icmp .lt 5, 3) := o161p ac_cX12_into_80 7 0 5 rfl rfl
theorem dX12_into_90 : decode cX12_into 90 = .ok (.iconst (-1), 1) := o2 ac_cX12_into_80 10 rfl
theorem dX12_into_91 : decode cX12_into 91 = .ok (.ireturn, 1) := o172 ac_cX12_into_80 11 rfl
theorem dX12_into_92 : decode cX12_into 92 = .ok (.iconst 0, 1) := o3 ac_cX12_into_80 12 rfl
theorem dX12_into_93 : decode cX12_into 93 = .ok (.istore 4, 2) := o54 ac_cX12_into_80 13 4 rfl
theorem dX12_into_95 : decode cX12_into 95 = .ok (.iload 4, 2) := o21 ac_cX12_into_80 15 4 rfl
def kb_cX12_into_96 : List Nat := [4, 28, 162, 0, 19, 29, 42, 29, 182, 1, 192, 184, 1, 176, 62, 132, 4, 1, 167, 255]
theorem ac_cX12_into_96 : AL cX12_into 96 kb_cX12_into_96 := AL.of (m := 20) (by decide +kernel)
theorem dX12_into_97 : decode cX12_into 97 = .ok (.iload_n 2, 1) := o28 ac_cX12_into_96 1 rfl
theorem dX12_into_98 : decode cX12_into 98 = .ok (.if_icmp .ge 19, 3) := o162p ac_cX12_into_96 2 0 19 rfl rfl
theorem dX12_into_101 : decode cX12_into 101 = .ok (.iload_n 3, 1) := o29 ac_cX12_into_96 5 rfl
theorem dX12_into_102 : decode cX12_into 102 = .ok (.aload_n 0, 1) := o42 ac_cX12_into_96 6 rfl
theorem dX12_into_103 : decode cX12_into 103 = .ok (.iload_n 3, 1) := o29 ac_cX12_into_96 7 rfl
theorem dX12_into_104 : decode cX12_into 104 = .ok (.invokevirtual 448, 3) := o182 ac_cX12_into_96 8 1 192 rfl
theorem dX12_into_107 : decode cX12_into 107 = .ok (.invokestatic 432, 3) := o184 ac_cX12_into_96 11 1 176 rfl
theorem dX12_into_110 : decode cX12_into 110 = .ok (.istore_n 3, 1) := o62 ac_cX12_into_96 14 rfl
theorem dX12_into_111 : decode cX12_into 111 = .ok (.iinc 4 1, 3) := o132p ac_cX12_into_96 15 4 1 rfl rfl
def kb_cX12_into_112 : List Nat := [4, 1, 167, 255, 237, 42, 29, 182, 1, 192, 172]
theorem ac_cX12_into_112 : AL cX12_into 112 kb_cX12_into_112 := AL.of (m := 11) (by decide +kernel)
theorem dX12_into_114 : decode cX12_into 114 = .ok (.goto (-19), 3) := o167n ac_cX12_into_112 2 255 237 18 rfl rfl rfl
theorem dX12_into_117 : decode cX12_into 117 = .ok (.aload_n 0, 1) := o42 ac_cX12_into_112 5 rfl
theorem dX12_into_118 : decode cX12_into 118 = .ok (.iload_n 3, 1) := o29 ac_cX12_into_112 6 rfl
theorem dX12_into_119 : decode cX12_into 119 = .ok (.invokevirtual 448, 3) := o182 ac_cX12_into_112 7 1 192 rfl
theorem dX12_into_122 : decode cX12_into 122 = .ok (.ireturn, 1) := o172 ac_cX12_into_112 10 rfl
theorem dX12_orbits_10 : decode cX12_orbits 10 = .ok (.aload_n 0, 1) := o42 ac_cX12_orbits_0 10 rfl
theorem dX12_orbits_11 : decode cX12_orbits 11 = .ok (.iload_n 1, 1) := o27 ac_cX12_orbits_0 11 rfl
theorem dX12_orbits_12 : decode cX12_orbits 12 = .ok (.invokevirtual 417, 3) := o182 ac_cX12_orbits_0 12 1 161 rfl
theorem dX12_orbits_15 : decode cX12_orbits 15 = .ok (.ifCond .ge 6, 3) := o156p ac_cX12_orbits_0 15 0 6 rfl rfl
def kb_cX12_orbits_16 : List Nat := [0, 6, 16, 254, 172, 3, 61, 3, 62, 3, 54, 4, 21, 4, 42, 180, 1, 152, 162, 0]
theorem ac_cX12_orbits_16 : AL cX12_orbits 16 kb_cX12_orbits_16 := AL.of (m := 20) (by decide +kernel)
theorem dX12_orbits_18 : decode cX12_orbits 18 = .ok (.bipush (-2), 2) := o16n ac_cX12_orbits_16 2 254 1 rfl rfl rfl
theorem dX12_orbits_20 : decode cX12_orbits 20 = .ok (.ireturn, 1) := o172 ac_cX12_orbits_16 4 rfl
theorem dX12_orbits_21 : decode cX12_orbits 21 = .ok (.iconst 0, 1) := o3 ac_cX12_orbits_16 5 rfl
theorem dX12_orbits_22 : decode cX12_orbits 22 = .ok (.istore_n 2, 1) := o61 ac_cX12_orbits_16 6 rfl
theorem dX12_orbits_23 : decode cX12_orbits 23 = .ok (.iconst 0, 1) := o3 ac_cX12_orbits_16 7 rfl
theorem dX12_orbits_24 : decode cX12_orbits 24 = .ok (.istore_n 3, 1) := o62 ac_cX12_orbits_16 8 rfl
theorem dX12_orbits_25 : decode cX12_orbits 25 = .ok (.iconst 0, 1) := o3 ac_cX12_orbits_16 9 rfl
theorem dX12_orbits_26 : decode cX12_orbits 26 = .ok (.istore 4, 2) := o54 ac_cX12_orbits_16 10 4 rfl
theorem dX12_orbits_28 : decode cX12_orbits 28 = .ok (.iload 4, 2) := o21 ac_cX12_orbits_16 12 4 rfl
theorem dX12_orbits_30 : decode cX12_orbits 30 = .ok (.aload_n 0, 1) := o42 ac_cX12_orbits_16 14 rfl
theorem dX12_orbits_31 : decode cX12_orbits 31 = .ok (.getfield 408, 3) := o180 ac_cX12_orbits_16 15 1 152 rfl
def kb_cX12_orbits_32 : List Nat := [1, 152, 162, 0, 65, 28, 21, 4, 122, 4, 126, 4, 160, 0, 6, 167, 0, 46, 132, 3]
theorem ac_cX12_orbits_32 : AL cX12_orbits 32 kb_cX12_orbits_32 := AL.of (m := 20) (by decide +kernel)
theorem dX12_orbits_34 : decode cX12_orbits 34 = .ok (.if_icmp .ge 65, 3) := o162p ac_cX12_orbits_32 2 0 65 rfl rfl
theorem dX12_orbits_37 : decode cX12_orbits 37 = .ok (.iload_n 2, 1) := o28 ac_cX12_orbits_32 5 rfl
theorem dX12_orbits_38 : decode cX12_orbits 38 = .ok (.iload 4, 2) := o21 ac_cX12_orbits_32 6 4 rfl
theorem dX12_orbits_40 : decode cX12_orbits 40 = .ok (.ishr, 1) := o122 ac_cX12_orbits_32 8 rfl
theorem dX12_orbits_41 : decode cX12_orbits 41 = .ok (.iconst 1, 1) := o4 ac_cX12_orbits_32 9 rfl
theorem dX12_orbits_42 : decode cX12_orbits 42 = .ok (.iand, 1) := o126 ac_cX12_orbits_32 10 rfl
theorem dX12_orbits_43 : decode cX12_orbits 43 = .ok (.iconst 1, 1) := o4 ac_cX12_orbits_32 11 rfl
theorem dX12_orbits_44 : decode cX12_orbits 44 = .ok (.if_icmp .ne 6, 3) := o160p ac_cX12_orbits_32 12 0 6 rfl rfl
theorem dX12_orbits_47 : decode cX12_orbits 47 = .ok (.goto 46, 3) := o167p ac_cX12_orbits_32 15 0 46 rfl rfl
def kb_cX12_orbits_48 : List Nat := [0, 46, 132, 3, 1, 21, 4, 54, 5, 28, 21, 5, 122, 4, 126, 154, 0, 30, 28, 4]
theorem ac_cX12_orbits_48 : AL cX12_orbits 48 kb_cX12_orbits_48 := AL.of (m := 20) (by decide +kernel)
theorem dX12_orbits_50 : decode cX12_orbits 50 = .ok (.iinc 3 1, 3) := o132p ac_cX12_orbits_48 2 3 1 rfl rfl
theorem dX12_orbits_53 : decode cX12_orbits 53 = .ok (.iload 4, 2) := o21 ac_cX12_orbits_48 5 4 rfl
theorem dX12_orbits_55 : decode cX12_orbits 55 = .ok (.istore 5, 2) := o54 ac_cX12_orbits_48 7 5 rfl
theorem dX12_orbits_57 : decode cX12_orbits 57 = .ok (.iload_n 2, 1) := o28 ac_cX12_orbits_48 9 rfl
theorem dX12_orbits_58 : decode cX12_orbits 58 = .ok (.iload 5, 2) := o21 ac_cX12_orbits_48 10 5 rfl
theorem dX12_orbits_60 : decode cX12_orbits 60 = .ok (.ishr, 1) := o122 ac_cX12_orbits_48 12 rfl
theorem dX12_orbits_61 : decode cX12_orbits 61 = .ok (.iconst 1, 1) := o4 ac_cX12_orbits_48 13 rfl
theorem dX12_orbits_62 : decode cX12_orbits 62 = .ok (.iand, 1) := o126 ac_cX12_orbits_48 14 rfl
theorem dX12_orbits_63 : decode cX12_orbits 63 = .ok (.ifCond .ne 30, 3) := o154p ac_cX12_orbits_48 15 0 30 rfl rfl
def kb_cX12_orbits_64 : List Nat := [0, 30, 28, 4, 21, 5, 120, 128, 61, 21, 5, 42, 180, 0, 116, 21, 5, 46, 96, 42]
theorem ac_cX12_orbits_64 : AL cX12_orbits 64 kb_cX12_orbits_64 := AL.of (m := 20) (by decide +kernel)
theorem dX12_orbits_66 : decode cX12_orbits 66 = .ok (.iload_n 2, 1) := o28 ac_cX12_orbits_64 2 rfl
theorem dX12_orbits_67 : decode cX12_orbits 67 = .ok (.iconst 1, 1) := o4 ac_cX12_orbits_64 3 rfl
theorem dX12_orbits_68 : decode cX12_orbits 68 = .ok (.iload 5, 2) := o21 ac_cX12_orbits_64 4 5 rfl
theorem dX12_orbits_70 : decode cX12_orbits 70 = .ok (.ishl, 1) := o120 ac_cX12_orbits_64 6 rfl
theorem dX12_orbits_71 : decode cX12_orbits 71 = .ok (.ior, 1) := o128 ac_cX12_orbits_64 7 rfl
theorem dX12_orbits_72 : decode cX12_orbits 72 = .ok (.istore_n 2, 1) := o61 ac_cX12_orbits_64 8 rfl
theorem dX12_orbits_73 : decode cX12_orbits 73 = .ok (.iload 5, 2) := o21 ac_cX12_orbits_64 9 5 rfl
theorem dX12_orbits_75 : decode cX12_orbits 75 = .ok (.aload_n 0, 1) := o42 ac_cX12_orbits_64 11 rfl
theorem dX12_orbits_76 : decode cX12_orbits 76 = .ok (.getfield 116, 3) := o180 ac_cX12_orbits_64 12 0 116 rfl
theorem dX12_orbits_79 : decode cX12_orbits 79 = .ok (.iload 5, 2) := o21 ac_cX12_orbits_64 15 5 rfl
def kb_cX12_orbits_80 : List Nat := [5, 46, 96, 42, 180, 1, 152, 112, 54, 5, 167, 255, 223, 132, 4, 1, 167, 255, 188, 29]
theorem ac_cX12_orbits_80 : AL cX12_orbits 80 kb_cX12_orbits_80 := AL.of (m := 20) (by decide +kernel)
theorem dX12_orbits_81 : decode cX12_orbits 81 = .ok (.iaload, 1) := o46 ac_cX12_orbits_80 1 rfl
theorem dX12_orbits_82 : decode cX12_orbits 82 = .ok (.iadd, 1) := o96 ac_cX12_orbits_80 2 rfl
theorem dX12_orbits_83 : decode cX12_orbits 83 = .ok (.aload_n 0, 1) := o42 ac_cX12_orbits_80 3 rfl
theorem dX12_orbits_84 : decode cX12_orbits 84 = .ok (.getfield 408, 3) := o180 ac_cX12_orbits_80 4 1 152 rfl
theorem dX12_orbits_87 : decode cX12_orbits 87 = .ok (.irem, 1) := o112 ac_cX12_orbits_80 7 rfl
theorem dX12_orbits_88 : decode cX12_orbits 88 = .ok (.istore 5, 2) := o54 ac_cX12_orbits_80 8 5 rfl
theorem dX12_orbits_90 : decode cX12_orbits 90 = .ok (.goto (-33), 3) := o167n ac_cX12_orbits_80 10 255 223 32 rfl rfl rfl
theorem dX12_orbits_93 : decode cX12_orbits 93 = .ok (.iinc 4 1, 3) := o132p ac_cX12_orbits_80 13 4 1 rfl rfl
def kb_cX12_orbits_96 : List Nat := [167, 255, 188, 29, 172]
theorem ac_cX12_orbits_96 : AL cX12_orbits 96 kb_cX12_orbits_96 := AL.of (m := 5) (by decide +kernel)
theorem dX12_orbits_96 : decode cX12_orbits 96 = .ok (.goto (-68), 3) := o167n ac_cX12_orbits_96 0 255 188 67 rfl rfl rfl
theorem dX12_orbits_99 : decode cX12_orbits 99 = .ok (.iload_n 3, 1) := o29 ac_cX12_orbits_96 3 rfl
theorem dX12_orbits_100 : decode cX12_orbits 100 = .ok (.ireturn, 1) := o172 ac_cX12_orbits_96 4 rfl
theorem dX12_is_24 : decode cX12_is 24 = .ok (.iconst 0, 1) := o3 ac_cX12_is_16 8 rfl
def kb_cX12_fail_0 : List Nat := [42, 180, 0, 191, 158, 0, 4, 177, 42, 27, 181, 0, 191, 42, 42, 180, 0, 24, 42, 180]
theorem ac_cX12_fail_0 : AL cX12_fail 0 kb_cX12_fail_0 := AL.of (m := 20) (by decide +kernel)
theorem dX12_fail_0 : decode cX12_fail 0 = .ok (.aload_n 0, 1) := o42 ac_cX12_fail_0 0 rfl
theorem dX12_fail_1 : decode cX12_fail 1 = .ok (.getfield 191, 3) := o180 ac_cX12_fail_0 1 0 191 rfl
theorem dX12_fail_4 : decode cX12_fail 4 = .ok (.ifCond .le 4, 3) := o158p ac_cX12_fail_0 4 0 4 rfl rfl
theorem dX12_fail_7 : decode cX12_fail 7 = .ok (.return_, 1) := o177 ac_cX12_fail_0 7 rfl
theorem dX12_fail_8 : decode cX12_fail 8 = .ok (.aload_n 0, 1) := o42 ac_cX12_fail_0 8 rfl
theorem dX12_fail_9 : decode cX12_fail 9 = .ok (.iload_n 1, 1) := o27 ac_cX12_fail_0 9 rfl
theorem dX12_fail_10 : decode cX12_fail 10 = .ok (.putfield 191, 3) := o181 ac_cX12_fail_0 10 0 191 rfl
theorem dX12_fail_13 : decode cX12_fail 13 = .ok (.aload_n 0, 1) := o42 ac_cX12_fail_0 13 rfl
theorem dX12_fail_14 : decode cX12_fail 14 = .ok (.aload_n 0, 1) := o42 ac_cX12_fail_0 14 rfl
theorem dX12_fail_15 : decode cX12_fail 15 = .ok (.getfield 24, 3) := o180 ac_cX12_fail_0 15 0 24 rfl
def kb_cX12_fail_16 : List Nat := [0, 24, 42, 180, 0, 194, 46, 181, 0, 197, 177]
theorem ac_cX12_fail_16 : AL cX12_fail 16 kb_cX12_fail_16 := AL.of (m := 11) (by decide +kernel)
theorem dX12_fail_18 : decode cX12_fail 18 = .ok (.aload_n 0, 1) := o42 ac_cX12_fail_16 2 rfl
theorem dX12_fail_19 : decode cX12_fail 19 = .ok (.getfield 194, 3) := o180 ac_cX12_fail_16 3 0 194 rfl
theorem dX12_fail_22 : decode cX12_fail 22 = .ok (.iaload, 1) := o46 ac_cX12_fail_16 6 rfl
theorem dX12_fail_23 : decode cX12_fail 23 = .ok (.putfield 197, 3) := o181 ac_cX12_fail_16 7 0 197 rfl
theorem dX12_fail_26 : decode cX12_fail 26 = .ok (.return_, 1) := o177 ac_cX12_fail_16 10 rfl
def kb_cX12_goesOn_0 : List Nat := [42, 180, 0, 194, 17, 1, 144, 160, 0, 11, 42, 5, 182, 0, 206, 167, 0, 13, 42, 89]
theorem ac_cX12_goesOn_0 : AL cX12_goesOn 0 kb_cX12_goesOn_0 := AL.of (m := 20) (by decide +kernel)
theorem dX12_goesOn_0 : decode cX12_goesOn 0 = .ok (.aload_n 0, 1) := o42 ac_cX12_goesOn_0 0 rfl
theorem dX12_goesOn_1 : decode cX12_goesOn 1 = .ok (.getfield 194, 3) := o180 ac_cX12_goesOn_0 1 0 194 rfl
theorem dX12_goesOn_4 : decode cX12_goesOn 4 = .ok (.sipush 400, 3) := o17p ac_cX12_goesOn_0 4 1 144 rfl rfl
theorem dX12_goesOn_7 : decode cX12_goesOn 7 = .ok (.if_icmp .ne 11, 3) := o160p ac_cX12_goesOn_0 7 0 11 rfl rfl
theorem dX12_goesOn_10 : decode cX12_goesOn 10 = .ok (.aload_n 0, 1) := o42 ac_cX12_goesOn_0 10 rfl
theorem dX12_goesOn_11 : decode cX12_goesOn 11 = .ok (.iconst 2, 1) := o5 ac_cX12_goesOn_0 11 rfl
theorem dX12_goesOn_12 : decode cX12_goesOn 12 = .ok (.invokevirtual 206, 3) := o182 ac_cX12_goesOn_0 12 0 206 rfl
theorem dX12_goesOn_15 : decode cX12_goesOn 15 = .ok (.goto 13, 3) := o167p ac_cX12_goesOn_0 15 0 13 rfl rfl
def kb_cX12_goesOn_16 : List Nat := [0, 13, 42, 89, 180, 0, 194, 4, 96, 181, 0, 194, 177]
theorem ac_cX12_goesOn_16 : AL cX12_goesOn 16 kb_cX12_goesOn_16 := AL.of (m := 13) (by decide +kernel)
theorem dX12_goesOn_18 : decode cX12_goesOn 18 = .ok (.aload_n 0, 1) := o42 ac_cX12_goesOn_16 2 rfl
theorem dX12_goesOn_19 : decode cX12_goesOn 19 = .ok (.dup, 1) := o89 ac_cX12_goesOn_16 3 rfl
theorem dX12_goesOn_20 : decode cX12_goesOn 20 = .ok (.getfield 194, 3) := o180 ac_cX12_goesOn_16 4 0 194 rfl
theorem dX12_goesOn_23 : decode cX12_goesOn 23 = .ok (.iconst 1, 1) := o4 ac_cX12_goesOn_16 7 rfl
theorem dX12_goesOn_24 : decode cX12_goesOn 24 = .ok (.iadd, 1) := o96 ac_cX12_goesOn_16 8 rfl
theorem dX12_goesOn_25 : decode cX12_goesOn 25 = .ok (.putfield 194, 3) := o181 ac_cX12_goesOn_16 9 0 194 rfl
theorem dX12_goesOn_28 : decode cX12_goesOn 28 = .ok (.return_, 1) := o177 ac_cX12_goesOn_16 12 rfl
def kb_cX12_must_0 : List Nat := [42, 27, 182, 0, 209, 153, 0, 10, 42, 182, 0, 212, 167, 0, 8, 42, 4, 182, 0, 206]
theorem ac_cX12_must_0 : AL cX12_must 0 kb_cX12_must_0 := AL.of (m := 20) (by decide +kernel)
theorem dX12_must_0 : decode cX12_must 0 = .ok (.aload_n 0, 1) := o42 ac_cX12_must_0 0 rfl
theorem dX12_must_1 : decode cX12_must 1 = .ok (.iload_n 1, 1) := o27 ac_cX12_must_0 1 rfl
theorem dX12_must_2 : decode cX12_must 2 = .ok (.invokevirtual 209, 3) := o182 ac_cX12_must_0 2 0 209 rfl
theorem dX12_must_5 : decode cX12_must 5 = .ok (.ifCond .eq 10, 3) := o153p ac_cX12_must_0 5 0 10 rfl rfl
theorem dX12_must_8 : decode cX12_must 8 = .ok (.aload_n 0, 1) := o42 ac_cX12_must_0 8 rfl
theorem dX12_must_9 : decode cX12_must 9 = .ok (.invokevirtual 212, 3) := o182 ac_cX12_must_0 9 0 212 rfl
theorem dX12_must_12 : decode cX12_must 12 = .ok (.goto 8, 3) := o167p ac_cX12_must_0 12 0 8 rfl rfl
theorem dX12_must_15 : decode cX12_must 15 = .ok (.aload_n 0, 1) := o42 ac_cX12_must_0 15 rfl
def kb_cX12_must_16 : List Nat := [4, 182, 0, 206, 177]
theorem ac_cX12_must_16 : AL cX12_must 16 kb_cX12_must_16 := AL.of (m := 5) (by decide +kernel)
theorem dX12_must_16 : decode cX12_must 16 = .ok (.iconst 1, 1) := o4 ac_cX12_must_16 0 rfl
theorem dX12_must_17 : decode cX12_must 17 = .ok (.invokevirtual 206, 3) := o182 ac_cX12_must_16 1 0 206 rfl
theorem dX12_must_20 : decode cX12_must 20 = .ok (.return_, 1) := o177 ac_cX12_must_16 4 rfl
def kb_cX12_wrong_0 : List Nat := [42, 180, 0, 24, 28, 46, 62, 42, 180, 0, 191, 157, 0, 34, 42, 180, 0, 200, 153, 0]
theorem ac_cX12_wrong_0 : AL cX12_wrong 0 kb_cX12_wrong_0 := AL.of (m := 20) (by decide +kernel)
theorem dX12_wrong_0 : decode cX12_wrong 0 = .ok (.aload_n 0, 1) := o42 ac_cX12_wrong_0 0 rfl
theorem dX12_wrong_1 : decode cX12_wrong 1 = .ok (.getfield 24, 3) := o180 ac_cX12_wrong_0 1 0 24 rfl
theorem dX12_wrong_4 : decode cX12_wrong 4 = .ok (.iload_n 2, 1) := o28 ac_cX12_wrong_0 4 rfl
theorem dX12_wrong_5 : decode cX12_wrong 5 = .ok (.iaload, 1) := o46 ac_cX12_wrong_0 5 rfl
theorem dX12_wrong_6 : decode cX12_wrong 6 = .ok (.istore_n 3, 1) := o62 ac_cX12_wrong_0 6 rfl
theorem dX12_wrong_7 : decode cX12_wrong 7 = .ok (.aload_n 0, 1) := o42 ac_cX12_wrong_0 7 rfl
theorem dX12_wrong_8 : decode cX12_wrong 8 = .ok (.getfield 191, 3) := o180 ac_cX12_wrong_0 8 0 191 rfl
theorem dX12_wrong_11 : decode cX12_wrong 11 = .ok (.ifCond .gt 34, 3) := o157p ac_cX12_wrong_0 11 0 34 rfl rfl
theorem dX12_wrong_14 : decode cX12_wrong 14 = .ok (.aload_n 0, 1) := o42 ac_cX12_wrong_0 14 rfl
theorem dX12_wrong_15 : decode cX12_wrong 15 = .ok (.getfield 200, 3) := o180 ac_cX12_wrong_0 15 0 200 rfl
def kb_cX12_wrong_16 : List Nat := [0, 200, 153, 0, 28, 29, 42, 180, 0, 203, 163, 0, 19, 29, 42, 180, 0, 203, 160, 0]
theorem ac_cX12_wrong_16 : AL cX12_wrong 16 kb_cX12_wrong_16 := AL.of (m := 20) (by decide +kernel)
theorem dX12_wrong_18 : decode cX12_wrong 18 = .ok (.ifCond .eq 28, 3) := o153p ac_cX12_wrong_16 2 0 28 rfl rfl
theorem dX12_wrong_21 : decode cX12_wrong 21 = .ok (.iload_n 3, 1) := o29 ac_cX12_wrong_16 5 rfl
theorem dX12_wrong_22 : decode cX12_wrong 22 = .ok (.aload_n 0, 1) := o42 ac_cX12_wrong_16 6 rfl
theorem dX12_wrong_23 : decode cX12_wrong 23 = .ok (.getfield 203, 3) := o180 ac_cX12_wrong_16 7 0 203 rfl
theorem dX12_wrong_26 : decode cX12_wrong 26 = .ok (.if_icmp .gt 19, 3) := o163p ac_cX12_wrong_16 10 0 19 rfl rfl
theorem dX12_wrong_29 : decode cX12_wrong 29 = .ok (.iload_n 3, 1) := o29 ac_cX12_wrong_16 13 rfl
theorem dX12_wrong_30 : decode cX12_wrong 30 = .ok (.aload_n 0, 1) := o42 ac_cX12_wrong_16 14 rfl
theorem dX12_wrong_31 : decode cX12_wrong 31 = .ok (.getfield 203, 3) := o180 ac_cX12_wrong_16 15 0 203 rfl
def kb_cX12_wrong_32 : List Nat := [0, 203, 160, 0, 12, 27, 42, 180, 0, 200, 161, 0, 4, 177, 42, 27, 181, 0, 200, 42]
theorem ac_cX12_wrong_32 : AL cX12_wrong 32 kb_cX12_wrong_32 := AL.of (m := 20) (by decide +kernel)
theorem dX12_wrong_34 : decode cX12_wrong 34 = .ok (.if_icmp .ne 12, 3) := o160p ac_cX12_wrong_32 2 0 12 rfl rfl
theorem dX12_wrong_37 : decode cX12_wrong 37 = .ok (.iload_n 1, 1) := o27 ac_cX12_wrong_32 5 rfl
theorem dX12_wrong_38 : decode cX12_wrong 38 = .ok (.aload_n 0, 1) := o42 ac_cX12_wrong_32 6 rfl
theorem dX12_wrong_39 : decode cX12_wrong 39 = .ok (.getfield 200, 3) := o180 ac_cX12_wrong_32 7 0 200 rfl
theorem dX12_wrong_42 : decode cX12_wrong 42 = .ok (.if_icmp .lt 4, 3) := o161p ac_cX12_wrong_32 10 0 4 rfl rfl
theorem dX12_wrong_45 : decode cX12_wrong 45 = .ok (.return_, 1) := o177 ac_cX12_wrong_32 13 rfl
theorem dX12_wrong_46 : decode cX12_wrong 46 = .ok (.aload_n 0, 1) := o42 ac_cX12_wrong_32 14 rfl
theorem dX12_wrong_47 : decode cX12_wrong 47 = .ok (.iload_n 1, 1) := o27 ac_cX12_wrong_32 15 rfl
def kb_cX12_wrong_48 : List Nat := [181, 0, 200, 42, 29, 181, 0, 203, 177]
theorem ac_cX12_wrong_48 : AL cX12_wrong 48 kb_cX12_wrong_48 := AL.of (m := 9) (by decide +kernel)
theorem dX12_wrong_48 : decode cX12_wrong 48 = .ok (.putfield 200, 3) := o181 ac_cX12_wrong_48 0 0 200 rfl
theorem dX12_wrong_51 : decode cX12_wrong 51 = .ok (.aload_n 0, 1) := o42 ac_cX12_wrong_48 3 rfl
theorem dX12_wrong_52 : decode cX12_wrong 52 = .ok (.iload_n 3, 1) := o29 ac_cX12_wrong_48 4 rfl
theorem dX12_wrong_53 : decode cX12_wrong 53 = .ok (.putfield 203, 3) := o181 ac_cX12_wrong_48 5 0 203 rfl
theorem dX12_wrong_56 : decode cX12_wrong 56 = .ok (.return_, 1) := o177 ac_cX12_wrong_48 8 rfl
def kb_cX12_roomFor_0 : List Nat := [27, 28, 160, 0, 8, 42, 5, 182, 0, 206, 42, 180, 0, 191, 154, 0, 7, 42, 182, 0]
theorem ac_cX12_roomFor_0 : AL cX12_roomFor 0 kb_cX12_roomFor_0 := AL.of (m := 20) (by decide +kernel)
theorem dX12_roomFor_0 : decode cX12_roomFor 0 = .ok (.iload_n 1, 1) := o27 ac_cX12_roomFor_0 0 rfl
theorem dX12_roomFor_1 : decode cX12_roomFor 1 = .ok (.iload_n 2, 1) := o28 ac_cX12_roomFor_0 1 rfl
theorem dX12_roomFor_2 : decode cX12_roomFor 2 = .ok (.if_icmp .ne 8, 3) := o160p ac_cX12_roomFor_0 2 0 8 rfl rfl
theorem dX12_roomFor_5 : decode cX12_roomFor 5 = .ok (.aload_n 0, 1) := o42 ac_cX12_roomFor_0 5 rfl
theorem dX12_roomFor_6 : decode cX12_roomFor 6 = .ok (.iconst 2, 1) := o5 ac_cX12_roomFor_0 6 rfl
theorem dX12_roomFor_7 : decode cX12_roomFor 7 = .ok (.invokevirtual 206, 3) := o182 ac_cX12_roomFor_0 7 0 206 rfl
theorem dX12_roomFor_10 : decode cX12_roomFor 10 = .ok (.aload_n 0, 1) := o42 ac_cX12_roomFor_0 10 rfl
theorem dX12_roomFor_11 : decode cX12_roomFor 11 = .ok (.getfield 191, 3) := o180 ac_cX12_roomFor_0 11 0 191 rfl
theorem dX12_roomFor_14 : decode cX12_roomFor 14 = .ok (.ifCond .ne 7, 3) := o154p ac_cX12_roomFor_0 14 0 7 rfl rfl
def kb_cX12_roomFor_16 : List Nat := [7, 42, 182, 0, 212, 177]
theorem ac_cX12_roomFor_16 : AL cX12_roomFor 16 kb_cX12_roomFor_16 := AL.of (m := 6) (by decide +kernel)
theorem dX12_roomFor_17 : decode cX12_roomFor 17 = .ok (.aload_n 0, 1) := o42 ac_cX12_roomFor_16 1 rfl
theorem dX12_roomFor_18 : decode cX12_roomFor 18 = .ok (.invokevirtual 212, 3) := o182 ac_cX12_roomFor_16 2 0 212 rfl
theorem dX12_roomFor_21 : decode cX12_roomFor 21 = .ok (.return_, 1) := o177 ac_cX12_roomFor_16 5 rfl
def kb_cX12_bounded_0 : List Nat := [42, 180, 0, 191, 157, 0, 11, 42, 5, 182, 0, 209, 154, 0, 10, 42, 4, 182, 0, 206]
theorem ac_cX12_bounded_0 : AL cX12_bounded 0 kb_cX12_bounded_0 := AL.of (m := 20) (by decide +kernel)
theorem dX12_bounded_0 : decode cX12_bounded 0 = .ok (.aload_n 0, 1) := o42 ac_cX12_bounded_0 0 rfl
theorem dX12_bounded_1 : decode cX12_bounded 1 = .ok (.getfield 191, 3) := o180 ac_cX12_bounded_0 1 0 191 rfl
theorem dX12_bounded_4 : decode cX12_bounded 4 = .ok (.ifCond .gt 11, 3) := o157p ac_cX12_bounded_0 4 0 11 rfl rfl
theorem dX12_bounded_7 : decode cX12_bounded 7 = .ok (.aload_n 0, 1) := o42 ac_cX12_bounded_0 7 rfl
theorem dX12_bounded_8 : decode cX12_bounded 8 = .ok (.iconst 2, 1) := o5 ac_cX12_bounded_0 8 rfl
theorem dX12_bounded_9 : decode cX12_bounded 9 = .ok (.invokevirtual 209, 3) := o182 ac_cX12_bounded_0 9 0 209 rfl
theorem dX12_bounded_12 : decode cX12_bounded 12 = .ok (.ifCond .ne 10, 3) := o154p ac_cX12_bounded_0 12 0 10 rfl rfl
theorem dX12_bounded_15 : decode cX12_bounded 15 = .ok (.aload_n 0, 1) := o42 ac_cX12_bounded_0 15 rfl
def kb_cX12_bounded_16 : List Nat := [4, 182, 0, 206, 27, 172, 42, 180, 0, 27, 42, 180, 0, 194, 46, 62, 29, 27, 161, 0]
theorem ac_cX12_bounded_16 : AL cX12_bounded 16 kb_cX12_bounded_16 := AL.of (m := 20) (by decide +kernel)
theorem dX12_bounded_16 : decode cX12_bounded 16 = .ok (.iconst 1, 1) := o4 ac_cX12_bounded_16 0 rfl
theorem dX12_bounded_17 : decode cX12_bounded 17 = .ok (.invokevirtual 206, 3) := o182 ac_cX12_bounded_16 1 0 206 rfl
theorem dX12_bounded_20 : decode cX12_bounded 20 = .ok (.iload_n 1, 1) := o27 ac_cX12_bounded_16 4 rfl
theorem dX12_bounded_21 : decode cX12_bounded 21 = .ok (.ireturn, 1) := o172 ac_cX12_bounded_16 5 rfl
theorem dX12_bounded_22 : decode cX12_bounded 22 = .ok (.aload_n 0, 1) := o42 ac_cX12_bounded_16 6 rfl
theorem dX12_bounded_23 : decode cX12_bounded 23 = .ok (.getfield 27, 3) := o180 ac_cX12_bounded_16 7 0 27 rfl
theorem dX12_bounded_26 : decode cX12_bounded 26 = .ok (.aload_n 0, 1) := o42 ac_cX12_bounded_16 10 rfl
theorem dX12_bounded_27 : decode cX12_bounded 27 = .ok (.getfield 194, 3) := o180 ac_cX12_bounded_16 11 0 194 rfl
theorem dX12_bounded_30 : decode cX12_bounded 30 = .ok (.iaload, 1) := o46 ac_cX12_bounded_16 14 rfl
theorem dX12_bounded_31 : decode cX12_bounded 31 = .ok (.istore_n 3, 1) := o62 ac_cX12_bounded_16 15 rfl
def kb_cX12_bounded_32 : List Nat := [29, 27, 161, 0, 8, 29, 28, 164, 0, 12, 42, 8, 42, 180, 0, 194, 182, 1, 12, 42]
theorem ac_cX12_bounded_32 : AL cX12_bounded 32 kb_cX12_bounded_32 := AL.of (m := 20) (by decide +kernel)
theorem dX12_bounded_32 : decode cX12_bounded 32 = .ok (.iload_n 3, 1) := o29 ac_cX12_bounded_32 0 rfl
theorem dX12_bounded_33 : decode cX12_bounded 33 = .ok (.iload_n 1, 1) := o27 ac_cX12_bounded_32 1 rfl
theorem dX12_bounded_34 : decode cX12_bounded 34 = .ok (.if_icmp .lt 8, 3) := o161p ac_cX12_bounded_32 2 0 8 rfl rfl
theorem dX12_bounded_37 : decode cX12_bounded 37 = .ok (.iload_n 3, 1) := o29 ac_cX12_bounded_32 5 rfl
theorem dX12_bounded_38 : decode cX12_bounded 38 = .ok (.iload_n 2, 1) := o28 ac_cX12_bounded_32 6 rfl
theorem dX12_bounded_39 : decode cX12_bounded 39 = .ok (.if_icmp .le 12, 3) := o164p ac_cX12_bounded_32 7 0 12 rfl rfl
theorem dX12_bounded_42 : decode cX12_bounded 42 = .ok (.aload_n 0, 1) := o42 ac_cX12_bounded_32 10 rfl
theorem dX12_bounded_43 : decode cX12_bounded 43 = .ok (.iconst 5, 1) := o8 ac_cX12_bounded_32 11 rfl
theorem dX12_bounded_44 : decode cX12_bounded 44 = .ok (.aload_n 0, 1) := o42 ac_cX12_bounded_32 12 rfl
theorem dX12_bounded_45 : decode cX12_bounded 45 = .ok (.getfield 194, 3) := o180 ac_cX12_bounded_32 13 0 194 rfl
def kb_cX12_bounded_48 : List Nat := [182, 1, 12, 42, 182, 0, 212, 29, 172]
theorem ac_cX12_bounded_48 : AL cX12_bounded 48 kb_cX12_bounded_48 := AL.of (m := 9) (by decide +kernel)
theorem dX12_bounded_48 : decode cX12_bounded 48 = .ok (.invokevirtual 268, 3) := o182 ac_cX12_bounded_48 0 1 12 rfl
theorem dX12_bounded_51 : decode cX12_bounded 51 = .ok (.aload_n 0, 1) := o42 ac_cX12_bounded_48 3 rfl
theorem dX12_bounded_52 : decode cX12_bounded 52 = .ok (.invokevirtual 212, 3) := o182 ac_cX12_bounded_48 4 0 212 rfl
theorem dX12_bounded_55 : decode cX12_bounded 55 = .ok (.iload_n 3, 1) := o29 ac_cX12_bounded_48 7 rfl
theorem dX12_bounded_56 : decode cX12_bounded 56 = .ok (.ireturn, 1) := o172 ac_cX12_bounded_48 8 rfl
def kb_cX12_toldInt_0 : List Nat := [42, 182, 0, 212, 42, 27, 28, 182, 0, 245, 62, 42, 7, 182, 0, 249, 29, 172]
theorem ac_cX12_toldInt_0 : AL cX12_toldInt 0 kb_cX12_toldInt_0 := AL.of (m := 18) (by decide +kernel)
theorem dX12_toldInt_0 : decode cX12_toldInt 0 = .ok (.aload_n 0, 1) := o42 ac_cX12_toldInt_0 0 rfl
theorem dX12_toldInt_1 : decode cX12_toldInt 1 = .ok (.invokevirtual 212, 3) := o182 ac_cX12_toldInt_0 1 0 212 rfl
theorem dX12_toldInt_4 : decode cX12_toldInt 4 = .ok (.aload_n 0, 1) := o42 ac_cX12_toldInt_0 4 rfl
theorem dX12_toldInt_5 : decode cX12_toldInt 5 = .ok (.iload_n 1, 1) := o27 ac_cX12_toldInt_0 5 rfl
theorem dX12_toldInt_6 : decode cX12_toldInt 6 = .ok (.iload_n 2, 1) := o28 ac_cX12_toldInt_0 6 rfl
theorem dX12_toldInt_7 : decode cX12_toldInt 7 = .ok (.invokevirtual 245, 3) := o182 ac_cX12_toldInt_0 7 0 245 rfl
theorem dX12_toldInt_10 : decode cX12_toldInt 10 = .ok (.istore_n 3, 1) := o62 ac_cX12_toldInt_0 10 rfl
theorem dX12_toldInt_11 : decode cX12_toldInt 11 = .ok (.aload_n 0, 1) := o42 ac_cX12_toldInt_0 11 rfl
theorem dX12_toldInt_12 : decode cX12_toldInt 12 = .ok (.iconst 4, 1) := o7 ac_cX12_toldInt_0 12 rfl
theorem dX12_toldInt_13 : decode cX12_toldInt 13 = .ok (.invokevirtual 249, 3) := o182 ac_cX12_toldInt_0 13 0 249 rfl
def kb_cX12_toldInt_16 : List Nat := [29, 172]
theorem ac_cX12_toldInt_16 : AL cX12_toldInt 16 kb_cX12_toldInt_16 := AL.of (m := 2) (by decide +kernel)
theorem dX12_toldInt_16 : decode cX12_toldInt 16 = .ok (.iload_n 3, 1) := o29 ac_cX12_toldInt_16 0 rfl
theorem dX12_toldInt_17 : decode cX12_toldInt 17 = .ok (.ireturn, 1) := o172 ac_cX12_toldInt_16 1 rfl
def kb_cX12_named_0 : List Nat := [42, 180, 0, 194, 60, 42, 4, 182, 0, 249, 3, 61, 28, 42, 180, 0, 227, 162, 0, 38]
theorem ac_cX12_named_0 : AL cX12_named 0 kb_cX12_named_0 := AL.of (m := 20) (by decide +kernel)
theorem dX12_named_0 : decode cX12_named 0 = .ok (.aload_n 0, 1) := o42 ac_cX12_named_0 0 rfl
theorem dX12_named_1 : decode cX12_named 1 = .ok (.getfield 194, 3) := o180 ac_cX12_named_0 1 0 194 rfl
theorem dX12_named_4 : decode cX12_named 4 = .ok (.istore_n 1, 1) := o60 ac_cX12_named_0 4 rfl
theorem dX12_named_5 : decode cX12_named 5 = .ok (.aload_n 0, 1) := o42 ac_cX12_named_0 5 rfl
theorem dX12_named_6 : decode cX12_named 6 = .ok (.iconst 1, 1) := o4 ac_cX12_named_0 6 rfl
theorem dX12_named_7 : decode cX12_named 7 = .ok (.invokevirtual 249, 3) := o182 ac_cX12_named_0 7 0 249 rfl
theorem dX12_named_10 : decode cX12_named 10 = .ok (.iconst 0, 1) := o3 ac_cX12_named_0 10 rfl
theorem dX12_named_11 : decode cX12_named 11 = .ok (.istore_n 2, 1) := o61 ac_cX12_named_0 11 rfl
theorem dX12_named_12 : decode cX12_named 12 = .ok (.iload_n 2, 1) := o28 ac_cX12_named_0 12 rfl
theorem dX12_named_13 : decode cX12_named 13 = .ok (.aload_n 0, 1) := o42 ac_cX12_named_0 13 rfl
theorem dX12_named_14 : decode cX12_named 14 = .ok (.getfield 227, 3) := o180 ac_cX12_named_0 14 0 227 rfl
def kb_cX12_named_16 : List Nat := [227, 162, 0, 38, 42, 180, 0, 191, 154, 0, 31, 42, 180, 0, 40, 28, 47, 42, 180, 0]
theorem ac_cX12_named_16 : AL cX12_named 16 kb_cX12_named_16 := AL.of (m := 20) (by decide +kernel)
theorem dX12_named_17 : decode cX12_named 17 = .ok (.if_icmp .ge 38, 3) := o162p ac_cX12_named_16 1 0 38 rfl rfl
theorem dX12_named_20 : decode cX12_named 20 = .ok (.aload_n 0, 1) := o42 ac_cX12_named_16 4 rfl
theorem dX12_named_21 : decode cX12_named 21 = .ok (.getfield 191, 3) := o180 ac_cX12_named_16 5 0 191 rfl
theorem dX12_named_24 : decode cX12_named 24 = .ok (.ifCond .ne 31, 3) := o154p ac_cX12_named_16 8 0 31 rfl rfl
theorem dX12_named_27 : decode cX12_named 27 = .ok (.aload_n 0, 1) := o42 ac_cX12_named_16 11 rfl
theorem dX12_named_28 : decode cX12_named 28 = .ok (.getfield 40, 3) := o180 ac_cX12_named_16 12 0 40 rfl
theorem dX12_named_31 : decode cX12_named 31 = .ok (.iload_n 2, 1) := o28 ac_cX12_named_16 15 rfl
def kb_cX12_named_32 : List Nat := [47, 42, 180, 0, 30, 27, 47, 148, 154, 0, 9, 42, 6, 27, 182, 1, 12, 132, 2, 1]
theorem ac_cX12_named_32 : AL cX12_named 32 kb_cX12_named_32 := AL.of (m := 20) (by decide +kernel)
theorem dX12_named_32 : decode cX12_named 32 = .ok (.laload, 1) := o47 ac_cX12_named_32 0 rfl
theorem dX12_named_33 : decode cX12_named 33 = .ok (.aload_n 0, 1) := o42 ac_cX12_named_32 1 rfl
theorem dX12_named_34 : decode cX12_named 34 = .ok (.getfield 30, 3) := o180 ac_cX12_named_32 2 0 30 rfl
theorem dX12_named_37 : decode cX12_named 37 = .ok (.iload_n 1, 1) := o27 ac_cX12_named_32 5 rfl
theorem dX12_named_38 : decode cX12_named 38 = .ok (.laload, 1) := o47 ac_cX12_named_32 6 rfl
theorem dX12_named_39 : decode cX12_named 39 = .ok (.lcmp, 1) := o148 ac_cX12_named_32 7 rfl
theorem dX12_named_40 : decode cX12_named 40 = .ok (.ifCond .ne 9, 3) := o154p ac_cX12_named_32 8 0 9 rfl rfl
theorem dX12_named_43 : decode cX12_named 43 = .ok (.aload_n 0, 1) := o42 ac_cX12_named_32 11 rfl
theorem dX12_named_44 : decode cX12_named 44 = .ok (.iconst 3, 1) := o6 ac_cX12_named_32 12 rfl
theorem dX12_named_45 : decode cX12_named 45 = .ok (.iload_n 1, 1) := o27 ac_cX12_named_32 13 rfl
theorem dX12_named_46 : decode cX12_named 46 = .ok (.invokevirtual 268, 3) := o182 ac_cX12_named_32 14 1 12 rfl
def kb_cX12_named_48 : List Nat := [12, 132, 2, 1, 167, 255, 216, 27, 172]
theorem ac_cX12_named_48 : AL cX12_named 48 kb_cX12_named_48 := AL.of (m := 9) (by decide +kernel)
theorem dX12_named_49 : decode cX12_named 49 = .ok (.iinc 2 1, 3) := o132p ac_cX12_named_48 1 2 1 rfl rfl
theorem dX12_named_52 : decode cX12_named 52 = .ok (.goto (-40), 3) := o167n ac_cX12_named_48 4 255 216 39 rfl rfl rfl
theorem dX12_named_55 : decode cX12_named 55 = .ok (.iload_n 1, 1) := o27 ac_cX12_named_48 7 rfl
theorem dX12_named_56 : decode cX12_named 56 = .ok (.ireturn, 1) := o172 ac_cX12_named_48 8 rfl
def kb_cX12_isLetter_0 : List Nat := [26, 16, 97, 161, 0, 13, 26, 16, 122, 163, 0, 7, 4, 167, 0, 4, 3, 172]
theorem ac_cX12_isLetter_0 : AL cX12_isLetter 0 kb_cX12_isLetter_0 := AL.of (m := 18) (by decide +kernel)
theorem dX12_isLetter_0 : decode cX12_isLetter 0 = .ok (.iload_n 0, 1) := o26 ac_cX12_isLetter_0 0 rfl
theorem dX12_isLetter_1 : decode cX12_isLetter 1 = .ok (.bipush 97, 2) := o16p ac_cX12_isLetter_0 1 97 rfl rfl
theorem dX12_isLetter_3 : decode cX12_isLetter 3 = .ok (.if_icmp .lt 13, 3) := o161p ac_cX12_isLetter_0 3 0 13 rfl rfl
theorem dX12_isLetter_6 : decode cX12_isLetter 6 = .ok (.iload_n 0, 1) := o26 ac_cX12_isLetter_0 6 rfl
theorem dX12_isLetter_7 : decode cX12_isLetter 7 = .ok (.bipush 122, 2) := o16p ac_cX12_isLetter_0 7 122 rfl rfl
theorem dX12_isLetter_9 : decode cX12_isLetter 9 = .ok (.if_icmp .gt 7, 3) := o163p ac_cX12_isLetter_0 9 0 7 rfl rfl
theorem dX12_isLetter_12 : decode cX12_isLetter 12 = .ok (.iconst 1, 1) := o4 ac_cX12_isLetter_0 12 rfl
theorem dX12_isLetter_13 : decode cX12_isLetter 13 = .ok (.goto 4, 3) := o167p ac_cX12_isLetter_0 13 0 4 rfl rfl
def kb_cX12_isLetter_16 : List Nat := [3, 172]
theorem ac_cX12_isLetter_16 : AL cX12_isLetter 16 kb_cX12_isLetter_16 := AL.of (m := 2) (by decide +kernel)
theorem dX12_isLetter_16 : decode cX12_isLetter 16 = .ok (.iconst 0, 1) := o3 ac_cX12_isLetter_16 0 rfl
theorem dX12_isLetter_17 : decode cX12_isLetter 17 = .ok (.ireturn, 1) := o172 ac_cX12_isLetter_16 1 rfl
def kb_cX12_isDigit_0 : List Nat := [26, 16, 48, 161, 0, 13, 26, 16, 57, 163, 0, 7, 4, 167, 0, 4, 3, 172]
theorem ac_cX12_isDigit_0 : AL cX12_isDigit 0 kb_cX12_isDigit_0 := AL.of (m := 18) (by decide +kernel)
theorem dX12_isDigit_0 : decode cX12_isDigit 0 = .ok (.iload_n 0, 1) := o26 ac_cX12_isDigit_0 0 rfl
theorem dX12_isDigit_1 : decode cX12_isDigit 1 = .ok (.bipush 48, 2) := o16p ac_cX12_isDigit_0 1 48 rfl rfl
theorem dX12_isDigit_3 : decode cX12_isDigit 3 = .ok (.if_icmp .lt 13, 3) := o161p ac_cX12_isDigit_0 3 0 13 rfl rfl
theorem dX12_isDigit_6 : decode cX12_isDigit 6 = .ok (.iload_n 0, 1) := o26 ac_cX12_isDigit_0 6 rfl
theorem dX12_isDigit_7 : decode cX12_isDigit 7 = .ok (.bipush 57, 2) := o16p ac_cX12_isDigit_0 7 57 rfl rfl
theorem dX12_isDigit_9 : decode cX12_isDigit 9 = .ok (.if_icmp .gt 7, 3) := o163p ac_cX12_isDigit_0 9 0 7 rfl rfl
theorem dX12_isDigit_12 : decode cX12_isDigit 12 = .ok (.iconst 1, 1) := o4 ac_cX12_isDigit_0 12 rfl
theorem dX12_isDigit_13 : decode cX12_isDigit 13 = .ok (.goto 4, 3) := o167p ac_cX12_isDigit_0 13 0 4 rfl rfl
def kb_cX12_isDigit_16 : List Nat := [3, 172]
theorem ac_cX12_isDigit_16 : AL cX12_isDigit 16 kb_cX12_isDigit_16 := AL.of (m := 2) (by decide +kernel)
theorem dX12_isDigit_16 : decode cX12_isDigit 16 = .ok (.iconst 0, 1) := o3 ac_cX12_isDigit_16 0 rfl
theorem dX12_isDigit_17 : decode cX12_isDigit 17 = .ok (.ireturn, 1) := o172 ac_cX12_isDigit_16 1 rfl
def kb_cX12_sign_0 : List Nat := [28, 16, 59, 160, 0, 7, 7, 167, 0, 36, 28, 16, 61, 160, 0, 7, 8, 167, 0, 26]
theorem ac_cX12_sign_0 : AL cX12_sign 0 kb_cX12_sign_0 := AL.of (m := 20) (by decide +kernel)
theorem dX12_sign_0 : decode cX12_sign 0 = .ok (.iload_n 2, 1) := o28 ac_cX12_sign_0 0 rfl
theorem dX12_sign_1 : decode cX12_sign 1 = .ok (.bipush 59, 2) := o16p ac_cX12_sign_0 1 59 rfl rfl
theorem dX12_sign_3 : decode cX12_sign 3 = .ok (.if_icmp .ne 7, 3) := o160p ac_cX12_sign_0 3 0 7 rfl rfl
theorem dX12_sign_6 : decode cX12_sign 6 = .ok (.iconst 4, 1) := o7 ac_cX12_sign_0 6 rfl
theorem dX12_sign_7 : decode cX12_sign 7 = .ok (.goto 36, 3) := o167p ac_cX12_sign_0 7 0 36 rfl rfl
theorem dX12_sign_10 : decode cX12_sign 10 = .ok (.iload_n 2, 1) := o28 ac_cX12_sign_0 10 rfl
theorem dX12_sign_11 : decode cX12_sign 11 = .ok (.bipush 61, 2) := o16p ac_cX12_sign_0 11 61 rfl rfl
theorem dX12_sign_13 : decode cX12_sign 13 = .ok (.if_icmp .ne 7, 3) := o160p ac_cX12_sign_0 13 0 7 rfl rfl
def kb_cX12_sign_16 : List Nat := [8, 167, 0, 26, 28, 16, 40, 160, 0, 8, 16, 6, 167, 0, 15, 28, 16, 41, 160, 0]
theorem ac_cX12_sign_16 : AL cX12_sign 16 kb_cX12_sign_16 := AL.of (m := 20) (by decide +kernel)
theorem dX12_sign_16 : decode cX12_sign 16 = .ok (.iconst 5, 1) := o8 ac_cX12_sign_16 0 rfl
theorem dX12_sign_17 : decode cX12_sign 17 = .ok (.goto 26, 3) := o167p ac_cX12_sign_16 1 0 26 rfl rfl
theorem dX12_sign_20 : decode cX12_sign 20 = .ok (.iload_n 2, 1) := o28 ac_cX12_sign_16 4 rfl
theorem dX12_sign_21 : decode cX12_sign 21 = .ok (.bipush 40, 2) := o16p ac_cX12_sign_16 5 40 rfl rfl
theorem dX12_sign_23 : decode cX12_sign 23 = .ok (.if_icmp .ne 8, 3) := o160p ac_cX12_sign_16 7 0 8 rfl rfl
theorem dX12_sign_26 : decode cX12_sign 26 = .ok (.bipush 6, 2) := o16p ac_cX12_sign_16 10 6 rfl rfl
theorem dX12_sign_28 : decode cX12_sign 28 = .ok (.goto 15, 3) := o167p ac_cX12_sign_16 12 0 15 rfl rfl
theorem dX12_sign_31 : decode cX12_sign 31 = .ok (.iload_n 2, 1) := o28 ac_cX12_sign_16 15 rfl
def kb_cX12_sign_32 : List Nat := [16, 41, 160, 0, 8, 16, 7, 167, 0, 4, 6, 54, 4, 28, 16, 43, 160, 0, 7, 16]
theorem ac_cX12_sign_32 : AL cX12_sign 32 kb_cX12_sign_32 := AL.of (m := 20) (by decide +kernel)
theorem dX12_sign_32 : decode cX12_sign 32 = .ok (.bipush 41, 2) := o16p ac_cX12_sign_32 0 41 rfl rfl
theorem dX12_sign_34 : decode cX12_sign 34 = .ok (.if_icmp .ne 8, 3) := o160p ac_cX12_sign_32 2 0 8 rfl rfl
theorem dX12_sign_37 : decode cX12_sign 37 = .ok (.bipush 7, 2) := o16p ac_cX12_sign_32 5 7 rfl rfl
theorem dX12_sign_39 : decode cX12_sign 39 = .ok (.goto 4, 3) := o167p ac_cX12_sign_32 7 0 4 rfl rfl
theorem dX12_sign_42 : decode cX12_sign 42 = .ok (.iconst 3, 1) := o6 ac_cX12_sign_32 10 rfl
theorem dX12_sign_43 : decode cX12_sign 43 = .ok (.istore 4, 2) := o54 ac_cX12_sign_32 11 4 rfl
theorem dX12_sign_45 : decode cX12_sign 45 = .ok (.iload_n 2, 1) := o28 ac_cX12_sign_32 13 rfl
theorem dX12_sign_46 : decode cX12_sign 46 = .ok (.bipush 43, 2) := o16p ac_cX12_sign_32 14 43 rfl rfl
def kb_cX12_sign_48 : List Nat := [160, 0, 7, 16, 8, 54, 4, 28, 16, 45, 160, 0, 7, 16, 9, 54, 4, 28, 16, 42]
theorem ac_cX12_sign_48 : AL cX12_sign 48 kb_cX12_sign_48 := AL.of (m := 20) (by decide +kernel)
theorem dX12_sign_48 : decode cX12_sign 48 = .ok (.if_icmp .ne 7, 3) := o160p ac_cX12_sign_48 0 0 7 rfl rfl
theorem dX12_sign_51 : decode cX12_sign 51 = .ok (.bipush 8, 2) := o16p ac_cX12_sign_48 3 8 rfl rfl
theorem dX12_sign_53 : decode cX12_sign 53 = .ok (.istore 4, 2) := o54 ac_cX12_sign_48 5 4 rfl
theorem dX12_sign_55 : decode cX12_sign 55 = .ok (.iload_n 2, 1) := o28 ac_cX12_sign_48 7 rfl
theorem dX12_sign_56 : decode cX12_sign 56 = .ok (.bipush 45, 2) := o16p ac_cX12_sign_48 8 45 rfl rfl
theorem dX12_sign_58 : decode cX12_sign 58 = .ok (.if_icmp .ne 7, 3) := o160p ac_cX12_sign_48 10 0 7 rfl rfl
theorem dX12_sign_61 : decode cX12_sign 61 = .ok (.bipush 9, 2) := o16p ac_cX12_sign_48 13 9 rfl rfl
theorem dX12_sign_63 : decode cX12_sign 63 = .ok (.istore 4, 2) := o54 ac_cX12_sign_48 15 4 rfl
def kb_cX12_sign_64 : List Nat := [4, 28, 16, 42, 160, 0, 7, 16, 10, 54, 4, 28, 16, 47, 160, 0, 7, 16, 15, 54]
theorem ac_cX12_sign_64 : AL cX12_sign 64 kb_cX12_sign_64 := AL.of (m := 20) (by decide +kernel)
theorem dX12_sign_65 : decode cX12_sign 65 = .ok (.iload_n 2, 1) := o28 ac_cX12_sign_64 1 rfl
theorem dX12_sign_66 : decode cX12_sign 66 = .ok (.bipush 42, 2) := o16p ac_cX12_sign_64 2 42 rfl rfl
theorem dX12_sign_68 : decode cX12_sign 68 = .ok (.if_icmp .ne 7, 3) := o160p ac_cX12_sign_64 4 0 7 rfl rfl
theorem dX12_sign_71 : decode cX12_sign 71 = .ok (.bipush 10, 2) := o16p ac_cX12_sign_64 7 10 rfl rfl
theorem dX12_sign_73 : decode cX12_sign 73 = .ok (.istore 4, 2) := o54 ac_cX12_sign_64 9 4 rfl
theorem dX12_sign_75 : decode cX12_sign 75 = .ok (.iload_n 2, 1) := o28 ac_cX12_sign_64 11 rfl
theorem dX12_sign_76 : decode cX12_sign 76 = .ok (.bipush 47, 2) := o16p ac_cX12_sign_64 12 47 rfl rfl
theorem dX12_sign_78 : decode cX12_sign 78 = .ok (.if_icmp .ne 7, 3) := o160p ac_cX12_sign_64 14 0 7 rfl rfl
def kb_cX12_sign_80 : List Nat := [7, 16, 15, 54, 4, 28, 16, 60, 160, 0, 7, 16, 13, 54, 4, 42, 21, 4, 27, 3]
theorem ac_cX12_sign_80 : AL cX12_sign 80 kb_cX12_sign_80 := AL.of (m := 20) (by decide +kernel)
theorem dX12_sign_81 : decode cX12_sign 81 = .ok (.bipush 15, 2) := o16p ac_cX12_sign_80 1 15 rfl rfl
theorem dX12_sign_83 : decode cX12_sign 83 = .ok (.istore 4, 2) := o54 ac_cX12_sign_80 3 4 rfl
theorem dX12_sign_85 : decode cX12_sign 85 = .ok (.iload_n 2, 1) := o28 ac_cX12_sign_80 5 rfl
theorem dX12_sign_86 : decode cX12_sign 86 = .ok (.bipush 60, 2) := o16p ac_cX12_sign_80 6 60 rfl rfl
theorem dX12_sign_88 : decode cX12_sign 88 = .ok (.if_icmp .ne 7, 3) := o160p ac_cX12_sign_80 8 0 7 rfl rfl
theorem dX12_sign_91 : decode cX12_sign 91 = .ok (.bipush 13, 2) := o16p ac_cX12_sign_80 11 13 rfl rfl
theorem dX12_sign_93 : decode cX12_sign 93 = .ok (.istore 4, 2) := o54 ac_cX12_sign_80 13 4 rfl
theorem dX12_sign_95 : decode cX12_sign 95 = .ok (.aload_n 0, 1) := o42 ac_cX12_sign_80 15 rfl
def kb_cX12_sign_96 : List Nat := [21, 4, 27, 3, 9, 182, 0, 176, 4, 172]
theorem ac_cX12_sign_96 : AL cX12_sign 96 kb_cX12_sign_96 := AL.of (m := 10) (by decide +kernel)
theorem dX12_sign_96 : decode cX12_sign 96 = .ok (.iload 4, 2) := o21 ac_cX12_sign_96 0 4 rfl
theorem dX12_sign_98 : decode cX12_sign 98 = .ok (.iload_n 1, 1) := o27 ac_cX12_sign_96 2 rfl
theorem dX12_sign_99 : decode cX12_sign 99 = .ok (.iconst 0, 1) := o3 ac_cX12_sign_96 3 rfl
theorem dX12_sign_100 : decode cX12_sign 100 = .ok (.lconst 0, 1) := o9 ac_cX12_sign_96 4 rfl
theorem dX12_sign_101 : decode cX12_sign 101 = .ok (.invokevirtual 176, 3) := o182 ac_cX12_sign_96 5 0 176 rfl
theorem dX12_sign_104 : decode cX12_sign 104 = .ok (.iconst 1, 1) := o4 ac_cX12_sign_96 8 rfl
theorem dX12_sign_105 : decode cX12_sign 105 = .ok (.ireturn, 1) := o172 ac_cX12_sign_96 9 rfl
theorem dX12_cut_43 : decode cX12_cut 43 = .ok (.iload_n 2, 1) := o28 ac_cX12_cut_32 11 rfl
theorem dX12_cut_44 : decode cX12_cut 44 = .ok (.bipush 9, 2) := o16p ac_cX12_cut_32 12 9 rfl rfl
theorem dX12_cut_46 : decode cX12_cut 46 = .ok (.if_icmp .eq 21, 3) := o159p ac_cX12_cut_32 14 0 21 rfl rfl
def kb_cX12_cut_48 : List Nat := [21, 28, 16, 10, 159, 0, 15, 28, 16, 13, 159, 0, 9, 28, 16, 32, 160, 0, 9, 132]
theorem ac_cX12_cut_48 : AL cX12_cut 48 kb_cX12_cut_48 := AL.of (m := 20) (by decide +kernel)
theorem dX12_cut_49 : decode cX12_cut 49 = .ok (.iload_n 2, 1) := o28 ac_cX12_cut_48 1 rfl
theorem dX12_cut_50 : decode cX12_cut 50 = .ok (.bipush 10, 2) := o16p ac_cX12_cut_48 2 10 rfl rfl
theorem dX12_cut_52 : decode cX12_cut 52 = .ok (.if_icmp .eq 15, 3) := o159p ac_cX12_cut_48 4 0 15 rfl rfl
theorem dX12_cut_55 : decode cX12_cut 55 = .ok (.iload_n 2, 1) := o28 ac_cX12_cut_48 7 rfl
theorem dX12_cut_56 : decode cX12_cut 56 = .ok (.bipush 13, 2) := o16p ac_cX12_cut_48 8 13 rfl rfl
theorem dX12_cut_58 : decode cX12_cut 58 = .ok (.if_icmp .eq 9, 3) := o159p ac_cX12_cut_48 10 0 9 rfl rfl
theorem dX12_cut_61 : decode cX12_cut 61 = .ok (.iload_n 2, 1) := o28 ac_cX12_cut_48 13 rfl
theorem dX12_cut_62 : decode cX12_cut 62 = .ok (.bipush 32, 2) := o16p ac_cX12_cut_48 14 32 rfl rfl
def kb_cX12_cut_64 : List Nat := [160, 0, 9, 132, 1, 1, 167, 0, 221, 28, 184, 0, 180, 153, 0, 119, 3, 62, 9, 55]
theorem ac_cX12_cut_64 : AL cX12_cut 64 kb_cX12_cut_64 := AL.of (m := 20) (by decide +kernel)
theorem dX12_cut_64 : decode cX12_cut 64 = .ok (.if_icmp .ne 9, 3) := o160p ac_cX12_cut_64 0 0 9 rfl rfl
theorem dX12_cut_67 : decode cX12_cut 67 = .ok (.iinc 1 1, 3) := o132p ac_cX12_cut_64 3 1 1 rfl rfl
theorem dX12_cut_70 : decode cX12_cut 70 = .ok (.goto 221, 3) := o167p ac_cX12_cut_64 6 0 221 rfl rfl
theorem dX12_cut_73 : decode cX12_cut 73 = .ok (.iload_n 2, 1) := o28 ac_cX12_cut_64 9 rfl
theorem dX12_cut_74 : decode cX12_cut 74 = .ok (.invokestatic 180, 3) := o184 ac_cX12_cut_64 10 0 180 rfl
theorem dX12_cut_77 : decode cX12_cut 77 = .ok (.ifCond .eq 119, 3) := o153p ac_cX12_cut_64 13 0 119 rfl rfl
def kb_cX12_cut_80 : List Nat := [3, 62, 9, 55, 4, 42, 27, 29, 96, 182, 0, 172, 184, 0, 180, 153, 0, 29, 29, 16]
theorem ac_cX12_cut_80 : AL cX12_cut 80 kb_cX12_cut_80 := AL.of (m := 20) (by decide +kernel)
theorem dX12_cut_80 : decode cX12_cut 80 = .ok (.iconst 0, 1) := o3 ac_cX12_cut_80 0 rfl
theorem dX12_cut_81 : decode cX12_cut 81 = .ok (.istore_n 3, 1) := o62 ac_cX12_cut_80 1 rfl
theorem dX12_cut_82 : decode cX12_cut 82 = .ok (.lconst 0, 1) := o9 ac_cX12_cut_80 2 rfl
theorem dX12_cut_83 : decode cX12_cut 83 = .ok (.lstore 4, 2) := o55 ac_cX12_cut_80 3 4 rfl
theorem dX12_cut_85 : decode cX12_cut 85 = .ok (.aload_n 0, 1) := o42 ac_cX12_cut_80 5 rfl
theorem dX12_cut_86 : decode cX12_cut 86 = .ok (.iload_n 1, 1) := o27 ac_cX12_cut_80 6 rfl
theorem dX12_cut_87 : decode cX12_cut 87 = .ok (.iload_n 3, 1) := o29 ac_cX12_cut_80 7 rfl
theorem dX12_cut_88 : decode cX12_cut 88 = .ok (.iadd, 1) := o96 ac_cX12_cut_80 8 rfl
theorem dX12_cut_89 : decode cX12_cut 89 = .ok (.invokevirtual 172, 3) := o182 ac_cX12_cut_80 9 0 172 rfl
theorem dX12_cut_92 : decode cX12_cut 92 = .ok (.invokestatic 180, 3) := o184 ac_cX12_cut_80 12 0 180 rfl
theorem dX12_cut_95 : decode cX12_cut 95 = .ok (.ifCond .eq 29, 3) := o153p ac_cX12_cut_80 15 0 29 rfl rfl
def kb_cX12_cut_96 : List Nat := [0, 29, 29, 16, 8, 162, 0, 17, 22, 4, 42, 27, 29, 96, 182, 0, 172, 184, 0, 165]
theorem ac_cX12_cut_96 : AL cX12_cut 96 kb_cX12_cut_96 := AL.of (m := 20) (by decide +kernel)
theorem dX12_cut_98 : decode cX12_cut 98 = .ok (.iload_n 3, 1) := o29 ac_cX12_cut_96 2 rfl
theorem dX12_cut_99 : decode cX12_cut 99 = .ok (.bipush 8, 2) := o16p ac_cX12_cut_96 3 8 rfl rfl
theorem dX12_cut_101 : decode cX12_cut 101 = .ok (.if_icmp .ge 17, 3) := o162p ac_cX12_cut_96 5 0 17 rfl rfl
theorem dX12_cut_104 : decode cX12_cut 104 = .ok (.lload 4, 2) := o22 ac_cX12_cut_96 8 4 rfl
theorem dX12_cut_106 : decode cX12_cut 106 = .ok (.aload_n 0, 1) := o42 ac_cX12_cut_96 10 rfl
theorem dX12_cut_107 : decode cX12_cut 107 = .ok (.iload_n 1, 1) := o27 ac_cX12_cut_96 11 rfl
theorem dX12_cut_108 : decode cX12_cut 108 = .ok (.iload_n 3, 1) := o29 ac_cX12_cut_96 12 rfl
theorem dX12_cut_109 : decode cX12_cut 109 = .ok (.iadd, 1) := o96 ac_cX12_cut_96 13 rfl
theorem dX12_cut_110 : decode cX12_cut 110 = .ok (.invokevirtual 172, 3) := o182 ac_cX12_cut_96 14 0 172 rfl
def kb_cX12_cut_112 : List Nat := [172, 184, 0, 165, 55, 4, 132, 3, 1, 167, 255, 220, 29, 16, 8, 164, 0, 7, 6, 167]
theorem ac_cX12_cut_112 : AL cX12_cut 112 kb_cX12_cut_112 := AL.of (m := 20) (by decide +kernel)
theorem dX12_cut_113 : decode cX12_cut 113 = .ok (.invokestatic 165, 3) := o184 ac_cX12_cut_112 1 0 165 rfl
theorem dX12_cut_116 : decode cX12_cut 116 = .ok (.lstore 4, 2) := o55 ac_cX12_cut_112 4 4 rfl
theorem dX12_cut_118 : decode cX12_cut 118 = .ok (.iinc 3 1, 3) := o132p ac_cX12_cut_112 6 3 1 rfl rfl
theorem dX12_cut_121 : decode cX12_cut 121 = .ok (.goto (-36), 3) := o167n ac_cX12_cut_112 9 255 220 35 rfl rfl rfl
theorem dX12_cut_124 : decode cX12_cut 124 = .ok (.iload_n 3, 1) := o29 ac_cX12_cut_112 12 rfl
theorem dX12_cut_125 : decode cX12_cut 125 = .ok (.bipush 8, 2) := o16p ac_cX12_cut_112 13 8 rfl rfl
theorem dX12_cut_127 : decode cX12_cut 127 = .ok (.if_icmp .le 7, 3) := o164p ac_cX12_cut_112 15 0 7 rfl rfl
def kb_cX12_cut_128 : List Nat := [0, 7, 6, 167, 0, 4, 4, 54, 6, 29, 16, 8, 163, 0, 39, 3, 54, 7, 21, 7]
theorem ac_cX12_cut_128 : AL cX12_cut 128 kb_cX12_cut_128 := AL.of (m := 20) (by decide +kernel)
theorem dX12_cut_130 : decode cX12_cut 130 = .ok (.iconst 3, 1) := o6 ac_cX12_cut_128 2 rfl
theorem dX12_cut_131 : decode cX12_cut 131 = .ok (.goto 4, 3) := o167p ac_cX12_cut_128 3 0 4 rfl rfl
theorem dX12_cut_134 : decode cX12_cut 134 = .ok (.iconst 1, 1) := o4 ac_cX12_cut_128 6 rfl
theorem dX12_cut_135 : decode cX12_cut 135 = .ok (.istore 6, 2) := o54 ac_cX12_cut_128 7 6 rfl
theorem dX12_cut_137 : decode cX12_cut 137 = .ok (.iload_n 3, 1) := o29 ac_cX12_cut_128 9 rfl
theorem dX12_cut_138 : decode cX12_cut 138 = .ok (.bipush 8, 2) := o16p ac_cX12_cut_128 10 8 rfl rfl
theorem dX12_cut_140 : decode cX12_cut 140 = .ok (.if_icmp .gt 39, 3) := o163p ac_cX12_cut_128 12 0 39 rfl rfl
theorem dX12_cut_143 : decode cX12_cut 143 = .ok (.iconst 0, 1) := o3 ac_cX12_cut_128 15 rfl
def kb_cX12_cut_144 : List Nat := [54, 7, 21, 7, 16, 20, 162, 0, 29, 42, 180, 0, 34, 21, 7, 47, 22, 4, 148, 154]
theorem ac_cX12_cut_144 : AL cX12_cut 144 kb_cX12_cut_144 := AL.of (m := 20) (by decide +kernel)
theorem dX12_cut_144 : decode cX12_cut 144 = .ok (.istore 7, 2) := o54 ac_cX12_cut_144 0 7 rfl
theorem dX12_cut_146 : decode cX12_cut 146 = .ok (.iload 7, 2) := o21 ac_cX12_cut_144 2 7 rfl
theorem dX12_cut_148 : decode cX12_cut 148 = .ok (.bipush 20, 2) := o16p ac_cX12_cut_144 4 20 rfl rfl
theorem dX12_cut_150 : decode cX12_cut 150 = .ok (.if_icmp .ge 29, 3) := o162p ac_cX12_cut_144 6 0 29 rfl rfl
theorem dX12_cut_153 : decode cX12_cut 153 = .ok (.aload_n 0, 1) := o42 ac_cX12_cut_144 9 rfl
theorem dX12_cut_154 : decode cX12_cut 154 = .ok (.getfield 34, 3) := o180 ac_cX12_cut_144 10 0 34 rfl
theorem dX12_cut_157 : decode cX12_cut 157 = .ok (.iload 7, 2) := o21 ac_cX12_cut_144 13 7 rfl
theorem dX12_cut_159 : decode cX12_cut 159 = .ok (.laload, 1) := o47 ac_cX12_cut_144 15 rfl
def kb_cX12_cut_160 : List Nat := [22, 4, 148, 154, 0, 10, 16, 20, 21, 7, 96, 54, 6, 132, 7, 1, 167, 255, 226, 42]
theorem ac_cX12_cut_160 : AL cX12_cut 160 kb_cX12_cut_160 := AL.of (m := 20) (by decide +kernel)
theorem dX12_cut_160 : decode cX12_cut 160 = .ok (.lload 4, 2) := o22 ac_cX12_cut_160 0 4 rfl
theorem dX12_cut_162 : decode cX12_cut 162 = .ok (.lcmp, 1) := o148 ac_cX12_cut_160 2 rfl
theorem dX12_cut_163 : decode cX12_cut 163 = .ok (.ifCond .ne 10, 3) := o154p ac_cX12_cut_160 3 0 10 rfl rfl
theorem dX12_cut_166 : decode cX12_cut 166 = .ok (.bipush 20, 2) := o16p ac_cX12_cut_160 6 20 rfl rfl
theorem dX12_cut_168 : decode cX12_cut 168 = .ok (.iload 7, 2) := o21 ac_cX12_cut_160 8 7 rfl
theorem dX12_cut_170 : decode cX12_cut 170 = .ok (.iadd, 1) := o96 ac_cX12_cut_160 10 rfl
theorem dX12_cut_171 : decode cX12_cut 171 = .ok (.istore 6, 2) := o54 ac_cX12_cut_160 11 6 rfl
theorem dX12_cut_173 : decode cX12_cut 173 = .ok (.iinc 7 1, 3) := o132p ac_cX12_cut_160 13 7 1 rfl rfl
def kb_cX12_cut_176 : List Nat := [167, 255, 226, 42, 21, 6, 27, 3, 22, 4, 182, 0, 176, 27, 29, 96, 60, 167, 0, 98]
theorem ac_cX12_cut_176 : AL cX12_cut 176 kb_cX12_cut_176 := AL.of (m := 20) (by decide +kernel)
theorem dX12_cut_176 : decode cX12_cut 176 = .ok (.goto (-30), 3) := o167n ac_cX12_cut_176 0 255 226 29 rfl rfl rfl
theorem dX12_cut_179 : decode cX12_cut 179 = .ok (.aload_n 0, 1) := o42 ac_cX12_cut_176 3 rfl
theorem dX12_cut_180 : decode cX12_cut 180 = .ok (.iload 6, 2) := o21 ac_cX12_cut_176 4 6 rfl
theorem dX12_cut_182 : decode cX12_cut 182 = .ok (.iload_n 1, 1) := o27 ac_cX12_cut_176 6 rfl
theorem dX12_cut_183 : decode cX12_cut 183 = .ok (.iconst 0, 1) := o3 ac_cX12_cut_176 7 rfl
theorem dX12_cut_184 : decode cX12_cut 184 = .ok (.lload 4, 2) := o22 ac_cX12_cut_176 8 4 rfl
theorem dX12_cut_186 : decode cX12_cut 186 = .ok (.invokevirtual 176, 3) := o182 ac_cX12_cut_176 10 0 176 rfl
theorem dX12_cut_189 : decode cX12_cut 189 = .ok (.iload_n 1, 1) := o27 ac_cX12_cut_176 13 rfl
theorem dX12_cut_190 : decode cX12_cut 190 = .ok (.iload_n 3, 1) := o29 ac_cX12_cut_176 14 rfl
theorem dX12_cut_191 : decode cX12_cut 191 = .ok (.iadd, 1) := o96 ac_cX12_cut_176 15 rfl
def kb_cX12_cut_192 : List Nat := [60, 167, 0, 98, 28, 184, 0, 184, 153, 0, 75, 3, 62, 3, 54, 4, 42, 27, 29, 96]
theorem ac_cX12_cut_192 : AL cX12_cut 192 kb_cX12_cut_192 := AL.of (m := 20) (by decide +kernel)
theorem dX12_cut_192 : decode cX12_cut 192 = .ok (.istore_n 1, 1) := o60 ac_cX12_cut_192 0 rfl
theorem dX12_cut_193 : decode cX12_cut 193 = .ok (.goto 98, 3) := o167p ac_cX12_cut_192 1 0 98 rfl rfl
theorem dX12_cut_196 : decode cX12_cut 196 = .ok (.iload_n 2, 1) := o28 ac_cX12_cut_192 4 rfl
theorem dX12_cut_197 : decode cX12_cut 197 = .ok (.invokestatic 184, 3) := o184 ac_cX12_cut_192 5 0 184 rfl
theorem dX12_cut_200 : decode cX12_cut 200 = .ok (.ifCond .eq 75, 3) := o153p ac_cX12_cut_192 8 0 75 rfl rfl
theorem dX12_cut_203 : decode cX12_cut 203 = .ok (.iconst 0, 1) := o3 ac_cX12_cut_192 11 rfl
theorem dX12_cut_204 : decode cX12_cut 204 = .ok (.istore_n 3, 1) := o62 ac_cX12_cut_192 12 rfl
theorem dX12_cut_205 : decode cX12_cut 205 = .ok (.iconst 0, 1) := o3 ac_cX12_cut_192 13 rfl
theorem dX12_cut_206 : decode cX12_cut 206 = .ok (.istore 4, 2) := o54 ac_cX12_cut_192 14 4 rfl
def kb_cX12_cut_208 : List Nat := [42, 27, 29, 96, 182, 0, 172, 184, 0, 184, 153, 0, 32, 29, 7, 162, 0, 21, 16, 10]
theorem ac_cX12_cut_208 : AL cX12_cut 208 kb_cX12_cut_208 := AL.of (m := 20) (by decide +kernel)
theorem dX12_cut_208 : decode cX12_cut 208 = .ok (.aload_n 0, 1) := o42 ac_cX12_cut_208 0 rfl
theorem dX12_cut_209 : decode cX12_cut 209 = .ok (.iload_n 1, 1) := o27 ac_cX12_cut_208 1 rfl
theorem dX12_cut_210 : decode cX12_cut 210 = .ok (.iload_n 3, 1) := o29 ac_cX12_cut_208 2 rfl
theorem dX12_cut_211 : decode cX12_cut 211 = .ok (.iadd, 1) := o96 ac_cX12_cut_208 3 rfl
theorem dX12_cut_212 : decode cX12_cut 212 = .ok (.invokevirtual 172, 3) := o182 ac_cX12_cut_208 4 0 172 rfl
theorem dX12_cut_215 : decode cX12_cut 215 = .ok (.invokestatic 184, 3) := o184 ac_cX12_cut_208 7 0 184 rfl
theorem dX12_cut_218 : decode cX12_cut 218 = .ok (.ifCond .eq 32, 3) := o153p ac_cX12_cut_208 10 0 32 rfl rfl
theorem dX12_cut_221 : decode cX12_cut 221 = .ok (.iload_n 3, 1) := o29 ac_cX12_cut_208 13 rfl
theorem dX12_cut_222 : decode cX12_cut 222 = .ok (.iconst 4, 1) := o7 ac_cX12_cut_208 14 rfl
theorem dX12_cut_223 : decode cX12_cut 223 = .ok (.if_icmp .ge 21, 3) := o162p ac_cX12_cut_208 15 0 21 rfl rfl
def kb_cX12_cut_224 : List Nat := [0, 21, 16, 10, 21, 4, 104, 42, 27, 29, 96, 182, 0, 172, 96, 16, 48, 100, 54, 4]
theorem ac_cX12_cut_224 : AL cX12_cut 224 kb_cX12_cut_224 := AL.of (m := 20) (by decide +kernel)
theorem dX12_cut_226 : decode cX12_cut 226 = .ok (.bipush 10, 2) := o16p ac_cX12_cut_224 2 10 rfl rfl
theorem dX12_cut_228 : decode cX12_cut 228 = .ok (.iload 4, 2) := o21 ac_cX12_cut_224 4 4 rfl
theorem dX12_cut_230 : decode cX12_cut 230 = .ok (.imul, 1) := o104 ac_cX12_cut_224 6 rfl
theorem dX12_cut_231 : decode cX12_cut 231 = .ok (.aload_n 0, 1) := o42 ac_cX12_cut_224 7 rfl
theorem dX12_cut_232 : decode cX12_cut 232 = .ok (.iload_n 1, 1) := o27 ac_cX12_cut_224 8 rfl
theorem dX12_cut_233 : decode cX12_cut 233 = .ok (.iload_n 3, 1) := o29 ac_cX12_cut_224 9 rfl
theorem dX12_cut_234 : decode cX12_cut 234 = .ok (.iadd, 1) := o96 ac_cX12_cut_224 10 rfl
theorem dX12_cut_235 : decode cX12_cut 235 = .ok (.invokevirtual 172, 3) := o182 ac_cX12_cut_224 11 0 172 rfl
theorem dX12_cut_238 : decode cX12_cut 238 = .ok (.iadd, 1) := o96 ac_cX12_cut_224 14 rfl
theorem dX12_cut_239 : decode cX12_cut 239 = .ok (.bipush 48, 2) := o16p ac_cX12_cut_224 15 48 rfl rfl
def kb_cX12_cut_240 : List Nat := [48, 100, 54, 4, 132, 3, 1, 167, 255, 217, 42, 29, 7, 164, 0, 7, 6, 167, 0, 4]
theorem ac_cX12_cut_240 : AL cX12_cut 240 kb_cX12_cut_240 := AL.of (m := 20) (by decide +kernel)
theorem dX12_cut_241 : decode cX12_cut 241 = .ok (.isub, 1) := o100 ac_cX12_cut_240 1 rfl
theorem dX12_cut_242 : decode cX12_cut 242 = .ok (.istore 4, 2) := o54 ac_cX12_cut_240 2 4 rfl
theorem dX12_cut_244 : decode cX12_cut 244 = .ok (.iinc 3 1, 3) := o132p ac_cX12_cut_240 4 3 1 rfl rfl
theorem dX12_cut_247 : decode cX12_cut 247 = .ok (.goto (-39), 3) := o167n ac_cX12_cut_240 7 255 217 38 rfl rfl rfl
theorem dX12_cut_250 : decode cX12_cut 250 = .ok (.aload_n 0, 1) := o42 ac_cX12_cut_240 10 rfl
theorem dX12_cut_251 : decode cX12_cut 251 = .ok (.iload_n 3, 1) := o29 ac_cX12_cut_240 11 rfl
theorem dX12_cut_252 : decode cX12_cut 252 = .ok (.iconst 4, 1) := o7 ac_cX12_cut_240 12 rfl
theorem dX12_cut_253 : decode cX12_cut 253 = .ok (.if_icmp .le 7, 3) := o164p ac_cX12_cut_240 13 0 7 rfl rfl
def kb_cX12_cut_256 : List Nat := [6, 167, 0, 4, 5, 27, 21, 4, 9, 182, 0, 176, 27, 29, 96, 60, 167, 0, 19, 27]
theorem ac_cX12_cut_256 : AL cX12_cut 256 kb_cX12_cut_256 := AL.of (m := 20) (by decide +kernel)
theorem dX12_cut_256 : decode cX12_cut 256 = .ok (.iconst 3, 1) := o6 ac_cX12_cut_256 0 rfl
theorem dX12_cut_257 : decode cX12_cut 257 = .ok (.goto 4, 3) := o167p ac_cX12_cut_256 1 0 4 rfl rfl
theorem dX12_cut_260 : decode cX12_cut 260 = .ok (.iconst 2, 1) := o5 ac_cX12_cut_256 4 rfl
theorem dX12_cut_261 : decode cX12_cut 261 = .ok (.iload_n 1, 1) := o27 ac_cX12_cut_256 5 rfl
theorem dX12_cut_262 : decode cX12_cut 262 = .ok (.iload 4, 2) := o21 ac_cX12_cut_256 6 4 rfl
theorem dX12_cut_264 : decode cX12_cut 264 = .ok (.lconst 0, 1) := o9 ac_cX12_cut_256 8 rfl
theorem dX12_cut_265 : decode cX12_cut 265 = .ok (.invokevirtual 176, 3) := o182 ac_cX12_cut_256 9 0 176 rfl
theorem dX12_cut_268 : decode cX12_cut 268 = .ok (.iload_n 1, 1) := o27 ac_cX12_cut_256 12 rfl
theorem dX12_cut_269 : decode cX12_cut 269 = .ok (.iload_n 3, 1) := o29 ac_cX12_cut_256 13 rfl
theorem dX12_cut_270 : decode cX12_cut 270 = .ok (.iadd, 1) := o96 ac_cX12_cut_256 14 rfl
theorem dX12_cut_271 : decode cX12_cut 271 = .ok (.istore_n 1, 1) := o60 ac_cX12_cut_256 15 rfl
def kb_cX12_cut_272 : List Nat := [167, 0, 19, 27, 42, 27, 28, 42, 27, 4, 96, 182, 0, 172, 182, 0, 187, 96, 60, 167]
theorem ac_cX12_cut_272 : AL cX12_cut 272 kb_cX12_cut_272 := AL.of (m := 20) (by decide +kernel)
theorem dX12_cut_272 : decode cX12_cut 272 = .ok (.goto 19, 3) := o167p ac_cX12_cut_272 0 0 19 rfl rfl
theorem dX12_cut_275 : decode cX12_cut 275 = .ok (.iload_n 1, 1) := o27 ac_cX12_cut_272 3 rfl
theorem dX12_cut_276 : decode cX12_cut 276 = .ok (.aload_n 0, 1) := o42 ac_cX12_cut_272 4 rfl
theorem dX12_cut_277 : decode cX12_cut 277 = .ok (.iload_n 1, 1) := o27 ac_cX12_cut_272 5 rfl
theorem dX12_cut_278 : decode cX12_cut 278 = .ok (.iload_n 2, 1) := o28 ac_cX12_cut_272 6 rfl
theorem dX12_cut_279 : decode cX12_cut 279 = .ok (.aload_n 0, 1) := o42 ac_cX12_cut_272 7 rfl
theorem dX12_cut_280 : decode cX12_cut 280 = .ok (.iload_n 1, 1) := o27 ac_cX12_cut_272 8 rfl
theorem dX12_cut_281 : decode cX12_cut 281 = .ok (.iconst 1, 1) := o4 ac_cX12_cut_272 9 rfl
theorem dX12_cut_282 : decode cX12_cut 282 = .ok (.iadd, 1) := o96 ac_cX12_cut_272 10 rfl
theorem dX12_cut_283 : decode cX12_cut 283 = .ok (.invokevirtual 172, 3) := o182 ac_cX12_cut_272 11 0 172 rfl
theorem dX12_cut_286 : decode cX12_cut 286 = .ok (.invokevirtual 187, 3) := o182 ac_cX12_cut_272 14 0 187 rfl
def kb_cX12_cut_288 : List Nat := [187, 96, 60, 167, 254, 228, 177]
theorem ac_cX12_cut_288 : AL cX12_cut 288 kb_cX12_cut_288 := AL.of (m := 7) (by decide +kernel)
theorem dX12_cut_289 : decode cX12_cut 289 = .ok (.iadd, 1) := o96 ac_cX12_cut_288 1 rfl
theorem dX12_cut_290 : decode cX12_cut 290 = .ok (.istore_n 1, 1) := o60 ac_cX12_cut_288 2 rfl
theorem dX12_cut_291 : decode cX12_cut 291 = .ok (.goto (-284), 3) := o167n ac_cX12_cut_288 3 254 228 283 rfl rfl rfl
theorem dX12_cut_294 : decode cX12_cut 294 = .ok (.return_, 1) := o177 ac_cX12_cut_288 6 rfl
/-! the text in force while another is read -/
def AGq (n : Nat) (s σ : HS) : Prop := σ.1 249 n = s.1 249 n ∧ (∀ p, p < 5 → σ.1 250 (5 * n + p) = s.1 250 (5 * n + p)) ∧ (∀ k, k < 4 → σ.1 254 (4 * n + k) = s.1 254 (4 * n + k) ∧ σ.1 255 (4 * n + k) = s.1 255 (4 * n + k)) ∧ (∀ q, 130 * n ≤ q → q < 130 * n + 130 → σ.1 256 q = s.1 256 q ∧ σ.1 257 q = s.1 257 q ∧ σ.1 258 q = s.1 258 q ∧ σ.1 259 q = s.1 259 q ∧ σ.1 260 q = s.1 260 q) ∧ (∀ c, 420 * n ≤ c → c < 420 * n + 420 → σ.1 261 c = s.1 261 c ∧ σ.1 262 c = s.1 262 c)
def AGm (s σ : HS) : Prop := (σ.1 236 18 = s.1 236 18 ∧ σ.1 236 54 = s.1 236 54 ∧ σ.1 267 21 = s.1 267 21 ∧ σ.1 267 26 = s.1 267 26 ∧ σ.1 267 27 = s.1 267 27 ∧ σ.1 266 = s.1 266 ∧ σ.1 268 = s.1 268 ∧ σ.1 275 = s.1 275 ∧ σ.1 276 = s.1 276) ∧ AGq (s.1 236 18).toInt.toNat s σ
theorem AGm.rf {s : HS} : AGm s s := ⟨⟨rfl, rfl, rfl, rfl, rfl, rfl, rfl, rfl, rfl⟩, rfl, fun _ _ => rfl, fun _ _ => ⟨rfl, rfl⟩, fun _ _ _ => ⟨rfl, rfl, rfl, rfl, rfl⟩, fun _ _ _ => ⟨rfl, rfl⟩⟩
theorem dep_cong {cd cd1 : Nat → Int32} {u : Nat} : ∀ n, (∀ j, j < n → cd1 (u + j) = cd (u + j)) → dep cd1 u n = dep cd u n := by
  intro n
  induction n with
  | zero => intro _; rfl
  | succ n ih =>
    intro h
    show dep cd1 u n + (if (cd1 (u + n)).toInt < 2 then 1 else -1) = dep cd u n + (if (cd (u + n)).toInt < 2 then 1 else -1)
    rw [ih (fun j hj => h j (by omega)), h n (by omega)]
theorem SGm.cong {cd ci cd1 ci1 : Nat → Int32} {u v : Int32} (h : SGm cd ci u v) (e : ∀ c : Nat, u.toInt ≤ c → (c : Int) < v.toInt → cd1 c = cd c ∧ ci1 c = ci c) : SGm cd1 ci1 u v := by
  refine ⟨h.1, h.2.1, h.2.2.1, fun c h1 h2 => ?_⟩
  have hu := h.1.1
  rw [(e c h1 h2).1, (e c h1 h2).2, dep_cong (cd := cd) (c - u.toInt.toNat) (fun j hj => (e _ (by omega) (by omega)).1)]
  exact h.2.2.2 c h1 h2
theorem LWq.cong {n : Nat} {s σ : HS} (h : LWq n (s.1 254) (s.1 255) (s.1 256) (s.1 257) (s.1 258) (s.1 259) (s.1 260) (s.1 261) (s.1 262)) (a : AGq n s σ) : LWq n (σ.1 254) (σ.1 255) (σ.1 256) (σ.1 257) (σ.1 258) (σ.1 259) (σ.1 260) (σ.1 261) (σ.1 262) := by
  intro k hk
  rw [(a.2.2.1 k hk).1, (a.2.2.1 k hk).2]
  refine ⟨(h k hk).1, (h k hk).2.1, fun q h1 h2 => ?_⟩
  obtain ⟨hb, hr⟩ := (h k hk).2.2 q h1 h2
  obtain ⟨e1, e2, e3, e4, e5⟩ := a.2.2.2.1 q hr.1 hr.2.1
  unfold BRq at hb ⊢
  rw [e1, e2, e3, e4, e5]
  obtain ⟨r1, r2, r3, r4, r5⟩ := hr
  refine ⟨⟨fun hn => ⟨(hb.1 hn).1.cong (fun c c1 c2 => a.2.2.2.2 c ?_ ?_), (hb.1 hn).2.cong (fun c c1 c2 => a.2.2.2.2 c ?_ ?_)⟩, hb.2.cong (fun c c1 c2 => a.2.2.2.2 c ?_ ?_)⟩, r1, r2, r3, r4, r5⟩
  · have := r3 hn; omega
  · have := r3 hn; omega
  · have := r3 hn; omega
  · have := r3 hn; omega
  · omega
  · omega
theorem AGm.W {s σ : HS} {i k : Nat} {v : Int32} (h : AGm s σ) (hi : i ∉ [236, 266, 267, 268, 275, 276]) (h1 : i = 249 → k ≠ (s.1 236 18).toInt.toNat) (h2 : i = 250 → k < 5 * (s.1 236 18).toInt.toNat ∨ 5 * (s.1 236 18).toInt.toNat + 5 ≤ k) (h3 : (i = 254 ∨ i = 255) → k < 4 * (s.1 236 18).toInt.toNat ∨ 4 * (s.1 236 18).toInt.toNat + 4 ≤ k) (h4 : (256 ≤ i ∧ i ≤ 260) → k < 130 * (s.1 236 18).toInt.toNat ∨ 130 * (s.1 236 18).toInt.toNat + 130 ≤ k) (h5 : (i = 261 ∨ i = 262) → k < 420 * (s.1 236 18).toInt.toNat ∨ 420 * (s.1 236 18).toInt.toNat + 420 ≤ k) : AGm s (hI σ i k v) := by
  have e : ∀ a j, ¬ (a = i ∧ j = k) → (hI σ i k v).1 a j = σ.1 a j := fun a j hn => (hI_at (σ := σ) (i := i) (k := k) (v := v) a j).elim (fun q => absurd ⟨q.1, q.2.1⟩ hn) id
  have c : ∀ a, a ∈ [236, 266, 267, 268, 275, 276] → (hI σ i k v).1 a = σ.1 a := fun a ha => funext fun j => e a j (fun q => hi (q.1 ▸ ha))
  obtain ⟨⟨a1, a2, a3, a4, a5, a6, a7, a8, a9⟩, b1, b2, b3, b4, b5⟩ := h
  refine ⟨⟨?_, ?_, ?_, ?_, ?_, ?_, ?_, ?_, ?_⟩, ?_, fun p hp => ?_, fun q hq => ⟨?_, ?_⟩, fun q q1 q2 => ⟨?_, ?_, ?_, ?_, ?_⟩, fun q q1 q2 => ⟨?_, ?_⟩⟩
  · rw [c 236 (by decide)]; exact a1
  · rw [c 236 (by decide)]; exact a2
  · rw [c 267 (by decide)]; exact a3
  · rw [c 267 (by decide)]; exact a4
  · rw [c 267 (by decide)]; exact a5
  · rw [c 266 (by decide)]; exact a6
  · rw [c 268 (by decide)]; exact a7
  · rw [c 275 (by decide)]; exact a8
  · rw [c 276 (by decide)]; exact a9
  · exact (e 249 _ (fun q => h1 q.1.symm q.2.symm)).trans b1
  · exact (e 250 _ (fun q => by have := h2 q.1.symm; omega)).trans (b2 p hp)
  · exact (e 254 _ (fun r => by have := h3 (Or.inl r.1.symm); omega)).trans (b3 q hq).1
  · exact (e 255 _ (fun r => by have := h3 (Or.inr r.1.symm); omega)).trans (b3 q hq).2
  · exact (e 256 _ (fun r => by have := h4 (by omega); omega)).trans (b4 q q1 q2).1
  · exact (e 257 _ (fun r => by have := h4 (by omega); omega)).trans (b4 q q1 q2).2.1
  · exact (e 258 _ (fun r => by have := h4 (by omega); omega)).trans (b4 q q1 q2).2.2.1
  · exact (e 259 _ (fun r => by have := h4 (by omega); omega)).trans (b4 q q1 q2).2.2.2.1
  · exact (e 260 _ (fun r => by have := h4 (by omega); omega)).trans (b4 q q1 q2).2.2.2.2
  · exact (e 261 _ (fun r => by have := h5 (Or.inl r.1.symm); omega)).trans (b5 q q1 q2).1
  · exact (e 262 _ (fun r => by have := h5 (Or.inr r.1.symm); omega)).trans (b5 q q1 q2).2
def kb_cX12_emit_0 : List Nat := [42, 180, 0, 92, 42, 180, 0, 233, 27, 79, 42, 180, 0, 95, 42, 180, 0, 233, 28, 79]
theorem ac_cX12_emit_0 : AL cX12_emit 0 kb_cX12_emit_0 := AL.of (m := 20) (by decide +kernel)
theorem dX12_emit_0 : decode cX12_emit 0 = .ok (.aload_n 0, 1) := o42 ac_cX12_emit_0 0 rfl
theorem dX12_emit_1 : decode cX12_emit 1 = .ok (.getfield 92, 3) := o180 ac_cX12_emit_0 1 0 92 rfl
theorem dX12_emit_4 : decode cX12_emit 4 = .ok (.aload_n 0, 1) := o42 ac_cX12_emit_0 4 rfl
theorem dX12_emit_5 : decode cX12_emit 5 = .ok (.getfield 233, 3) := o180 ac_cX12_emit_0 5 0 233 rfl
theorem dX12_emit_8 : decode cX12_emit 8 = .ok (.iload_n 1, 1) := o27 ac_cX12_emit_0 8 rfl
theorem dX12_emit_9 : decode cX12_emit 9 = .ok (.iastore, 1) := o79 ac_cX12_emit_0 9 rfl
theorem dX12_emit_10 : decode cX12_emit 10 = .ok (.aload_n 0, 1) := o42 ac_cX12_emit_0 10 rfl
theorem dX12_emit_11 : decode cX12_emit 11 = .ok (.getfield 95, 3) := o180 ac_cX12_emit_0 11 0 95 rfl
theorem dX12_emit_14 : decode cX12_emit 14 = .ok (.aload_n 0, 1) := o42 ac_cX12_emit_0 14 rfl
theorem dX12_emit_15 : decode cX12_emit 15 = .ok (.getfield 233, 3) := o180 ac_cX12_emit_0 15 0 233 rfl
def kb_cX12_emit_16 : List Nat := [0, 233, 28, 79, 42, 89, 180, 0, 233, 4, 96, 181, 0, 233, 177]
theorem ac_cX12_emit_16 : AL cX12_emit 16 kb_cX12_emit_16 := AL.of (m := 15) (by decide +kernel)
theorem dX12_emit_18 : decode cX12_emit 18 = .ok (.iload_n 2, 1) := o28 ac_cX12_emit_16 2 rfl
theorem dX12_emit_19 : decode cX12_emit 19 = .ok (.iastore, 1) := o79 ac_cX12_emit_16 3 rfl
theorem dX12_emit_20 : decode cX12_emit 20 = .ok (.aload_n 0, 1) := o42 ac_cX12_emit_16 4 rfl
theorem dX12_emit_21 : decode cX12_emit 21 = .ok (.dup, 1) := o89 ac_cX12_emit_16 5 rfl
theorem dX12_emit_22 : decode cX12_emit 22 = .ok (.getfield 233, 3) := o180 ac_cX12_emit_16 6 0 233 rfl
theorem dX12_emit_25 : decode cX12_emit 25 = .ok (.iconst 1, 1) := o4 ac_cX12_emit_16 9 rfl
theorem dX12_emit_26 : decode cX12_emit 26 = .ok (.iadd, 1) := o96 ac_cX12_emit_16 10 rfl
theorem dX12_emit_27 : decode cX12_emit 27 = .ok (.putfield 233, 3) := o181 ac_cX12_emit_16 11 0 233 rfl
theorem dX12_emit_30 : decode cX12_emit 30 = .ok (.return_, 1) := o177 ac_cX12_emit_16 14 rfl
def kb_cX12_ends_0 : List Nat := [42, 7, 182, 0, 249, 42, 180, 0, 191, 158, 0, 4, 177, 42, 180, 0, 40, 42, 180, 0]
theorem ac_cX12_ends_0 : AL cX12_ends 0 kb_cX12_ends_0 := AL.of (m := 20) (by decide +kernel)
theorem dX12_ends_0 : decode cX12_ends 0 = .ok (.aload_n 0, 1) := o42 ac_cX12_ends_0 0 rfl
theorem dX12_ends_1 : decode cX12_ends 1 = .ok (.iconst 4, 1) := o7 ac_cX12_ends_0 1 rfl
theorem dX12_ends_2 : decode cX12_ends 2 = .ok (.invokevirtual 249, 3) := o182 ac_cX12_ends_0 2 0 249 rfl
theorem dX12_ends_5 : decode cX12_ends 5 = .ok (.aload_n 0, 1) := o42 ac_cX12_ends_0 5 rfl
theorem dX12_ends_6 : decode cX12_ends 6 = .ok (.getfield 191, 3) := o180 ac_cX12_ends_0 6 0 191 rfl
theorem dX12_ends_9 : decode cX12_ends 9 = .ok (.ifCond .le 4, 3) := o158p ac_cX12_ends_0 9 0 4 rfl rfl
theorem dX12_ends_12 : decode cX12_ends 12 = .ok (.return_, 1) := o177 ac_cX12_ends_0 12 rfl
theorem dX12_ends_13 : decode cX12_ends 13 = .ok (.aload_n 0, 1) := o42 ac_cX12_ends_0 13 rfl
theorem dX12_ends_14 : decode cX12_ends 14 = .ok (.getfield 40, 3) := o180 ac_cX12_ends_0 14 0 40 rfl
def kb_cX12_ends_16 : List Nat := [40, 42, 180, 0, 227, 42, 180, 0, 30, 27, 47, 80, 42, 89, 180, 0, 227, 4, 96, 181]
theorem ac_cX12_ends_16 : AL cX12_ends 16 kb_cX12_ends_16 := AL.of (m := 20) (by decide +kernel)
theorem dX12_ends_17 : decode cX12_ends 17 = .ok (.aload_n 0, 1) := o42 ac_cX12_ends_16 1 rfl
theorem dX12_ends_18 : decode cX12_ends 18 = .ok (.getfield 227, 3) := o180 ac_cX12_ends_16 2 0 227 rfl
theorem dX12_ends_21 : decode cX12_ends 21 = .ok (.aload_n 0, 1) := o42 ac_cX12_ends_16 5 rfl
theorem dX12_ends_22 : decode cX12_ends 22 = .ok (.getfield 30, 3) := o180 ac_cX12_ends_16 6 0 30 rfl
theorem dX12_ends_25 : decode cX12_ends 25 = .ok (.iload_n 1, 1) := o27 ac_cX12_ends_16 9 rfl
theorem dX12_ends_26 : decode cX12_ends 26 = .ok (.laload, 1) := o47 ac_cX12_ends_16 10 rfl
theorem dX12_ends_27 : decode cX12_ends 27 = .ok (.lastore, 1) := o80 ac_cX12_ends_16 11 rfl
theorem dX12_ends_28 : decode cX12_ends 28 = .ok (.aload_n 0, 1) := o42 ac_cX12_ends_16 12 rfl
theorem dX12_ends_29 : decode cX12_ends 29 = .ok (.dup, 1) := o89 ac_cX12_ends_16 13 rfl
theorem dX12_ends_30 : decode cX12_ends 30 = .ok (.getfield 227, 3) := o180 ac_cX12_ends_16 14 0 227 rfl
def kb_cX12_ends_32 : List Nat := [227, 4, 96, 181, 0, 227, 177]
theorem ac_cX12_ends_32 : AL cX12_ends 32 kb_cX12_ends_32 := AL.of (m := 7) (by decide +kernel)
theorem dX12_ends_33 : decode cX12_ends 33 = .ok (.iconst 1, 1) := o4 ac_cX12_ends_32 1 rfl
theorem dX12_ends_34 : decode cX12_ends 34 = .ok (.iadd, 1) := o96 ac_cX12_ends_32 2 rfl
theorem dX12_ends_35 : decode cX12_ends 35 = .ok (.putfield 227, 3) := o181 ac_cX12_ends_32 3 0 227 rfl
theorem dX12_ends_38 : decode cX12_ends 38 = .ok (.return_, 1) := o177 ac_cX12_ends_32 6 rfl
def kb_cX12_tellThing_0 : List Nat := [16, 7, 42, 180, 0, 224, 104, 42, 180, 0, 43, 42, 180, 0, 224, 46, 96, 60, 42, 182]
theorem ac_cX12_tellThing_0 : AL cX12_tellThing 0 kb_cX12_tellThing_0 := AL.of (m := 20) (by decide +kernel)
theorem dX12_tellThing_0 : decode cX12_tellThing 0 = .ok (.bipush 7, 2) := o16p ac_cX12_tellThing_0 0 7 rfl rfl
theorem dX12_tellThing_2 : decode cX12_tellThing 2 = .ok (.aload_n 0, 1) := o42 ac_cX12_tellThing_0 2 rfl
theorem dX12_tellThing_3 : decode cX12_tellThing 3 = .ok (.getfield 224, 3) := o180 ac_cX12_tellThing_0 3 0 224 rfl
theorem dX12_tellThing_6 : decode cX12_tellThing 6 = .ok (.imul, 1) := o104 ac_cX12_tellThing_0 6 rfl
theorem dX12_tellThing_7 : decode cX12_tellThing 7 = .ok (.aload_n 0, 1) := o42 ac_cX12_tellThing_0 7 rfl
theorem dX12_tellThing_8 : decode cX12_tellThing 8 = .ok (.getfield 43, 3) := o180 ac_cX12_tellThing_0 8 0 43 rfl
theorem dX12_tellThing_11 : decode cX12_tellThing 11 = .ok (.aload_n 0, 1) := o42 ac_cX12_tellThing_0 11 rfl
theorem dX12_tellThing_12 : decode cX12_tellThing 12 = .ok (.getfield 224, 3) := o180 ac_cX12_tellThing_0 12 0 224 rfl
theorem dX12_tellThing_15 : decode cX12_tellThing 15 = .ok (.iaload, 1) := o46 ac_cX12_tellThing_0 15 rfl
def kb_cX12_tellThing_16 : List Nat := [96, 60, 42, 182, 1, 15, 61, 42, 180, 0, 46, 27, 42, 4, 16, 9, 182, 0, 245, 79]
theorem ac_cX12_tellThing_16 : AL cX12_tellThing 16 kb_cX12_tellThing_16 := AL.of (m := 20) (by decide +kernel)
theorem dX12_tellThing_16 : decode cX12_tellThing 16 = .ok (.iadd, 1) := o96 ac_cX12_tellThing_16 0 rfl
theorem dX12_tellThing_17 : decode cX12_tellThing 17 = .ok (.istore_n 1, 1) := o60 ac_cX12_tellThing_16 1 rfl
theorem dX12_tellThing_18 : decode cX12_tellThing 18 = .ok (.aload_n 0, 1) := o42 ac_cX12_tellThing_16 2 rfl
theorem dX12_tellThing_19 : decode cX12_tellThing 19 = .ok (.invokevirtual 271, 3) := o182 ac_cX12_tellThing_16 3 1 15 rfl
theorem dX12_tellThing_22 : decode cX12_tellThing 22 = .ok (.istore_n 2, 1) := o61 ac_cX12_tellThing_16 6 rfl
theorem dX12_tellThing_23 : decode cX12_tellThing 23 = .ok (.aload_n 0, 1) := o42 ac_cX12_tellThing_16 7 rfl
theorem dX12_tellThing_24 : decode cX12_tellThing 24 = .ok (.getfield 46, 3) := o180 ac_cX12_tellThing_16 8 0 46 rfl
theorem dX12_tellThing_27 : decode cX12_tellThing 27 = .ok (.iload_n 1, 1) := o27 ac_cX12_tellThing_16 11 rfl
theorem dX12_tellThing_28 : decode cX12_tellThing 28 = .ok (.aload_n 0, 1) := o42 ac_cX12_tellThing_16 12 rfl
theorem dX12_tellThing_29 : decode cX12_tellThing 29 = .ok (.iconst 1, 1) := o4 ac_cX12_tellThing_16 13 rfl
theorem dX12_tellThing_30 : decode cX12_tellThing 30 = .ok (.bipush 9, 2) := o16p ac_cX12_tellThing_16 14 9 rfl rfl
def kb_cX12_tellThing_32 : List Nat := [182, 0, 245, 79, 42, 180, 0, 49, 27, 42, 3, 16, 9, 182, 0, 245, 79, 42, 180, 0]
theorem ac_cX12_tellThing_32 : AL cX12_tellThing 32 kb_cX12_tellThing_32 := AL.of (m := 20) (by decide +kernel)
theorem dX12_tellThing_32 : decode cX12_tellThing 32 = .ok (.invokevirtual 245, 3) := o182 ac_cX12_tellThing_32 0 0 245 rfl
theorem dX12_tellThing_35 : decode cX12_tellThing 35 = .ok (.iastore, 1) := o79 ac_cX12_tellThing_32 3 rfl
theorem dX12_tellThing_36 : decode cX12_tellThing 36 = .ok (.aload_n 0, 1) := o42 ac_cX12_tellThing_32 4 rfl
theorem dX12_tellThing_37 : decode cX12_tellThing 37 = .ok (.getfield 49, 3) := o180 ac_cX12_tellThing_32 5 0 49 rfl
theorem dX12_tellThing_40 : decode cX12_tellThing 40 = .ok (.iload_n 1, 1) := o27 ac_cX12_tellThing_32 8 rfl
theorem dX12_tellThing_41 : decode cX12_tellThing 41 = .ok (.aload_n 0, 1) := o42 ac_cX12_tellThing_32 9 rfl
theorem dX12_tellThing_42 : decode cX12_tellThing 42 = .ok (.iconst 0, 1) := o3 ac_cX12_tellThing_32 10 rfl
theorem dX12_tellThing_43 : decode cX12_tellThing 43 = .ok (.bipush 9, 2) := o16p ac_cX12_tellThing_32 11 9 rfl rfl
theorem dX12_tellThing_45 : decode cX12_tellThing 45 = .ok (.invokevirtual 245, 3) := o182 ac_cX12_tellThing_32 13 0 245 rfl
def kb_cX12_tellThing_48 : List Nat := [79, 42, 180, 0, 52, 27, 42, 3, 16, 9, 182, 0, 245, 79, 42, 28, 182, 1, 19, 42]
theorem ac_cX12_tellThing_48 : AL cX12_tellThing 48 kb_cX12_tellThing_48 := AL.of (m := 20) (by decide +kernel)
theorem dX12_tellThing_48 : decode cX12_tellThing 48 = .ok (.iastore, 1) := o79 ac_cX12_tellThing_48 0 rfl
theorem dX12_tellThing_49 : decode cX12_tellThing 49 = .ok (.aload_n 0, 1) := o42 ac_cX12_tellThing_48 1 rfl
theorem dX12_tellThing_50 : decode cX12_tellThing 50 = .ok (.getfield 52, 3) := o180 ac_cX12_tellThing_48 2 0 52 rfl
theorem dX12_tellThing_53 : decode cX12_tellThing 53 = .ok (.iload_n 1, 1) := o27 ac_cX12_tellThing_48 5 rfl
theorem dX12_tellThing_54 : decode cX12_tellThing 54 = .ok (.aload_n 0, 1) := o42 ac_cX12_tellThing_48 6 rfl
theorem dX12_tellThing_55 : decode cX12_tellThing 55 = .ok (.iconst 0, 1) := o3 ac_cX12_tellThing_48 7 rfl
theorem dX12_tellThing_56 : decode cX12_tellThing 56 = .ok (.bipush 9, 2) := o16p ac_cX12_tellThing_48 8 9 rfl rfl
theorem dX12_tellThing_58 : decode cX12_tellThing 58 = .ok (.invokevirtual 245, 3) := o182 ac_cX12_tellThing_48 10 0 245 rfl
theorem dX12_tellThing_61 : decode cX12_tellThing 61 = .ok (.iastore, 1) := o79 ac_cX12_tellThing_48 13 rfl
theorem dX12_tellThing_62 : decode cX12_tellThing 62 = .ok (.aload_n 0, 1) := o42 ac_cX12_tellThing_48 14 rfl
theorem dX12_tellThing_63 : decode cX12_tellThing 63 = .ok (.iload_n 2, 1) := o28 ac_cX12_tellThing_48 15 rfl
def kb_cX12_tellThing_64 : List Nat := [182, 1, 19, 42, 180, 0, 191, 154, 0, 16, 42, 180, 0, 43, 42, 180, 0, 224, 92, 46]
theorem ac_cX12_tellThing_64 : AL cX12_tellThing 64 kb_cX12_tellThing_64 := AL.of (m := 20) (by decide +kernel)
theorem dX12_tellThing_64 : decode cX12_tellThing 64 = .ok (.invokevirtual 275, 3) := o182 ac_cX12_tellThing_64 0 1 19 rfl
theorem dX12_tellThing_67 : decode cX12_tellThing 67 = .ok (.aload_n 0, 1) := o42 ac_cX12_tellThing_64 3 rfl
theorem dX12_tellThing_68 : decode cX12_tellThing 68 = .ok (.getfield 191, 3) := o180 ac_cX12_tellThing_64 4 0 191 rfl
theorem dX12_tellThing_71 : decode cX12_tellThing 71 = .ok (.ifCond .ne 16, 3) := o154p ac_cX12_tellThing_64 7 0 16 rfl rfl
theorem dX12_tellThing_74 : decode cX12_tellThing 74 = .ok (.aload_n 0, 1) := o42 ac_cX12_tellThing_64 10 rfl
theorem dX12_tellThing_75 : decode cX12_tellThing 75 = .ok (.getfield 43, 3) := o180 ac_cX12_tellThing_64 11 0 43 rfl
theorem dX12_tellThing_78 : decode cX12_tellThing 78 = .ok (.aload_n 0, 1) := o42 ac_cX12_tellThing_64 14 rfl
theorem dX12_tellThing_79 : decode cX12_tellThing 79 = .ok (.getfield 224, 3) := o180 ac_cX12_tellThing_64 15 0 224 rfl
def kb_cX12_tellThing_80 : List Nat := [0, 224, 92, 46, 4, 96, 79, 177]
theorem ac_cX12_tellThing_80 : AL cX12_tellThing 80 kb_cX12_tellThing_80 := AL.of (m := 8) (by decide +kernel)
theorem dX12_tellThing_82 : decode cX12_tellThing 82 = .ok (.dup2, 1) := o92 ac_cX12_tellThing_80 2 rfl
theorem dX12_tellThing_83 : decode cX12_tellThing 83 = .ok (.iaload, 1) := o46 ac_cX12_tellThing_80 3 rfl
theorem dX12_tellThing_84 : decode cX12_tellThing 84 = .ok (.iconst 1, 1) := o4 ac_cX12_tellThing_80 4 rfl
theorem dX12_tellThing_85 : decode cX12_tellThing 85 = .ok (.iadd, 1) := o96 ac_cX12_tellThing_80 5 rfl
theorem dX12_tellThing_86 : decode cX12_tellThing 86 = .ok (.iastore, 1) := o79 ac_cX12_tellThing_80 6 rfl
theorem dX12_tellThing_87 : decode cX12_tellThing 87 = .ok (.return_, 1) := o177 ac_cX12_tellThing_80 7 rfl
def kb_cX12_unit_0 : List Nat := [42, 5, 182, 0, 209, 153, 0, 24, 42, 3, 42, 180, 0, 27, 42, 180, 0, 194, 46, 182]
theorem ac_cX12_unit_0 : AL cX12_unit 0 kb_cX12_unit_0 := AL.of (m := 20) (by decide +kernel)
theorem dX12_unit_0 : decode cX12_unit 0 = .ok (.aload_n 0, 1) := o42 ac_cX12_unit_0 0 rfl
theorem dX12_unit_1 : decode cX12_unit 1 = .ok (.iconst 2, 1) := o5 ac_cX12_unit_0 1 rfl
theorem dX12_unit_2 : decode cX12_unit 2 = .ok (.invokevirtual 209, 3) := o182 ac_cX12_unit_0 2 0 209 rfl
theorem dX12_unit_5 : decode cX12_unit 5 = .ok (.ifCond .eq 24, 3) := o153p ac_cX12_unit_0 5 0 24 rfl rfl
theorem dX12_unit_8 : decode cX12_unit 8 = .ok (.aload_n 0, 1) := o42 ac_cX12_unit_0 8 rfl
theorem dX12_unit_9 : decode cX12_unit 9 = .ok (.iconst 0, 1) := o3 ac_cX12_unit_0 9 rfl
theorem dX12_unit_10 : decode cX12_unit 10 = .ok (.aload_n 0, 1) := o42 ac_cX12_unit_0 10 rfl
theorem dX12_unit_11 : decode cX12_unit 11 = .ok (.getfield 27, 3) := o180 ac_cX12_unit_0 11 0 27 rfl
theorem dX12_unit_14 : decode cX12_unit 14 = .ok (.aload_n 0, 1) := o42 ac_cX12_unit_0 14 rfl
theorem dX12_unit_15 : decode cX12_unit 15 = .ok (.getfield 194, 3) := o180 ac_cX12_unit_0 15 0 194 rfl
def kb_cX12_unit_16 : List Nat := [0, 194, 46, 182, 1, 31, 42, 182, 0, 212, 167, 0, 67, 42, 180, 0, 191, 154, 0, 55]
theorem ac_cX12_unit_16 : AL cX12_unit 16 kb_cX12_unit_16 := AL.of (m := 20) (by decide +kernel)
theorem dX12_unit_18 : decode cX12_unit 18 = .ok (.iaload, 1) := o46 ac_cX12_unit_16 2 rfl
theorem dX12_unit_19 : decode cX12_unit 19 = .ok (.invokevirtual 287, 3) := o182 ac_cX12_unit_16 3 1 31 rfl
theorem dX12_unit_22 : decode cX12_unit 22 = .ok (.aload_n 0, 1) := o42 ac_cX12_unit_16 6 rfl
theorem dX12_unit_23 : decode cX12_unit 23 = .ok (.invokevirtual 212, 3) := o182 ac_cX12_unit_16 7 0 212 rfl
theorem dX12_unit_26 : decode cX12_unit 26 = .ok (.goto 67, 3) := o167p ac_cX12_unit_16 10 0 67 rfl rfl
theorem dX12_unit_29 : decode cX12_unit 29 = .ok (.aload_n 0, 1) := o42 ac_cX12_unit_16 13 rfl
theorem dX12_unit_30 : decode cX12_unit 30 = .ok (.getfield 191, 3) := o180 ac_cX12_unit_16 14 0 191 rfl
def kb_cX12_unit_32 : List Nat := [191, 154, 0, 55, 42, 180, 0, 20, 42, 180, 0, 194, 46, 16, 31, 161, 0, 41, 42, 180]
theorem ac_cX12_unit_32 : AL cX12_unit 32 kb_cX12_unit_32 := AL.of (m := 20) (by decide +kernel)
theorem dX12_unit_33 : decode cX12_unit 33 = .ok (.ifCond .ne 55, 3) := o154p ac_cX12_unit_32 1 0 55 rfl rfl
theorem dX12_unit_36 : decode cX12_unit 36 = .ok (.aload_n 0, 1) := o42 ac_cX12_unit_32 4 rfl
theorem dX12_unit_37 : decode cX12_unit 37 = .ok (.getfield 20, 3) := o180 ac_cX12_unit_32 5 0 20 rfl
theorem dX12_unit_40 : decode cX12_unit 40 = .ok (.aload_n 0, 1) := o42 ac_cX12_unit_32 8 rfl
theorem dX12_unit_41 : decode cX12_unit 41 = .ok (.getfield 194, 3) := o180 ac_cX12_unit_32 9 0 194 rfl
theorem dX12_unit_44 : decode cX12_unit 44 = .ok (.iaload, 1) := o46 ac_cX12_unit_32 12 rfl
theorem dX12_unit_45 : decode cX12_unit 45 = .ok (.bipush 31, 2) := o16p ac_cX12_unit_32 13 31 rfl rfl
theorem dX12_unit_47 : decode cX12_unit 47 = .ok (.if_icmp .lt 41, 3) := o161p ac_cX12_unit_32 15 0 41 rfl rfl
def kb_cX12_unit_48 : List Nat := [0, 41, 42, 180, 0, 20, 42, 180, 0, 194, 46, 16, 39, 163, 0, 27, 42, 4, 42, 180]
theorem ac_cX12_unit_48 : AL cX12_unit 48 kb_cX12_unit_48 := AL.of (m := 20) (by decide +kernel)
theorem dX12_unit_50 : decode cX12_unit 50 = .ok (.aload_n 0, 1) := o42 ac_cX12_unit_48 2 rfl
theorem dX12_unit_51 : decode cX12_unit 51 = .ok (.getfield 20, 3) := o180 ac_cX12_unit_48 3 0 20 rfl
theorem dX12_unit_54 : decode cX12_unit 54 = .ok (.aload_n 0, 1) := o42 ac_cX12_unit_48 6 rfl
theorem dX12_unit_55 : decode cX12_unit 55 = .ok (.getfield 194, 3) := o180 ac_cX12_unit_48 7 0 194 rfl
theorem dX12_unit_58 : decode cX12_unit 58 = .ok (.iaload, 1) := o46 ac_cX12_unit_48 10 rfl
theorem dX12_unit_59 : decode cX12_unit 59 = .ok (.bipush 39, 2) := o16p ac_cX12_unit_48 11 39 rfl rfl
theorem dX12_unit_61 : decode cX12_unit 61 = .ok (.if_icmp .gt 27, 3) := o163p ac_cX12_unit_48 13 0 27 rfl rfl
def kb_cX12_unit_64 : List Nat := [42, 4, 42, 180, 0, 20, 42, 180, 0, 194, 46, 16, 31, 100, 182, 1, 31, 42, 182, 0]
theorem ac_cX12_unit_64 : AL cX12_unit 64 kb_cX12_unit_64 := AL.of (m := 20) (by decide +kernel)
theorem dX12_unit_64 : decode cX12_unit 64 = .ok (.aload_n 0, 1) := o42 ac_cX12_unit_64 0 rfl
theorem dX12_unit_65 : decode cX12_unit 65 = .ok (.iconst 1, 1) := o4 ac_cX12_unit_64 1 rfl
theorem dX12_unit_66 : decode cX12_unit 66 = .ok (.aload_n 0, 1) := o42 ac_cX12_unit_64 2 rfl
theorem dX12_unit_67 : decode cX12_unit 67 = .ok (.getfield 20, 3) := o180 ac_cX12_unit_64 3 0 20 rfl
theorem dX12_unit_70 : decode cX12_unit 70 = .ok (.aload_n 0, 1) := o42 ac_cX12_unit_64 6 rfl
theorem dX12_unit_71 : decode cX12_unit 71 = .ok (.getfield 194, 3) := o180 ac_cX12_unit_64 7 0 194 rfl
theorem dX12_unit_74 : decode cX12_unit 74 = .ok (.iaload, 1) := o46 ac_cX12_unit_64 10 rfl
theorem dX12_unit_75 : decode cX12_unit 75 = .ok (.bipush 31, 2) := o16p ac_cX12_unit_64 11 31 rfl rfl
theorem dX12_unit_77 : decode cX12_unit 77 = .ok (.isub, 1) := o100 ac_cX12_unit_64 13 rfl
theorem dX12_unit_78 : decode cX12_unit 78 = .ok (.invokevirtual 287, 3) := o182 ac_cX12_unit_64 14 1 31 rfl
def kb_cX12_unit_80 : List Nat := [31, 42, 182, 0, 212, 167, 0, 8, 42, 4, 182, 0, 206, 177]
theorem ac_cX12_unit_80 : AL cX12_unit 80 kb_cX12_unit_80 := AL.of (m := 14) (by decide +kernel)
theorem dX12_unit_81 : decode cX12_unit 81 = .ok (.aload_n 0, 1) := o42 ac_cX12_unit_80 1 rfl
theorem dX12_unit_82 : decode cX12_unit 82 = .ok (.invokevirtual 212, 3) := o182 ac_cX12_unit_80 2 0 212 rfl
theorem dX12_unit_85 : decode cX12_unit 85 = .ok (.goto 8, 3) := o167p ac_cX12_unit_80 5 0 8 rfl rfl
theorem dX12_unit_88 : decode cX12_unit 88 = .ok (.aload_n 0, 1) := o42 ac_cX12_unit_80 8 rfl
theorem dX12_unit_89 : decode cX12_unit 89 = .ok (.iconst 1, 1) := o4 ac_cX12_unit_80 9 rfl
theorem dX12_unit_90 : decode cX12_unit 90 = .ok (.invokevirtual 206, 3) := o182 ac_cX12_unit_80 10 0 206 rfl
theorem dX12_unit_93 : decode cX12_unit 93 = .ok (.return_, 1) := o177 ac_cX12_unit_80 13 rfl
/-! what waits, and what has come out -/
def opn (w : Nat → Int32) : Nat → Int
  | 0 => 0
  | n + 1 => opn w n + (if (w n).toInt = 6 then 1 else 0)
theorem opn_cong {w w1 : Nat → Int32} : ∀ n, (∀ j, j < n → w1 j = w j) → opn w1 n = opn w n := by
  intro n
  induction n with
  | zero => intro _; rfl
  | succ n ih =>
    intro h
    show opn w1 n + (if (w1 n).toInt = 6 then 1 else 0) = opn w n + (if (w n).toInt = 6 then 1 else 0)
    rw [ih (fun j hj => h j (by omega)), h n (by omega)]
def tcc (w : Nat → Int32) : Nat → Int
  | 0 => 0
  | n + 1 => if (w n).toInt = 6 then 0 else if (w n).toInt = 8 ∨ (w n).toInt = 9 then 1 else 2
theorem tcc_cong {w w1 : Nat → Int32} : ∀ n, (∀ j, j < n → w1 j = w j) → tcc w1 n = tcc w n := by
  intro n h
  cases n with
  | zero => rfl
  | succ n =>
    show (if (w1 n).toInt = 6 then (0 : Int) else if (w1 n).toInt = 8 ∨ (w1 n).toInt = 9 then 1 else 2) = (if (w n).toInt = 6 then 0 else if (w n).toInt = 8 ∨ (w n).toInt = 9 then 1 else 2)
    rw [h n (by omega)]
theorem tcc_rg {w : Nat → Int32} (n : Nat) : 0 ≤ tcc w n ∧ tcc w n ≤ 2 := by
  cases n with
  | zero => exact ⟨Int.le_refl _, by show (0 : Int) ≤ 2; omega⟩
  | succ n =>
    show 0 ≤ (if (w n).toInt = 6 then (0 : Int) else if (w n).toInt = 8 ∨ (w n).toInt = 9 then 1 else 2) ∧ (if (w n).toInt = 6 then (0 : Int) else if (w n).toInt = 8 ∨ (w n).toInt = 9 then 1 else 2) ≤ 2
    split
    · omega
    · split <;> omega
def WB (w : Nat → Int32) (n : Nat) : Prop := ∀ i, i ≤ n → (i : Int) ≤ 3 * opn w i + tcc w i
theorem WB.zero {w : Nat → Int32} : WB w 0 := fun i hi => by
  have e : i = 0 := by omega
  subst e
  show ((0 : Nat) : Int) ≤ 3 * 0 + 0
  omega
theorem WB.le {w : Nat → Int32} {n m : Nat} (h : WB w n) (hm : m ≤ n) : WB w m := fun i hi => h i (by omega)
theorem WB.push {w w1 : Nat → Int32} {n : Nat} (h : WB w n) (e : ∀ j, j < n → w1 j = w j) (hv : (w1 n).toInt = 6 ∨ (((w1 n).toInt = 8 ∨ (w1 n).toInt = 9) ∧ tcc w n = 0) ∨ ((w1 n).toInt ≠ 6 ∧ (w1 n).toInt ≠ 8 ∧ (w1 n).toInt ≠ 9 ∧ tcc w n ≤ 1)) : WB w1 (n + 1) := by
  intro i hi
  by_cases hn : i ≤ n
  · rw [opn_cong i (fun j hj => e j (by omega)), tcc_cong i (fun j hj => e j (by omega))]
    exact h i hn
  · have ei : i = n + 1 := by omega
    subst ei
    have hb := h n (Nat.le_refl _)
    have ht := tcc_rg (w := w) n
    show ((n + 1 : Nat) : Int) ≤ 3 * (opn w1 n + (if (w1 n).toInt = 6 then 1 else 0)) + (if (w1 n).toInt = 6 then (0 : Int) else if (w1 n).toInt = 8 ∨ (w1 n).toInt = 9 then 1 else 2)
    rw [opn_cong n (fun j hj => e j hj)]
    rcases hv with h6 | ⟨h8, h0⟩ | ⟨h6, h8, h9, h0⟩
    · rw [if_pos h6, if_pos h6]; omega
    · rw [if_neg (show ¬ (w1 n).toInt = 6 by omega), if_neg (show ¬ (w1 n).toInt = 6 by omega), if_pos h8]; omega
    · rw [if_neg h6, if_neg h6, if_neg (show ¬ ((w1 n).toInt = 8 ∨ (w1 n).toInt = 9) by omega)]; omega
/-- what is kept of waits: its kinds -/
def WK (w : Nat → Int32) (n : Nat) : Prop := ∀ i, i < n → (w i).toInt = 6 ∨ (w i).toInt = 8 ∨ (w i).toInt = 9 ∨ (w i).toInt = 10 ∨ (w i).toInt = 15
theorem WK.push {w w1 : Nat → Int32} {n : Nat} (h : WK w n) (e : ∀ j, j < n → w1 j = w j) (hv : (w1 n).toInt = 6 ∨ (w1 n).toInt = 8 ∨ (w1 n).toInt = 9 ∨ (w1 n).toInt = 10 ∨ (w1 n).toInt = 15) : WK w1 (n + 1) := fun i hi => by
  by_cases hn : i < n
  · rw [e i hn]; exact h i hn
  · have ei : i = n := by omega
    subst ei
    exact hv
/-- the code from u up to n is well formed -/
def PGm (cd ci : Nat → Int32) (u n : Nat) : Prop := ∀ c, u ≤ c → c < n → 0 ≤ (cd c).toInt ∧ (cd c).toInt ≤ 5 ∧ ((cd c).toInt = 1 → 0 ≤ (ci c).toInt ∧ (ci c).toInt ≤ 8) ∧ (2 ≤ (cd c).toInt → 2 ≤ dep cd u (c - u))
theorem PGm.zero {cd ci : Nat → Int32} {u : Nat} : PGm cd ci u u := fun c h1 h2 => absurd h1 (by omega)
theorem PGm.cong {cd ci cd1 ci1 : Nat → Int32} {u n : Nat} (h : PGm cd ci u n) (e : ∀ c, u ≤ c → c < n → cd1 c = cd c ∧ ci1 c = ci c) : PGm cd1 ci1 u n := fun c h1 h2 => by
  rw [(e c h1 h2).1, (e c h1 h2).2, dep_cong (cd := cd) (c - u) (fun j hj => (e _ (by omega) (by omega)).1)]
  exact h c h1 h2
theorem PGm.seg {cd ci : Nat → Int32} {x y : Int32} {u n : Nat} (h : PGm cd ci u n) (hx : x.toInt = u) (hy : y.toInt = n) (hu : u ≤ 840) (hn : n ≤ 840) (hl : n ≤ u + 400) : SGm cd ci x y := by
  refine ⟨⟨by omega, by omega⟩, by omega, by omega, fun c c1 c2 => ?_⟩
  rw [show x.toInt.toNat = u by omega]
  exact h c (by omega) (by omega)

/-! an expression under way -/
def EXg (s0 : HS) (W : Int) (u : Nat) (bs d : Int) (σ : HS) : Prop := (0 ≤ W ∧ (u : Int) ≤ (σ.1 236 39).toInt) ∧ WK (σ.1 263) W.toNat ∧ WB (σ.1 263) W.toNat ∧ opn (σ.1 263) W.toNat = (σ.1 236 12).toInt - bs ∧ PGm (σ.1 261) (σ.1 262) u (σ.1 236 39).toInt.toNat ∧ dep (σ.1 261) u ((σ.1 236 39).toInt.toNat - u) = W - ((σ.1 236 12).toInt - bs) + d ∧ (∀ c : Nat, c < u → σ.1 261 c = s0.1 261 c ∧ σ.1 262 c = s0.1 262 c)
theorem EXg.W {s0 σ : HS} {W W1 bs d : Int} {u : Nat} (h : EXg s0 W u bs d σ) (e : W1 = W) : EXg s0 W1 u bs d σ := by subst e; exact h
/-! what an expression leaves -/
def EXh (σ σ1 : HS) : Prop := (∀ c : Nat, (c : Int) < (σ.1 236 39).toInt → σ1.1 261 c = σ.1 261 c ∧ σ1.1 262 c = σ.1 262 c) ∧ ((σ1.1 236 13).toInt = 0 → PGm (σ1.1 261) (σ1.1 262) (σ.1 236 39).toInt.toNat (σ1.1 236 39).toInt.toNat)
theorem EXg.fin {σ σ1 : HS} {W bs d : Int} (h : EXg σ W (σ.1 236 39).toInt.toNat bs d σ1) (h0 : 0 ≤ (σ.1 236 39).toInt) : EXh σ σ1 := ⟨fun c hc => h.2.2.2.2.2.2 c (by omega), fun _ => h.2.2.2.2.1⟩
/-! a term, and what a branch was told before it -/
def TRM (σ σ1 : HS) : Prop := ((σ1.1 236 33).toInt = (σ.1 236 33).toInt + 1 ∧ (σ.1 236 39).toInt ≤ (σ1.1 236 39).toInt) ∧ (∀ q : Nat, (q : Int) ≠ (σ.1 236 33).toInt → σ1.1 259 q = σ.1 259 q ∧ σ1.1 260 q = σ.1 260 q) ∧ ((σ1.1 259 (σ.1 236 33).toInt.toNat).toInt = (σ.1 236 39).toInt ∧ (σ1.1 260 (σ.1 236 33).toInt.toNat).toInt = (σ1.1 236 39).toInt) ∧ EXh σ σ1
def TL1 (s0 σ : HS) : Prop := ((σ.1 236 19).toInt = (s0.1 236 19).toInt ∧ (σ.1 236 33).toInt = (s0.1 236 33).toInt ∧ (s0.1 236 39).toInt ≤ (σ.1 236 39).toInt) ∧ (σ.1 254 = s0.1 254 ∧ σ.1 255 = s0.1 255 ∧ σ.1 259 = s0.1 259 ∧ σ.1 260 = s0.1 260) ∧ (∀ q : Nat, (q : Int) ≠ (s0.1 236 33).toInt → σ.1 256 q = s0.1 256 q ∧ σ.1 257 q = s0.1 257 q ∧ σ.1 258 q = s0.1 258 q) ∧ (∀ c : Nat, (c : Int) < (s0.1 236 39).toInt → σ.1 261 c = s0.1 261 c ∧ σ.1 262 c = s0.1 262 c) ∧ ((σ.1 236 13).toInt = 0 → (σ.1 256 (s0.1 236 33).toInt.toNat).toInt ≠ 0 → ∃ M : Int, (σ.1 257 (s0.1 236 33).toInt.toNat).toInt = (s0.1 236 39).toInt ∧ (σ.1 258 (s0.1 236 33).toInt.toNat).toInt = M ∧ (s0.1 236 39).toInt ≤ M ∧ M ≤ (σ.1 236 39).toInt ∧ PGm (σ.1 261) (σ.1 262) (s0.1 236 39).toInt.toNat M.toNat ∧ PGm (σ.1 261) (σ.1 262) M.toNat (σ.1 236 39).toInt.toNat)
/-! the side's laws so far -/
def BOK (n : Nat) (C : Int) (σ : HS) (q : Nat) : Prop := BRq (σ.1 256) (σ.1 257) (σ.1 258) (σ.1 259) (σ.1 260) (σ.1 261) (σ.1 262) q ∧ RGq n (σ.1 256 q) (σ.1 257 q) (σ.1 258 q) (σ.1 259 q) (σ.1 260 q) q ∧ ((σ.1 256 q).toInt ≠ 0 → (σ.1 258 q).toInt ≤ C ∧ (σ.1 259 q).toInt ≤ C) ∧ (σ.1 260 q).toInt ≤ C
theorem BOK.cong {n : Nat} {C C1 : Int} {σ σ1 : HS} {q : Nat} (h : BOK n C σ q) (hC : C ≤ C1) (e : σ1.1 256 q = σ.1 256 q ∧ σ1.1 257 q = σ.1 257 q ∧ σ1.1 258 q = σ.1 258 q ∧ σ1.1 259 q = σ.1 259 q ∧ σ1.1 260 q = σ.1 260 q) (ec : ∀ c : Nat, (c : Int) < C → σ1.1 261 c = σ.1 261 c ∧ σ1.1 262 c = σ.1 262 c) : BOK n C1 σ1 q := by
  obtain ⟨hb, hg, hm, ht⟩ := h
  obtain ⟨e1, e2, e3, e4, e5⟩ := e
  unfold BOK BRq
  unfold BRq at hb
  rw [e1, e2, e3, e4, e5]
  refine ⟨⟨fun hn => ⟨(hb.1 hn).1.cong (fun c c1 c2 => ec c ?_), (hb.1 hn).2.cong (fun c c1 c2 => ec c ?_)⟩, hb.2.cong (fun c c1 c2 => ec c ?_)⟩, hg, fun hn => ?_, by omega⟩
  · have := hm hn; omega
  · have := hm hn; omega
  · omega
  · have := hm hn; omega
def LAW (σ : HS) : Prop := (∀ q : Nat, 130 * (σ.1 236 19).toInt ≤ q → (q : Int) < (σ.1 236 33).toInt → BOK (σ.1 236 19).toInt.toNat (σ.1 236 39).toInt σ q) ∧ (∀ k, k < 4 → (0 ≤ (σ.1 254 (4 * (σ.1 236 19).toInt.toNat + k)).toInt ∧ (σ.1 254 (4 * (σ.1 236 19).toInt.toNat + k)).toInt ≤ 260) ∧ (σ.1 255 (4 * (σ.1 236 19).toInt.toNat + k)).toInt ≤ 260 ∧ ((σ.1 254 (4 * (σ.1 236 19).toInt.toNat + k)).toInt < (σ.1 255 (4 * (σ.1 236 19).toInt.toNat + k)).toInt → 130 * (σ.1 236 19).toInt ≤ (σ.1 254 (4 * (σ.1 236 19).toInt.toNat + k)).toInt ∧ (σ.1 255 (4 * (σ.1 236 19).toInt.toNat + k)).toInt ≤ (σ.1 236 33).toInt))
theorem LAW.zero {σ : HS} (hb : (σ.1 236 33).toInt ≤ 130 * (σ.1 236 19).toInt) (hl : ∀ k, k < 4 → (σ.1 254 (4 * (σ.1 236 19).toInt.toNat + k)).toInt = 0 ∧ (σ.1 255 (4 * (σ.1 236 19).toInt.toNat + k)).toInt = 0) : LAW σ := ⟨fun q h1 h2 => absurd h1 (by omega), fun k hk => by have a := hl k hk; omega⟩
theorem LAW.add {s0 σ σ1 : HS} (h : LAW s0) (hT : TL1 s0 σ) (hR : TRM σ σ1) (es : (σ1.1 236 19).toInt = (σ.1 236 19).toInt) (e254 : σ1.1 254 = σ.1 254) (e255 : σ1.1 255 = σ.1 255) (e256 : σ1.1 256 = σ.1 256) (e257 : σ1.1 257 = σ.1 257) (e258 : σ1.1 258 = σ.1 258) (hf : (σ.1 236 13).toInt = 0) (hf1 : (σ1.1 236 13).toInt = 0) (hs : 0 ≤ (σ.1 236 19).toInt ∧ (σ.1 236 19).toInt ≤ 1) (hc0 : 420 * (σ.1 236 19).toInt ≤ (s0.1 236 39).toInt) (hc1 : (σ1.1 236 39).toInt ≤ 420 * (σ.1 236 19).toInt + 400) (hb0 : 130 * (σ.1 236 19).toInt ≤ (σ.1 236 33).toInt) (hb1 : (σ.1 236 33).toInt ≤ 130 * (σ.1 236 19).toInt + 129) : LAW σ1 := by
  obtain ⟨⟨t1, t2, t3⟩, ⟨t4, t5, t6, t7⟩, t8, t9, t10⟩ := hT
  obtain ⟨⟨r1, r2⟩, r3, ⟨r4, r5⟩, r6, r7⟩ := hR
  obtain ⟨a1, a2⟩ := h
  refine ⟨fun q q1 q2 => ?_, fun k hk => ?_⟩
  · by_cases hq : (q : Int) < (s0.1 236 33).toInt
    · have b := a1 q (by omega) hq
      rw [show (s0.1 236 19).toInt.toNat = (σ1.1 236 19).toInt.toNat by omega] at b
      have c8 := t8 q (by omega)
      have c3 := r3 q (by omega)
      refine b.cong (by omega) ⟨by rw [e256]; exact c8.1, by rw [e257]; exact c8.2.1, by rw [e258]; exact c8.2.2, by rw [c3.1, t6], by rw [c3.2, t7]⟩ (fun c hc => ?_)
      have d1 := r6 c (by omega)
      have d2 := t9 c hc
      exact ⟨d1.1.trans d2.1, d1.2.trans d2.2⟩
    · have eq : q = (σ.1 236 33).toInt.toNat := by omega
      have eq0 : q = (s0.1 236 33).toInt.toNat := by omega
      have p3 := r7 hf1
      rw [← eq] at r4 r5
      rw [← eq0] at t10
      have en : (((σ1.1 236 19).toInt.toNat : Nat) : Int) = (σ.1 236 19).toInt := by omega
      refine ⟨⟨fun hn => ?_, ?_⟩, ⟨by omega, by omega, fun hn => ?_, by omega, by omega⟩, fun hn => ?_, by omega⟩
      · rw [e256] at hn
        obtain ⟨M, m1, m2, m3, m4, m5, m6⟩ := t10 hf hn
        rw [e257, e258]
        refine ⟨?_, ?_⟩
        · exact (m5.cong (fun c c1 c2 => r6 c (by omega))).seg (u := (s0.1 236 39).toInt.toNat) (n := M.toNat) (by omega) (by omega) (by omega) (by omega) (by omega)
        · exact (m6.cong (fun c c1 c2 => r6 c (by omega))).seg (u := M.toNat) (n := (σ.1 236 39).toInt.toNat) (by omega) (by omega) (by omega) (by omega) (by omega)
      · exact p3.seg (by omega) (by omega) (by omega) (by omega) (by omega)
      · rw [e256] at hn
        obtain ⟨M, m1, m2, m3, m4, m5, m6⟩ := t10 hf hn
        rw [e257, e258]
        omega
      · rw [e256] at hn
        obtain ⟨M, m1, m2, m3, m4, m5, m6⟩ := t10 hf hn
        rw [e258]
        omega
  · have b := a2 k hk
    rw [show (s0.1 236 19).toInt.toNat = (σ1.1 236 19).toInt.toNat by omega] at b
    rw [e254, e255, t4, t5]
    omega
/-! the side's patterns; all of the side -/
def LNG (σ : HS) : Prop := ∀ p : Nat, (p : Int) < (σ.1 249 (σ.1 236 19).toInt.toNat).toInt → 1 ≤ (σ.1 250 (5 * (σ.1 236 19).toInt.toNat + p)).toInt
theorem LNG.add {σ σ1 : HS} (h : LNG σ) (hs : 0 ≤ (σ.1 236 19).toInt) (f19 : (σ1.1 236 19).toInt = (σ.1 236 19).toInt) (e249 : (σ1.1 249 (σ.1 236 19).toInt.toNat).toInt ≤ (σ.1 249 (σ.1 236 19).toInt.toNat).toInt + 1) (er : ∀ p : Nat, (p : Int) ≠ (5 * (σ.1 236 19).toInt + (σ.1 249 (σ.1 236 19).toInt.toNat).toInt) → σ1.1 250 p = σ.1 250 p) (hn : 1 ≤ (σ1.1 250 (5 * (σ.1 236 19).toInt + (σ.1 249 (σ.1 236 19).toInt.toNat).toInt).toNat).toInt) : LNG σ1 := by
  intro p hp
  have en : (σ1.1 236 19).toInt.toNat = (σ.1 236 19).toInt.toNat := by omega
  rw [en] at hp ⊢
  by_cases e : (p : Int) = (σ.1 249 (σ.1 236 19).toInt.toNat).toInt
  · rw [show 5 * (σ.1 236 19).toInt.toNat + p = (5 * (σ.1 236 19).toInt + (σ.1 249 (σ.1 236 19).toInt.toNat).toInt).toNat by omega]
    exact hn
  · rw [er _ (by omega)]
    exact h p (by omega)
/-- the new text in force, slots emptied up to k -/
def RKp (k : Int) (σ : HS) : Prop := (LWq (σ.1 236 18).toInt.toNat (σ.1 254) (σ.1 255) (σ.1 256) (σ.1 257) (σ.1 258) (σ.1 259) (σ.1 260) (σ.1 261) (σ.1 262) ∧ (σ.1 236 54).toInt = 0) ∧ rw3 300 (plm σ) (σ.1 267 21) (σ.1 267 26) (σ.1 267 27) ∧ rw3 0 (plm σ) (σ.1 266 21) (σ.1 266 26) (σ.1 266 27) ∧ (∀ s : Nat, (s : Int) < k → (σ.1 275 s).toInt = 0) ∧ (∀ p : Nat, (p : Int) < plm σ → 1 ≤ (σ.1 250 (5 * (σ.1 236 18).toInt.toNat + p)).toInt)
theorem RKp.fin {σ : HS} {b k : Int} (h : RKp k σ) (hk : 3 ≤ k) (hb : 0 ≤ b ∧ b ≤ 40000) : RKm b σ := by
  obtain ⟨⟨h1, hu⟩, h2, h3, h4, h5⟩ := h
  unfold plm at h2 h3 h5
  exact ⟨⟨hb.2, h2.mono (by omega), h3.mono (by omega), fun u h9 => absurd h9 (by omega), fun s hs h9 => absurd (h4 s (by omega)) h9, fun p hp => h5 p hp⟩, h1⟩

def kb_cX12_comesOut_0 : List Nat := [42, 180, 1, 28, 158, 0, 87, 42, 180, 0, 98, 42, 180, 1, 28, 4, 100, 46, 61, 28]
theorem ac_cX12_comesOut_0 : AL cX12_comesOut 0 kb_cX12_comesOut_0 := AL.of (m := 20) (by decide +kernel)
theorem dX12_comesOut_0 : decode cX12_comesOut 0 = .ok (.aload_n 0, 1) := o42 ac_cX12_comesOut_0 0 rfl
theorem dX12_comesOut_1 : decode cX12_comesOut 1 = .ok (.getfield 284, 3) := o180 ac_cX12_comesOut_0 1 1 28 rfl
theorem dX12_comesOut_4 : decode cX12_comesOut 4 = .ok (.ifCond .le 87, 3) := o158p ac_cX12_comesOut_0 4 0 87 rfl rfl
theorem dX12_comesOut_7 : decode cX12_comesOut 7 = .ok (.aload_n 0, 1) := o42 ac_cX12_comesOut_0 7 rfl
theorem dX12_comesOut_8 : decode cX12_comesOut 8 = .ok (.getfield 98, 3) := o180 ac_cX12_comesOut_0 8 0 98 rfl
theorem dX12_comesOut_11 : decode cX12_comesOut 11 = .ok (.aload_n 0, 1) := o42 ac_cX12_comesOut_0 11 rfl
theorem dX12_comesOut_12 : decode cX12_comesOut 12 = .ok (.getfield 284, 3) := o180 ac_cX12_comesOut_0 12 1 28 rfl
theorem dX12_comesOut_15 : decode cX12_comesOut 15 = .ok (.iconst 1, 1) := o4 ac_cX12_comesOut_0 15 rfl
def kb_cX12_comesOut_16 : List Nat := [100, 46, 61, 28, 16, 6, 159, 0, 19, 27, 153, 0, 16, 28, 16, 8, 159, 0, 9, 28]
theorem ac_cX12_comesOut_16 : AL cX12_comesOut 16 kb_cX12_comesOut_16 := AL.of (m := 20) (by decide +kernel)
theorem dX12_comesOut_16 : decode cX12_comesOut 16 = .ok (.isub, 1) := o100 ac_cX12_comesOut_16 0 rfl
theorem dX12_comesOut_17 : decode cX12_comesOut 17 = .ok (.iaload, 1) := o46 ac_cX12_comesOut_16 1 rfl
theorem dX12_comesOut_18 : decode cX12_comesOut 18 = .ok (.istore_n 2, 1) := o61 ac_cX12_comesOut_16 2 rfl
theorem dX12_comesOut_19 : decode cX12_comesOut 19 = .ok (.iload_n 2, 1) := o28 ac_cX12_comesOut_16 3 rfl
theorem dX12_comesOut_20 : decode cX12_comesOut 20 = .ok (.bipush 6, 2) := o16p ac_cX12_comesOut_16 4 6 rfl rfl
theorem dX12_comesOut_22 : decode cX12_comesOut 22 = .ok (.if_icmp .eq 19, 3) := o159p ac_cX12_comesOut_16 6 0 19 rfl rfl
theorem dX12_comesOut_25 : decode cX12_comesOut 25 = .ok (.iload_n 1, 1) := o27 ac_cX12_comesOut_16 9 rfl
theorem dX12_comesOut_26 : decode cX12_comesOut 26 = .ok (.ifCond .eq 16, 3) := o153p ac_cX12_comesOut_16 10 0 16 rfl rfl
theorem dX12_comesOut_29 : decode cX12_comesOut 29 = .ok (.iload_n 2, 1) := o28 ac_cX12_comesOut_16 13 rfl
theorem dX12_comesOut_30 : decode cX12_comesOut 30 = .ok (.bipush 8, 2) := o16p ac_cX12_comesOut_16 14 8 rfl rfl
def kb_cX12_comesOut_32 : List Nat := [159, 0, 9, 28, 16, 9, 160, 0, 4, 177, 42, 89, 180, 1, 28, 4, 100, 181, 1, 28]
theorem ac_cX12_comesOut_32 : AL cX12_comesOut 32 kb_cX12_comesOut_32 := AL.of (m := 20) (by decide +kernel)
theorem dX12_comesOut_32 : decode cX12_comesOut 32 = .ok (.if_icmp .eq 9, 3) := o159p ac_cX12_comesOut_32 0 0 9 rfl rfl
theorem dX12_comesOut_35 : decode cX12_comesOut 35 = .ok (.iload_n 2, 1) := o28 ac_cX12_comesOut_32 3 rfl
theorem dX12_comesOut_36 : decode cX12_comesOut 36 = .ok (.bipush 9, 2) := o16p ac_cX12_comesOut_32 4 9 rfl rfl
theorem dX12_comesOut_38 : decode cX12_comesOut 38 = .ok (.if_icmp .ne 4, 3) := o160p ac_cX12_comesOut_32 6 0 4 rfl rfl
theorem dX12_comesOut_41 : decode cX12_comesOut 41 = .ok (.return_, 1) := o177 ac_cX12_comesOut_32 9 rfl
theorem dX12_comesOut_42 : decode cX12_comesOut 42 = .ok (.aload_n 0, 1) := o42 ac_cX12_comesOut_32 10 rfl
theorem dX12_comesOut_43 : decode cX12_comesOut 43 = .ok (.dup, 1) := o89 ac_cX12_comesOut_32 11 rfl
theorem dX12_comesOut_44 : decode cX12_comesOut 44 = .ok (.getfield 284, 3) := o180 ac_cX12_comesOut_32 12 1 28 rfl
theorem dX12_comesOut_47 : decode cX12_comesOut 47 = .ok (.iconst 1, 1) := o4 ac_cX12_comesOut_32 15 rfl
def kb_cX12_comesOut_48 : List Nat := [100, 181, 1, 28, 42, 28, 16, 8, 160, 0, 7, 5, 167, 0, 24, 28, 16, 9, 160, 0]
theorem ac_cX12_comesOut_48 : AL cX12_comesOut 48 kb_cX12_comesOut_48 := AL.of (m := 20) (by decide +kernel)
theorem dX12_comesOut_48 : decode cX12_comesOut 48 = .ok (.isub, 1) := o100 ac_cX12_comesOut_48 0 rfl
theorem dX12_comesOut_49 : decode cX12_comesOut 49 = .ok (.putfield 284, 3) := o181 ac_cX12_comesOut_48 1 1 28 rfl
theorem dX12_comesOut_52 : decode cX12_comesOut 52 = .ok (.aload_n 0, 1) := o42 ac_cX12_comesOut_48 4 rfl
theorem dX12_comesOut_53 : decode cX12_comesOut 53 = .ok (.iload_n 2, 1) := o28 ac_cX12_comesOut_48 5 rfl
theorem dX12_comesOut_54 : decode cX12_comesOut 54 = .ok (.bipush 8, 2) := o16p ac_cX12_comesOut_48 6 8 rfl rfl
theorem dX12_comesOut_56 : decode cX12_comesOut 56 = .ok (.if_icmp .ne 7, 3) := o160p ac_cX12_comesOut_48 8 0 7 rfl rfl
theorem dX12_comesOut_59 : decode cX12_comesOut 59 = .ok (.iconst 2, 1) := o5 ac_cX12_comesOut_48 11 rfl
theorem dX12_comesOut_60 : decode cX12_comesOut 60 = .ok (.goto 24, 3) := o167p ac_cX12_comesOut_48 12 0 24 rfl rfl
theorem dX12_comesOut_63 : decode cX12_comesOut 63 = .ok (.iload_n 2, 1) := o28 ac_cX12_comesOut_48 15 rfl
def kb_cX12_comesOut_64 : List Nat := [16, 9, 160, 0, 7, 6, 167, 0, 14, 28, 16, 10, 160, 0, 7, 7, 167, 0, 4, 8]
theorem ac_cX12_comesOut_64 : AL cX12_comesOut 64 kb_cX12_comesOut_64 := AL.of (m := 20) (by decide +kernel)
theorem dX12_comesOut_64 : decode cX12_comesOut 64 = .ok (.bipush 9, 2) := o16p ac_cX12_comesOut_64 0 9 rfl rfl
theorem dX12_comesOut_66 : decode cX12_comesOut 66 = .ok (.if_icmp .ne 7, 3) := o160p ac_cX12_comesOut_64 2 0 7 rfl rfl
theorem dX12_comesOut_69 : decode cX12_comesOut 69 = .ok (.iconst 3, 1) := o6 ac_cX12_comesOut_64 5 rfl
theorem dX12_comesOut_70 : decode cX12_comesOut 70 = .ok (.goto 14, 3) := o167p ac_cX12_comesOut_64 6 0 14 rfl rfl
theorem dX12_comesOut_73 : decode cX12_comesOut 73 = .ok (.iload_n 2, 1) := o28 ac_cX12_comesOut_64 9 rfl
theorem dX12_comesOut_74 : decode cX12_comesOut 74 = .ok (.bipush 10, 2) := o16p ac_cX12_comesOut_64 10 10 rfl rfl
theorem dX12_comesOut_76 : decode cX12_comesOut 76 = .ok (.if_icmp .ne 7, 3) := o160p ac_cX12_comesOut_64 12 0 7 rfl rfl
theorem dX12_comesOut_79 : decode cX12_comesOut 79 = .ok (.iconst 4, 1) := o7 ac_cX12_comesOut_64 15 rfl
def kb_cX12_comesOut_80 : List Nat := [167, 0, 4, 8, 3, 182, 1, 31, 167, 255, 168, 177]
theorem ac_cX12_comesOut_80 : AL cX12_comesOut 80 kb_cX12_comesOut_80 := AL.of (m := 12) (by decide +kernel)
theorem dX12_comesOut_80 : decode cX12_comesOut 80 = .ok (.goto 4, 3) := o167p ac_cX12_comesOut_80 0 0 4 rfl rfl
theorem dX12_comesOut_83 : decode cX12_comesOut 83 = .ok (.iconst 5, 1) := o8 ac_cX12_comesOut_80 3 rfl
theorem dX12_comesOut_84 : decode cX12_comesOut 84 = .ok (.iconst 0, 1) := o3 ac_cX12_comesOut_80 4 rfl
theorem dX12_comesOut_85 : decode cX12_comesOut 85 = .ok (.invokevirtual 287, 3) := o182 ac_cX12_comesOut_80 5 1 31 rfl
theorem dX12_comesOut_88 : decode cX12_comesOut 88 = .ok (.goto (-88), 3) := o167n ac_cX12_comesOut_80 8 255 168 87 rfl rfl rfl
theorem dX12_comesOut_91 : decode cX12_comesOut 91 = .ok (.return_, 1) := o177 ac_cX12_comesOut_80 11 rfl
def kb_cX12_expression_0 : List Nat := [42, 3, 181, 1, 28, 42, 180, 0, 218, 60, 4, 61, 28, 153, 1, 3, 42, 180, 0, 191]
theorem ac_cX12_expression_0 : AL cX12_expression 0 kb_cX12_expression_0 := AL.of (m := 20) (by decide +kernel)
theorem dX12_expression_0 : decode cX12_expression 0 = .ok (.aload_n 0, 1) := o42 ac_cX12_expression_0 0 rfl
theorem dX12_expression_1 : decode cX12_expression 1 = .ok (.iconst 0, 1) := o3 ac_cX12_expression_0 1 rfl
theorem dX12_expression_2 : decode cX12_expression 2 = .ok (.putfield 284, 3) := o181 ac_cX12_expression_0 2 1 28 rfl
theorem dX12_expression_5 : decode cX12_expression 5 = .ok (.aload_n 0, 1) := o42 ac_cX12_expression_0 5 rfl
theorem dX12_expression_6 : decode cX12_expression 6 = .ok (.getfield 218, 3) := o180 ac_cX12_expression_0 6 0 218 rfl
theorem dX12_expression_9 : decode cX12_expression 9 = .ok (.istore_n 1, 1) := o60 ac_cX12_expression_0 9 rfl
theorem dX12_expression_10 : decode cX12_expression 10 = .ok (.iconst 1, 1) := o4 ac_cX12_expression_0 10 rfl
theorem dX12_expression_11 : decode cX12_expression 11 = .ok (.istore_n 2, 1) := o61 ac_cX12_expression_0 11 rfl
theorem dX12_expression_12 : decode cX12_expression 12 = .ok (.iload_n 2, 1) := o28 ac_cX12_expression_0 12 rfl
theorem dX12_expression_13 : decode cX12_expression 13 = .ok (.ifCond .eq 259, 3) := o153p ac_cX12_expression_0 13 1 3 rfl rfl
def kb_cX12_expression_16 : List Nat := [42, 180, 0, 191, 154, 0, 252, 42, 16, 6, 182, 0, 209, 153, 0, 55, 42, 180, 0, 218]
theorem ac_cX12_expression_16 : AL cX12_expression 16 kb_cX12_expression_16 := AL.of (m := 20) (by decide +kernel)
theorem dX12_expression_16 : decode cX12_expression 16 = .ok (.aload_n 0, 1) := o42 ac_cX12_expression_16 0 rfl
theorem dX12_expression_17 : decode cX12_expression 17 = .ok (.getfield 191, 3) := o180 ac_cX12_expression_16 1 0 191 rfl
theorem dX12_expression_20 : decode cX12_expression 20 = .ok (.ifCond .ne 252, 3) := o154p ac_cX12_expression_16 4 0 252 rfl rfl
theorem dX12_expression_23 : decode cX12_expression 23 = .ok (.aload_n 0, 1) := o42 ac_cX12_expression_16 7 rfl
theorem dX12_expression_24 : decode cX12_expression 24 = .ok (.bipush 6, 2) := o16p ac_cX12_expression_16 8 6 rfl rfl
theorem dX12_expression_26 : decode cX12_expression 26 = .ok (.invokevirtual 209, 3) := o182 ac_cX12_expression_16 10 0 209 rfl
theorem dX12_expression_29 : decode cX12_expression 29 = .ok (.ifCond .eq 55, 3) := o153p ac_cX12_expression_16 13 0 55 rfl rfl
def kb_cX12_expression_32 : List Nat := [42, 180, 0, 218, 16, 6, 160, 0, 8, 42, 5, 182, 0, 206, 42, 89, 180, 0, 218, 4]
theorem ac_cX12_expression_32 : AL cX12_expression 32 kb_cX12_expression_32 := AL.of (m := 20) (by decide +kernel)
theorem dX12_expression_32 : decode cX12_expression 32 = .ok (.aload_n 0, 1) := o42 ac_cX12_expression_32 0 rfl
theorem dX12_expression_33 : decode cX12_expression 33 = .ok (.getfield 218, 3) := o180 ac_cX12_expression_32 1 0 218 rfl
theorem dX12_expression_36 : decode cX12_expression 36 = .ok (.bipush 6, 2) := o16p ac_cX12_expression_32 4 6 rfl rfl
theorem dX12_expression_38 : decode cX12_expression 38 = .ok (.if_icmp .ne 8, 3) := o160p ac_cX12_expression_32 6 0 8 rfl rfl
theorem dX12_expression_41 : decode cX12_expression 41 = .ok (.aload_n 0, 1) := o42 ac_cX12_expression_32 9 rfl
theorem dX12_expression_42 : decode cX12_expression 42 = .ok (.iconst 2, 1) := o5 ac_cX12_expression_32 10 rfl
theorem dX12_expression_43 : decode cX12_expression 43 = .ok (.invokevirtual 206, 3) := o182 ac_cX12_expression_32 11 0 206 rfl
theorem dX12_expression_46 : decode cX12_expression 46 = .ok (.aload_n 0, 1) := o42 ac_cX12_expression_32 14 rfl
theorem dX12_expression_47 : decode cX12_expression 47 = .ok (.dup, 1) := o89 ac_cX12_expression_32 15 rfl
def kb_cX12_expression_48 : List Nat := [180, 0, 218, 4, 96, 181, 0, 218, 42, 182, 0, 212, 42, 180, 0, 98, 42, 180, 1, 28]
theorem ac_cX12_expression_48 : AL cX12_expression 48 kb_cX12_expression_48 := AL.of (m := 20) (by decide +kernel)
theorem dX12_expression_48 : decode cX12_expression 48 = .ok (.getfield 218, 3) := o180 ac_cX12_expression_48 0 0 218 rfl
theorem dX12_expression_51 : decode cX12_expression 51 = .ok (.iconst 1, 1) := o4 ac_cX12_expression_48 3 rfl
theorem dX12_expression_52 : decode cX12_expression 52 = .ok (.iadd, 1) := o96 ac_cX12_expression_48 4 rfl
theorem dX12_expression_53 : decode cX12_expression 53 = .ok (.putfield 218, 3) := o181 ac_cX12_expression_48 5 0 218 rfl
theorem dX12_expression_56 : decode cX12_expression 56 = .ok (.aload_n 0, 1) := o42 ac_cX12_expression_48 8 rfl
theorem dX12_expression_57 : decode cX12_expression 57 = .ok (.invokevirtual 212, 3) := o182 ac_cX12_expression_48 9 0 212 rfl
theorem dX12_expression_60 : decode cX12_expression 60 = .ok (.aload_n 0, 1) := o42 ac_cX12_expression_48 12 rfl
theorem dX12_expression_61 : decode cX12_expression 61 = .ok (.getfield 98, 3) := o180 ac_cX12_expression_48 13 0 98 rfl
def kb_cX12_expression_64 : List Nat := [42, 180, 1, 28, 16, 6, 79, 42, 89, 180, 1, 28, 4, 96, 181, 1, 28, 167, 255, 198]
theorem ac_cX12_expression_64 : AL cX12_expression 64 kb_cX12_expression_64 := AL.of (m := 20) (by decide +kernel)
theorem dX12_expression_64 : decode cX12_expression 64 = .ok (.aload_n 0, 1) := o42 ac_cX12_expression_64 0 rfl
theorem dX12_expression_65 : decode cX12_expression 65 = .ok (.getfield 284, 3) := o180 ac_cX12_expression_64 1 1 28 rfl
theorem dX12_expression_68 : decode cX12_expression 68 = .ok (.bipush 6, 2) := o16p ac_cX12_expression_64 4 6 rfl rfl
theorem dX12_expression_70 : decode cX12_expression 70 = .ok (.iastore, 1) := o79 ac_cX12_expression_64 6 rfl
theorem dX12_expression_71 : decode cX12_expression 71 = .ok (.aload_n 0, 1) := o42 ac_cX12_expression_64 7 rfl
theorem dX12_expression_72 : decode cX12_expression 72 = .ok (.dup, 1) := o89 ac_cX12_expression_64 8 rfl
theorem dX12_expression_73 : decode cX12_expression 73 = .ok (.getfield 284, 3) := o180 ac_cX12_expression_64 9 1 28 rfl
theorem dX12_expression_76 : decode cX12_expression 76 = .ok (.iconst 1, 1) := o4 ac_cX12_expression_64 12 rfl
theorem dX12_expression_77 : decode cX12_expression 77 = .ok (.iadd, 1) := o96 ac_cX12_expression_64 13 rfl
theorem dX12_expression_78 : decode cX12_expression 78 = .ok (.putfield 284, 3) := o181 ac_cX12_expression_64 14 1 28 rfl
def kb_cX12_expression_80 : List Nat := [28, 167, 255, 198, 42, 182, 1, 34, 42, 180, 0, 191, 158, 0, 4, 177, 42, 16, 7, 182]
theorem ac_cX12_expression_80 : AL cX12_expression 80 kb_cX12_expression_80 := AL.of (m := 20) (by decide +kernel)
theorem dX12_expression_81 : decode cX12_expression 81 = .ok (.goto (-58), 3) := o167n ac_cX12_expression_80 1 255 198 57 rfl rfl rfl
theorem dX12_expression_84 : decode cX12_expression 84 = .ok (.aload_n 0, 1) := o42 ac_cX12_expression_80 4 rfl
theorem dX12_expression_85 : decode cX12_expression 85 = .ok (.invokevirtual 290, 3) := o182 ac_cX12_expression_80 5 1 34 rfl
theorem dX12_expression_88 : decode cX12_expression 88 = .ok (.aload_n 0, 1) := o42 ac_cX12_expression_80 8 rfl
theorem dX12_expression_89 : decode cX12_expression 89 = .ok (.getfield 191, 3) := o180 ac_cX12_expression_80 9 0 191 rfl
theorem dX12_expression_92 : decode cX12_expression 92 = .ok (.ifCond .le 4, 3) := o158p ac_cX12_expression_80 12 0 4 rfl rfl
theorem dX12_expression_95 : decode cX12_expression 95 = .ok (.return_, 1) := o177 ac_cX12_expression_80 15 rfl
def kb_cX12_expression_96 : List Nat := [42, 16, 7, 182, 0, 209, 153, 0, 43, 42, 180, 0, 218, 27, 164, 0, 35, 42, 3, 182]
theorem ac_cX12_expression_96 : AL cX12_expression 96 kb_cX12_expression_96 := AL.of (m := 20) (by decide +kernel)
theorem dX12_expression_96 : decode cX12_expression 96 = .ok (.aload_n 0, 1) := o42 ac_cX12_expression_96 0 rfl
theorem dX12_expression_97 : decode cX12_expression 97 = .ok (.bipush 7, 2) := o16p ac_cX12_expression_96 1 7 rfl rfl
theorem dX12_expression_99 : decode cX12_expression 99 = .ok (.invokevirtual 209, 3) := o182 ac_cX12_expression_96 3 0 209 rfl
theorem dX12_expression_102 : decode cX12_expression 102 = .ok (.ifCond .eq 43, 3) := o153p ac_cX12_expression_96 6 0 43 rfl rfl
theorem dX12_expression_105 : decode cX12_expression 105 = .ok (.aload_n 0, 1) := o42 ac_cX12_expression_96 9 rfl
theorem dX12_expression_106 : decode cX12_expression 106 = .ok (.getfield 218, 3) := o180 ac_cX12_expression_96 10 0 218 rfl
theorem dX12_expression_109 : decode cX12_expression 109 = .ok (.iload_n 1, 1) := o27 ac_cX12_expression_96 13 rfl
theorem dX12_expression_110 : decode cX12_expression 110 = .ok (.if_icmp .le 35, 3) := o164p ac_cX12_expression_96 14 0 35 rfl rfl
def kb_cX12_expression_112 : List Nat := [35, 42, 3, 182, 1, 37, 42, 89, 180, 1, 28, 4, 100, 181, 1, 28, 42, 89, 180, 0]
theorem ac_cX12_expression_112 : AL cX12_expression 112 kb_cX12_expression_112 := AL.of (m := 20) (by decide +kernel)
theorem dX12_expression_113 : decode cX12_expression 113 = .ok (.aload_n 0, 1) := o42 ac_cX12_expression_112 1 rfl
theorem dX12_expression_114 : decode cX12_expression 114 = .ok (.iconst 0, 1) := o3 ac_cX12_expression_112 2 rfl
theorem dX12_expression_115 : decode cX12_expression 115 = .ok (.invokevirtual 293, 3) := o182 ac_cX12_expression_112 3 1 37 rfl
theorem dX12_expression_118 : decode cX12_expression 118 = .ok (.aload_n 0, 1) := o42 ac_cX12_expression_112 6 rfl
theorem dX12_expression_119 : decode cX12_expression 119 = .ok (.dup, 1) := o89 ac_cX12_expression_112 7 rfl
theorem dX12_expression_120 : decode cX12_expression 120 = .ok (.getfield 284, 3) := o180 ac_cX12_expression_112 8 1 28 rfl
theorem dX12_expression_123 : decode cX12_expression 123 = .ok (.iconst 1, 1) := o4 ac_cX12_expression_112 11 rfl
theorem dX12_expression_124 : decode cX12_expression 124 = .ok (.isub, 1) := o100 ac_cX12_expression_112 12 rfl
theorem dX12_expression_125 : decode cX12_expression 125 = .ok (.putfield 284, 3) := o181 ac_cX12_expression_112 13 1 28 rfl
def kb_cX12_expression_128 : List Nat := [42, 89, 180, 0, 218, 4, 100, 181, 0, 218, 42, 182, 0, 212, 167, 255, 210, 42, 16, 8]
theorem ac_cX12_expression_128 : AL cX12_expression 128 kb_cX12_expression_128 := AL.of (m := 20) (by decide +kernel)
theorem dX12_expression_128 : decode cX12_expression 128 = .ok (.aload_n 0, 1) := o42 ac_cX12_expression_128 0 rfl
theorem dX12_expression_129 : decode cX12_expression 129 = .ok (.dup, 1) := o89 ac_cX12_expression_128 1 rfl
theorem dX12_expression_130 : decode cX12_expression 130 = .ok (.getfield 218, 3) := o180 ac_cX12_expression_128 2 0 218 rfl
theorem dX12_expression_133 : decode cX12_expression 133 = .ok (.iconst 1, 1) := o4 ac_cX12_expression_128 5 rfl
theorem dX12_expression_134 : decode cX12_expression 134 = .ok (.isub, 1) := o100 ac_cX12_expression_128 6 rfl
theorem dX12_expression_135 : decode cX12_expression 135 = .ok (.putfield 218, 3) := o181 ac_cX12_expression_128 7 0 218 rfl
theorem dX12_expression_138 : decode cX12_expression 138 = .ok (.aload_n 0, 1) := o42 ac_cX12_expression_128 10 rfl
theorem dX12_expression_139 : decode cX12_expression 139 = .ok (.invokevirtual 212, 3) := o182 ac_cX12_expression_128 11 0 212 rfl
theorem dX12_expression_142 : decode cX12_expression 142 = .ok (.goto (-46), 3) := o167n ac_cX12_expression_128 14 255 210 45 rfl rfl rfl
def kb_cX12_expression_144 : List Nat := [210, 42, 16, 8, 182, 0, 209, 154, 0, 30, 42, 16, 9, 182, 0, 209, 154, 0, 21, 42]
theorem ac_cX12_expression_144 : AL cX12_expression 144 kb_cX12_expression_144 := AL.of (m := 20) (by decide +kernel)
theorem dX12_expression_145 : decode cX12_expression 145 = .ok (.aload_n 0, 1) := o42 ac_cX12_expression_144 1 rfl
theorem dX12_expression_146 : decode cX12_expression 146 = .ok (.bipush 8, 2) := o16p ac_cX12_expression_144 2 8 rfl rfl
theorem dX12_expression_148 : decode cX12_expression 148 = .ok (.invokevirtual 209, 3) := o182 ac_cX12_expression_144 4 0 209 rfl
theorem dX12_expression_151 : decode cX12_expression 151 = .ok (.ifCond .ne 30, 3) := o154p ac_cX12_expression_144 7 0 30 rfl rfl
theorem dX12_expression_154 : decode cX12_expression 154 = .ok (.aload_n 0, 1) := o42 ac_cX12_expression_144 10 rfl
theorem dX12_expression_155 : decode cX12_expression 155 = .ok (.bipush 9, 2) := o16p ac_cX12_expression_144 11 9 rfl rfl
theorem dX12_expression_157 : decode cX12_expression 157 = .ok (.invokevirtual 209, 3) := o182 ac_cX12_expression_144 13 0 209 rfl
def kb_cX12_expression_160 : List Nat := [154, 0, 21, 42, 16, 10, 182, 0, 209, 154, 0, 12, 42, 16, 15, 182, 0, 209, 153, 0]
theorem ac_cX12_expression_160 : AL cX12_expression 160 kb_cX12_expression_160 := AL.of (m := 20) (by decide +kernel)
theorem dX12_expression_160 : decode cX12_expression 160 = .ok (.ifCond .ne 21, 3) := o154p ac_cX12_expression_160 0 0 21 rfl rfl
theorem dX12_expression_163 : decode cX12_expression 163 = .ok (.aload_n 0, 1) := o42 ac_cX12_expression_160 3 rfl
theorem dX12_expression_164 : decode cX12_expression 164 = .ok (.bipush 10, 2) := o16p ac_cX12_expression_160 4 10 rfl rfl
theorem dX12_expression_166 : decode cX12_expression 166 = .ok (.invokevirtual 209, 3) := o182 ac_cX12_expression_160 6 0 209 rfl
theorem dX12_expression_169 : decode cX12_expression 169 = .ok (.ifCond .ne 12, 3) := o154p ac_cX12_expression_160 9 0 12 rfl rfl
theorem dX12_expression_172 : decode cX12_expression 172 = .ok (.aload_n 0, 1) := o42 ac_cX12_expression_160 12 rfl
theorem dX12_expression_173 : decode cX12_expression 173 = .ok (.bipush 15, 2) := o16p ac_cX12_expression_160 13 15 rfl rfl
theorem dX12_expression_175 : decode cX12_expression 175 = .ok (.invokevirtual 209, 3) := o182 ac_cX12_expression_160 15 0 209 rfl
def kb_cX12_expression_176 : List Nat := [0, 209, 153, 0, 7, 4, 167, 0, 4, 3, 61, 28, 154, 0, 22, 42, 180, 0, 218, 27]
theorem ac_cX12_expression_176 : AL cX12_expression 176 kb_cX12_expression_176 := AL.of (m := 20) (by decide +kernel)
theorem dX12_expression_178 : decode cX12_expression 178 = .ok (.ifCond .eq 7, 3) := o153p ac_cX12_expression_176 2 0 7 rfl rfl
theorem dX12_expression_181 : decode cX12_expression 181 = .ok (.iconst 1, 1) := o4 ac_cX12_expression_176 5 rfl
theorem dX12_expression_182 : decode cX12_expression 182 = .ok (.goto 4, 3) := o167p ac_cX12_expression_176 6 0 4 rfl rfl
theorem dX12_expression_185 : decode cX12_expression 185 = .ok (.iconst 0, 1) := o3 ac_cX12_expression_176 9 rfl
theorem dX12_expression_186 : decode cX12_expression 186 = .ok (.istore_n 2, 1) := o61 ac_cX12_expression_176 10 rfl
theorem dX12_expression_187 : decode cX12_expression 187 = .ok (.iload_n 2, 1) := o28 ac_cX12_expression_176 11 rfl
theorem dX12_expression_188 : decode cX12_expression 188 = .ok (.ifCond .ne 22, 3) := o154p ac_cX12_expression_176 12 0 22 rfl rfl
theorem dX12_expression_191 : decode cX12_expression 191 = .ok (.aload_n 0, 1) := o42 ac_cX12_expression_176 15 rfl
def kb_cX12_expression_192 : List Nat := [180, 0, 218, 27, 164, 0, 8, 42, 4, 182, 0, 206, 42, 3, 182, 1, 37, 177, 42, 42]
theorem ac_cX12_expression_192 : AL cX12_expression 192 kb_cX12_expression_192 := AL.of (m := 20) (by decide +kernel)
theorem dX12_expression_192 : decode cX12_expression 192 = .ok (.getfield 218, 3) := o180 ac_cX12_expression_192 0 0 218 rfl
theorem dX12_expression_195 : decode cX12_expression 195 = .ok (.iload_n 1, 1) := o27 ac_cX12_expression_192 3 rfl
theorem dX12_expression_196 : decode cX12_expression 196 = .ok (.if_icmp .le 8, 3) := o164p ac_cX12_expression_192 4 0 8 rfl rfl
theorem dX12_expression_199 : decode cX12_expression 199 = .ok (.aload_n 0, 1) := o42 ac_cX12_expression_192 7 rfl
theorem dX12_expression_200 : decode cX12_expression 200 = .ok (.iconst 1, 1) := o4 ac_cX12_expression_192 8 rfl
theorem dX12_expression_201 : decode cX12_expression 201 = .ok (.invokevirtual 206, 3) := o182 ac_cX12_expression_192 9 0 206 rfl
theorem dX12_expression_204 : decode cX12_expression 204 = .ok (.aload_n 0, 1) := o42 ac_cX12_expression_192 12 rfl
theorem dX12_expression_205 : decode cX12_expression 205 = .ok (.iconst 0, 1) := o3 ac_cX12_expression_192 13 rfl
theorem dX12_expression_206 : decode cX12_expression 206 = .ok (.invokevirtual 293, 3) := o182 ac_cX12_expression_192 14 1 37 rfl
def kb_cX12_expression_208 : List Nat := [37, 177, 42, 42, 16, 10, 182, 0, 209, 154, 0, 12, 42, 16, 15, 182, 0, 209, 153, 0]
theorem ac_cX12_expression_208 : AL cX12_expression 208 kb_cX12_expression_208 := AL.of (m := 20) (by decide +kernel)
theorem dX12_expression_209 : decode cX12_expression 209 = .ok (.return_, 1) := o177 ac_cX12_expression_208 1 rfl
theorem dX12_expression_210 : decode cX12_expression 210 = .ok (.aload_n 0, 1) := o42 ac_cX12_expression_208 2 rfl
theorem dX12_expression_211 : decode cX12_expression 211 = .ok (.aload_n 0, 1) := o42 ac_cX12_expression_208 3 rfl
theorem dX12_expression_212 : decode cX12_expression 212 = .ok (.bipush 10, 2) := o16p ac_cX12_expression_208 4 10 rfl rfl
theorem dX12_expression_214 : decode cX12_expression 214 = .ok (.invokevirtual 209, 3) := o182 ac_cX12_expression_208 6 0 209 rfl
theorem dX12_expression_217 : decode cX12_expression 217 = .ok (.ifCond .ne 12, 3) := o154p ac_cX12_expression_208 9 0 12 rfl rfl
theorem dX12_expression_220 : decode cX12_expression 220 = .ok (.aload_n 0, 1) := o42 ac_cX12_expression_208 12 rfl
theorem dX12_expression_221 : decode cX12_expression 221 = .ok (.bipush 15, 2) := o16p ac_cX12_expression_208 13 15 rfl rfl
theorem dX12_expression_223 : decode cX12_expression 223 = .ok (.invokevirtual 209, 3) := o182 ac_cX12_expression_208 15 0 209 rfl
def kb_cX12_expression_224 : List Nat := [0, 209, 153, 0, 7, 4, 167, 0, 4, 3, 182, 1, 37, 42, 180, 0, 98, 42, 180, 1]
theorem ac_cX12_expression_224 : AL cX12_expression 224 kb_cX12_expression_224 := AL.of (m := 20) (by decide +kernel)
theorem dX12_expression_226 : decode cX12_expression 226 = .ok (.ifCond .eq 7, 3) := o153p ac_cX12_expression_224 2 0 7 rfl rfl
theorem dX12_expression_229 : decode cX12_expression 229 = .ok (.iconst 1, 1) := o4 ac_cX12_expression_224 5 rfl
theorem dX12_expression_230 : decode cX12_expression 230 = .ok (.goto 4, 3) := o167p ac_cX12_expression_224 6 0 4 rfl rfl
theorem dX12_expression_233 : decode cX12_expression 233 = .ok (.iconst 0, 1) := o3 ac_cX12_expression_224 9 rfl
theorem dX12_expression_234 : decode cX12_expression 234 = .ok (.invokevirtual 293, 3) := o182 ac_cX12_expression_224 10 1 37 rfl
theorem dX12_expression_237 : decode cX12_expression 237 = .ok (.aload_n 0, 1) := o42 ac_cX12_expression_224 13 rfl
theorem dX12_expression_238 : decode cX12_expression 238 = .ok (.getfield 98, 3) := o180 ac_cX12_expression_224 14 0 98 rfl
def kb_cX12_expression_240 : List Nat := [98, 42, 180, 1, 28, 42, 180, 0, 20, 42, 180, 0, 194, 46, 79, 42, 89, 180, 1, 28]
theorem ac_cX12_expression_240 : AL cX12_expression 240 kb_cX12_expression_240 := AL.of (m := 20) (by decide +kernel)
theorem dX12_expression_241 : decode cX12_expression 241 = .ok (.aload_n 0, 1) := o42 ac_cX12_expression_240 1 rfl
theorem dX12_expression_242 : decode cX12_expression 242 = .ok (.getfield 284, 3) := o180 ac_cX12_expression_240 2 1 28 rfl
theorem dX12_expression_245 : decode cX12_expression 245 = .ok (.aload_n 0, 1) := o42 ac_cX12_expression_240 5 rfl
theorem dX12_expression_246 : decode cX12_expression 246 = .ok (.getfield 20, 3) := o180 ac_cX12_expression_240 6 0 20 rfl
theorem dX12_expression_249 : decode cX12_expression 249 = .ok (.aload_n 0, 1) := o42 ac_cX12_expression_240 9 rfl
theorem dX12_expression_250 : decode cX12_expression 250 = .ok (.getfield 194, 3) := o180 ac_cX12_expression_240 10 0 194 rfl
theorem dX12_expression_253 : decode cX12_expression 253 = .ok (.iaload, 1) := o46 ac_cX12_expression_240 13 rfl
theorem dX12_expression_254 : decode cX12_expression 254 = .ok (.iastore, 1) := o79 ac_cX12_expression_240 14 rfl
theorem dX12_expression_255 : decode cX12_expression 255 = .ok (.aload_n 0, 1) := o42 ac_cX12_expression_240 15 rfl
def kb_cX12_expression_256 : List Nat := [89, 180, 1, 28, 4, 96, 181, 1, 28, 42, 182, 0, 212, 167, 254, 255, 177]
theorem ac_cX12_expression_256 : AL cX12_expression 256 kb_cX12_expression_256 := AL.of (m := 17) (by decide +kernel)
theorem dX12_expression_256 : decode cX12_expression 256 = .ok (.dup, 1) := o89 ac_cX12_expression_256 0 rfl
theorem dX12_expression_257 : decode cX12_expression 257 = .ok (.getfield 284, 3) := o180 ac_cX12_expression_256 1 1 28 rfl
theorem dX12_expression_260 : decode cX12_expression 260 = .ok (.iconst 1, 1) := o4 ac_cX12_expression_256 4 rfl
theorem dX12_expression_261 : decode cX12_expression 261 = .ok (.iadd, 1) := o96 ac_cX12_expression_256 5 rfl
theorem dX12_expression_262 : decode cX12_expression 262 = .ok (.putfield 284, 3) := o181 ac_cX12_expression_256 6 1 28 rfl
theorem dX12_expression_265 : decode cX12_expression 265 = .ok (.aload_n 0, 1) := o42 ac_cX12_expression_256 9 rfl
theorem dX12_expression_266 : decode cX12_expression 266 = .ok (.invokevirtual 212, 3) := o182 ac_cX12_expression_256 10 0 212 rfl
theorem dX12_expression_269 : decode cX12_expression 269 = .ok (.goto (-257), 3) := o167n ac_cX12_expression_256 13 254 255 256 rfl rfl rfl
def kb_cX12_expression_272 : List Nat := [177]
theorem ac_cX12_expression_272 : AL cX12_expression 272 kb_cX12_expression_272 := AL.of (m := 1) (by decide +kernel)
theorem dX12_expression_272 : decode cX12_expression 272 = .ok (.return_, 1) := o177 ac_cX12_expression_272 0 rfl
def kb_cX12_term_0 : List Nat := [42, 180, 0, 86, 42, 180, 0, 230, 42, 180, 0, 233, 79, 42, 180, 0, 191, 154, 0, 7]
theorem ac_cX12_term_0 : AL cX12_term 0 kb_cX12_term_0 := AL.of (m := 20) (by decide +kernel)
theorem dX12_term_0 : decode cX12_term 0 = .ok (.aload_n 0, 1) := o42 ac_cX12_term_0 0 rfl
theorem dX12_term_1 : decode cX12_term 1 = .ok (.getfield 86, 3) := o180 ac_cX12_term_0 1 0 86 rfl
theorem dX12_term_4 : decode cX12_term 4 = .ok (.aload_n 0, 1) := o42 ac_cX12_term_0 4 rfl
theorem dX12_term_5 : decode cX12_term 5 = .ok (.getfield 230, 3) := o180 ac_cX12_term_0 5 0 230 rfl
theorem dX12_term_8 : decode cX12_term 8 = .ok (.aload_n 0, 1) := o42 ac_cX12_term_0 8 rfl
theorem dX12_term_9 : decode cX12_term 9 = .ok (.getfield 233, 3) := o180 ac_cX12_term_0 9 0 233 rfl
theorem dX12_term_12 : decode cX12_term 12 = .ok (.iastore, 1) := o79 ac_cX12_term_0 12 rfl
theorem dX12_term_13 : decode cX12_term 13 = .ok (.aload_n 0, 1) := o42 ac_cX12_term_0 13 rfl
theorem dX12_term_14 : decode cX12_term 14 = .ok (.getfield 191, 3) := o180 ac_cX12_term_0 14 0 191 rfl
def kb_cX12_term_16 : List Nat := [191, 154, 0, 7, 42, 182, 1, 22, 42, 180, 0, 89, 42, 180, 0, 230, 42, 180, 0, 233]
theorem ac_cX12_term_16 : AL cX12_term 16 kb_cX12_term_16 := AL.of (m := 20) (by decide +kernel)
theorem dX12_term_17 : decode cX12_term 17 = .ok (.ifCond .ne 7, 3) := o154p ac_cX12_term_16 1 0 7 rfl rfl
theorem dX12_term_20 : decode cX12_term 20 = .ok (.aload_n 0, 1) := o42 ac_cX12_term_16 4 rfl
theorem dX12_term_21 : decode cX12_term 21 = .ok (.invokevirtual 278, 3) := o182 ac_cX12_term_16 5 1 22 rfl
theorem dX12_term_24 : decode cX12_term 24 = .ok (.aload_n 0, 1) := o42 ac_cX12_term_16 8 rfl
theorem dX12_term_25 : decode cX12_term 25 = .ok (.getfield 89, 3) := o180 ac_cX12_term_16 9 0 89 rfl
theorem dX12_term_28 : decode cX12_term 28 = .ok (.aload_n 0, 1) := o42 ac_cX12_term_16 12 rfl
theorem dX12_term_29 : decode cX12_term 29 = .ok (.getfield 230, 3) := o180 ac_cX12_term_16 13 0 230 rfl
def kb_cX12_term_32 : List Nat := [42, 180, 0, 233, 79, 42, 89, 180, 0, 230, 4, 96, 181, 0, 230, 177]
theorem ac_cX12_term_32 : AL cX12_term 32 kb_cX12_term_32 := AL.of (m := 16) (by decide +kernel)
theorem dX12_term_32 : decode cX12_term 32 = .ok (.aload_n 0, 1) := o42 ac_cX12_term_32 0 rfl
theorem dX12_term_33 : decode cX12_term 33 = .ok (.getfield 233, 3) := o180 ac_cX12_term_32 1 0 233 rfl
theorem dX12_term_36 : decode cX12_term 36 = .ok (.iastore, 1) := o79 ac_cX12_term_32 4 rfl
theorem dX12_term_37 : decode cX12_term 37 = .ok (.aload_n 0, 1) := o42 ac_cX12_term_32 5 rfl
theorem dX12_term_38 : decode cX12_term 38 = .ok (.dup, 1) := o89 ac_cX12_term_32 6 rfl
theorem dX12_term_39 : decode cX12_term 39 = .ok (.getfield 230, 3) := o180 ac_cX12_term_32 7 0 230 rfl
theorem dX12_term_42 : decode cX12_term 42 = .ok (.iconst 1, 1) := o4 ac_cX12_term_32 10 rfl
theorem dX12_term_43 : decode cX12_term 43 = .ok (.iadd, 1) := o96 ac_cX12_term_32 11 rfl
theorem dX12_term_44 : decode cX12_term 44 = .ok (.putfield 230, 3) := o181 ac_cX12_term_32 12 0 230 rfl
theorem dX12_term_47 : decode cX12_term 47 = .ok (.return_, 1) := o177 ac_cX12_term_32 15 rfl
def kb_cX12_tellLaw_0 : List Nat := [42, 8, 182, 0, 249, 42, 180, 0, 230, 61, 3, 62, 42, 180, 0, 191, 154, 0, 113, 42]
theorem ac_cX12_tellLaw_0 : AL cX12_tellLaw 0 kb_cX12_tellLaw_0 := AL.of (m := 20) (by decide +kernel)
theorem dX12_tellLaw_0 : decode cX12_tellLaw 0 = .ok (.aload_n 0, 1) := o42 ac_cX12_tellLaw_0 0 rfl
theorem dX12_tellLaw_1 : decode cX12_tellLaw 1 = .ok (.iconst 5, 1) := o8 ac_cX12_tellLaw_0 1 rfl
theorem dX12_tellLaw_2 : decode cX12_tellLaw 2 = .ok (.invokevirtual 249, 3) := o182 ac_cX12_tellLaw_0 2 0 249 rfl
theorem dX12_tellLaw_5 : decode cX12_tellLaw 5 = .ok (.aload_n 0, 1) := o42 ac_cX12_tellLaw_0 5 rfl
theorem dX12_tellLaw_6 : decode cX12_tellLaw 6 = .ok (.getfield 230, 3) := o180 ac_cX12_tellLaw_0 6 0 230 rfl
theorem dX12_tellLaw_9 : decode cX12_tellLaw 9 = .ok (.istore_n 2, 1) := o61 ac_cX12_tellLaw_0 9 rfl
theorem dX12_tellLaw_10 : decode cX12_tellLaw 10 = .ok (.iconst 0, 1) := o3 ac_cX12_tellLaw_0 10 rfl
theorem dX12_tellLaw_11 : decode cX12_tellLaw 11 = .ok (.istore_n 3, 1) := o62 ac_cX12_tellLaw_0 11 rfl
theorem dX12_tellLaw_12 : decode cX12_tellLaw 12 = .ok (.aload_n 0, 1) := o42 ac_cX12_tellLaw_0 12 rfl
theorem dX12_tellLaw_13 : decode cX12_tellLaw 13 = .ok (.getfield 191, 3) := o180 ac_cX12_tellLaw_0 13 0 191 rfl
def kb_cX12_tellLaw_16 : List Nat := [154, 0, 113, 42, 16, 28, 182, 0, 209, 153, 0, 104, 29, 7, 160, 0, 8, 42, 5, 182]
theorem ac_cX12_tellLaw_16 : AL cX12_tellLaw 16 kb_cX12_tellLaw_16 := AL.of (m := 20) (by decide +kernel)
theorem dX12_tellLaw_16 : decode cX12_tellLaw 16 = .ok (.ifCond .ne 113, 3) := o154p ac_cX12_tellLaw_16 0 0 113 rfl rfl
theorem dX12_tellLaw_19 : decode cX12_tellLaw 19 = .ok (.aload_n 0, 1) := o42 ac_cX12_tellLaw_16 3 rfl
theorem dX12_tellLaw_20 : decode cX12_tellLaw 20 = .ok (.bipush 28, 2) := o16p ac_cX12_tellLaw_16 4 28 rfl rfl
theorem dX12_tellLaw_22 : decode cX12_tellLaw 22 = .ok (.invokevirtual 209, 3) := o182 ac_cX12_tellLaw_16 6 0 209 rfl
theorem dX12_tellLaw_25 : decode cX12_tellLaw 25 = .ok (.ifCond .eq 104, 3) := o153p ac_cX12_tellLaw_16 9 0 104 rfl rfl
theorem dX12_tellLaw_28 : decode cX12_tellLaw 28 = .ok (.iload_n 3, 1) := o29 ac_cX12_tellLaw_16 12 rfl
theorem dX12_tellLaw_29 : decode cX12_tellLaw 29 = .ok (.iconst 4, 1) := o7 ac_cX12_tellLaw_16 13 rfl
theorem dX12_tellLaw_30 : decode cX12_tellLaw 30 = .ok (.if_icmp .ne 8, 3) := o160p ac_cX12_tellLaw_16 14 0 8 rfl rfl
def kb_cX12_tellLaw_32 : List Nat := [8, 42, 5, 182, 0, 206, 42, 180, 0, 191, 158, 0, 4, 177, 132, 3, 1, 42, 182, 0]
theorem ac_cX12_tellLaw_32 : AL cX12_tellLaw 32 kb_cX12_tellLaw_32 := AL.of (m := 20) (by decide +kernel)
theorem dX12_tellLaw_33 : decode cX12_tellLaw 33 = .ok (.aload_n 0, 1) := o42 ac_cX12_tellLaw_32 1 rfl
theorem dX12_tellLaw_34 : decode cX12_tellLaw 34 = .ok (.iconst 2, 1) := o5 ac_cX12_tellLaw_32 2 rfl
theorem dX12_tellLaw_35 : decode cX12_tellLaw 35 = .ok (.invokevirtual 206, 3) := o182 ac_cX12_tellLaw_32 3 0 206 rfl
theorem dX12_tellLaw_38 : decode cX12_tellLaw 38 = .ok (.aload_n 0, 1) := o42 ac_cX12_tellLaw_32 6 rfl
theorem dX12_tellLaw_39 : decode cX12_tellLaw 39 = .ok (.getfield 191, 3) := o180 ac_cX12_tellLaw_32 7 0 191 rfl
theorem dX12_tellLaw_42 : decode cX12_tellLaw 42 = .ok (.ifCond .le 4, 3) := o158p ac_cX12_tellLaw_32 10 0 4 rfl rfl
theorem dX12_tellLaw_45 : decode cX12_tellLaw 45 = .ok (.return_, 1) := o177 ac_cX12_tellLaw_32 13 rfl
theorem dX12_tellLaw_46 : decode cX12_tellLaw 46 = .ok (.iinc 3 1, 3) := o132p ac_cX12_tellLaw_32 14 3 1 rfl rfl
def kb_cX12_tellLaw_48 : List Nat := [1, 42, 182, 0, 212, 42, 180, 0, 76, 42, 180, 0, 230, 4, 84, 42, 180, 0, 80, 42]
theorem ac_cX12_tellLaw_48 : AL cX12_tellLaw 48 kb_cX12_tellLaw_48 := AL.of (m := 20) (by decide +kernel)
theorem dX12_tellLaw_49 : decode cX12_tellLaw 49 = .ok (.aload_n 0, 1) := o42 ac_cX12_tellLaw_48 1 rfl
theorem dX12_tellLaw_50 : decode cX12_tellLaw 50 = .ok (.invokevirtual 212, 3) := o182 ac_cX12_tellLaw_48 2 0 212 rfl
theorem dX12_tellLaw_53 : decode cX12_tellLaw 53 = .ok (.aload_n 0, 1) := o42 ac_cX12_tellLaw_48 5 rfl
theorem dX12_tellLaw_54 : decode cX12_tellLaw 54 = .ok (.getfield 76, 3) := o180 ac_cX12_tellLaw_48 6 0 76 rfl
theorem dX12_tellLaw_57 : decode cX12_tellLaw 57 = .ok (.aload_n 0, 1) := o42 ac_cX12_tellLaw_48 9 rfl
theorem dX12_tellLaw_58 : decode cX12_tellLaw 58 = .ok (.getfield 230, 3) := o180 ac_cX12_tellLaw_48 10 0 230 rfl
theorem dX12_tellLaw_61 : decode cX12_tellLaw 61 = .ok (.iconst 1, 1) := o4 ac_cX12_tellLaw_48 13 rfl
theorem dX12_tellLaw_62 : decode cX12_tellLaw 62 = .ok (.bastore, 1) := o84 ac_cX12_tellLaw_48 14 rfl
theorem dX12_tellLaw_63 : decode cX12_tellLaw 63 = .ok (.aload_n 0, 1) := o42 ac_cX12_tellLaw_48 15 rfl
def kb_cX12_tellLaw_64 : List Nat := [180, 0, 80, 42, 180, 0, 230, 42, 180, 0, 233, 79, 42, 182, 1, 22, 42, 16, 13, 182]
theorem ac_cX12_tellLaw_64 : AL cX12_tellLaw 64 kb_cX12_tellLaw_64 := AL.of (m := 20) (by decide +kernel)
theorem dX12_tellLaw_64 : decode cX12_tellLaw 64 = .ok (.getfield 80, 3) := o180 ac_cX12_tellLaw_64 0 0 80 rfl
theorem dX12_tellLaw_67 : decode cX12_tellLaw 67 = .ok (.aload_n 0, 1) := o42 ac_cX12_tellLaw_64 3 rfl
theorem dX12_tellLaw_68 : decode cX12_tellLaw 68 = .ok (.getfield 230, 3) := o180 ac_cX12_tellLaw_64 4 0 230 rfl
theorem dX12_tellLaw_71 : decode cX12_tellLaw 71 = .ok (.aload_n 0, 1) := o42 ac_cX12_tellLaw_64 7 rfl
theorem dX12_tellLaw_72 : decode cX12_tellLaw 72 = .ok (.getfield 233, 3) := o180 ac_cX12_tellLaw_64 8 0 233 rfl
theorem dX12_tellLaw_75 : decode cX12_tellLaw 75 = .ok (.iastore, 1) := o79 ac_cX12_tellLaw_64 11 rfl
theorem dX12_tellLaw_76 : decode cX12_tellLaw 76 = .ok (.aload_n 0, 1) := o42 ac_cX12_tellLaw_64 12 rfl
theorem dX12_tellLaw_77 : decode cX12_tellLaw 77 = .ok (.invokevirtual 278, 3) := o182 ac_cX12_tellLaw_64 13 1 22 rfl
def kb_cX12_tellLaw_80 : List Nat := [42, 16, 13, 182, 0, 249, 42, 180, 0, 83, 42, 180, 0, 230, 42, 180, 0, 233, 79, 42]
theorem ac_cX12_tellLaw_80 : AL cX12_tellLaw 80 kb_cX12_tellLaw_80 := AL.of (m := 20) (by decide +kernel)
theorem dX12_tellLaw_80 : decode cX12_tellLaw 80 = .ok (.aload_n 0, 1) := o42 ac_cX12_tellLaw_80 0 rfl
theorem dX12_tellLaw_81 : decode cX12_tellLaw 81 = .ok (.bipush 13, 2) := o16p ac_cX12_tellLaw_80 1 13 rfl rfl
theorem dX12_tellLaw_83 : decode cX12_tellLaw 83 = .ok (.invokevirtual 249, 3) := o182 ac_cX12_tellLaw_80 3 0 249 rfl
theorem dX12_tellLaw_86 : decode cX12_tellLaw 86 = .ok (.aload_n 0, 1) := o42 ac_cX12_tellLaw_80 6 rfl
theorem dX12_tellLaw_87 : decode cX12_tellLaw 87 = .ok (.getfield 83, 3) := o180 ac_cX12_tellLaw_80 7 0 83 rfl
theorem dX12_tellLaw_90 : decode cX12_tellLaw 90 = .ok (.aload_n 0, 1) := o42 ac_cX12_tellLaw_80 10 rfl
theorem dX12_tellLaw_91 : decode cX12_tellLaw 91 = .ok (.getfield 230, 3) := o180 ac_cX12_tellLaw_80 11 0 230 rfl
theorem dX12_tellLaw_94 : decode cX12_tellLaw 94 = .ok (.aload_n 0, 1) := o42 ac_cX12_tellLaw_80 14 rfl
theorem dX12_tellLaw_95 : decode cX12_tellLaw 95 = .ok (.getfield 233, 3) := o180 ac_cX12_tellLaw_80 15 0 233 rfl
def kb_cX12_tellLaw_96 : List Nat := [0, 233, 79, 42, 180, 0, 191, 154, 0, 7, 42, 182, 1, 22, 42, 16, 29, 182, 0, 249]
theorem ac_cX12_tellLaw_96 : AL cX12_tellLaw 96 kb_cX12_tellLaw_96 := AL.of (m := 20) (by decide +kernel)
theorem dX12_tellLaw_98 : decode cX12_tellLaw 98 = .ok (.iastore, 1) := o79 ac_cX12_tellLaw_96 2 rfl
theorem dX12_tellLaw_99 : decode cX12_tellLaw 99 = .ok (.aload_n 0, 1) := o42 ac_cX12_tellLaw_96 3 rfl
theorem dX12_tellLaw_100 : decode cX12_tellLaw 100 = .ok (.getfield 191, 3) := o180 ac_cX12_tellLaw_96 4 0 191 rfl
theorem dX12_tellLaw_103 : decode cX12_tellLaw 103 = .ok (.ifCond .ne 7, 3) := o154p ac_cX12_tellLaw_96 7 0 7 rfl rfl
theorem dX12_tellLaw_106 : decode cX12_tellLaw 106 = .ok (.aload_n 0, 1) := o42 ac_cX12_tellLaw_96 10 rfl
theorem dX12_tellLaw_107 : decode cX12_tellLaw 107 = .ok (.invokevirtual 278, 3) := o182 ac_cX12_tellLaw_96 11 1 22 rfl
theorem dX12_tellLaw_110 : decode cX12_tellLaw 110 = .ok (.aload_n 0, 1) := o42 ac_cX12_tellLaw_96 14 rfl
theorem dX12_tellLaw_111 : decode cX12_tellLaw 111 = .ok (.bipush 29, 2) := o16p ac_cX12_tellLaw_96 15 29 rfl rfl
def kb_cX12_tellLaw_112 : List Nat := [29, 182, 0, 249, 42, 182, 1, 25, 42, 16, 30, 182, 0, 249, 167, 255, 142, 42, 180, 0]
theorem ac_cX12_tellLaw_112 : AL cX12_tellLaw 112 kb_cX12_tellLaw_112 := AL.of (m := 20) (by decide +kernel)
theorem dX12_tellLaw_113 : decode cX12_tellLaw 113 = .ok (.invokevirtual 249, 3) := o182 ac_cX12_tellLaw_112 1 0 249 rfl
theorem dX12_tellLaw_116 : decode cX12_tellLaw 116 = .ok (.aload_n 0, 1) := o42 ac_cX12_tellLaw_112 4 rfl
theorem dX12_tellLaw_117 : decode cX12_tellLaw 117 = .ok (.invokevirtual 281, 3) := o182 ac_cX12_tellLaw_112 5 1 25 rfl
theorem dX12_tellLaw_120 : decode cX12_tellLaw 120 = .ok (.aload_n 0, 1) := o42 ac_cX12_tellLaw_112 8 rfl
theorem dX12_tellLaw_121 : decode cX12_tellLaw 121 = .ok (.bipush 30, 2) := o16p ac_cX12_tellLaw_112 9 30 rfl rfl
theorem dX12_tellLaw_123 : decode cX12_tellLaw 123 = .ok (.invokevirtual 249, 3) := o182 ac_cX12_tellLaw_112 11 0 249 rfl
theorem dX12_tellLaw_126 : decode cX12_tellLaw 126 = .ok (.goto (-114), 3) := o167n ac_cX12_tellLaw_112 14 255 142 113 rfl rfl rfl
def kb_cX12_tellLaw_128 : List Nat := [142, 42, 180, 0, 76, 42, 180, 0, 230, 3, 84, 42, 182, 1, 25, 42, 7, 182, 0, 249]
theorem ac_cX12_tellLaw_128 : AL cX12_tellLaw 128 kb_cX12_tellLaw_128 := AL.of (m := 20) (by decide +kernel)
theorem dX12_tellLaw_129 : decode cX12_tellLaw 129 = .ok (.aload_n 0, 1) := o42 ac_cX12_tellLaw_128 1 rfl
theorem dX12_tellLaw_130 : decode cX12_tellLaw 130 = .ok (.getfield 76, 3) := o180 ac_cX12_tellLaw_128 2 0 76 rfl
theorem dX12_tellLaw_133 : decode cX12_tellLaw 133 = .ok (.aload_n 0, 1) := o42 ac_cX12_tellLaw_128 5 rfl
theorem dX12_tellLaw_134 : decode cX12_tellLaw 134 = .ok (.getfield 230, 3) := o180 ac_cX12_tellLaw_128 6 0 230 rfl
theorem dX12_tellLaw_137 : decode cX12_tellLaw 137 = .ok (.iconst 0, 1) := o3 ac_cX12_tellLaw_128 9 rfl
theorem dX12_tellLaw_138 : decode cX12_tellLaw 138 = .ok (.bastore, 1) := o84 ac_cX12_tellLaw_128 10 rfl
theorem dX12_tellLaw_139 : decode cX12_tellLaw 139 = .ok (.aload_n 0, 1) := o42 ac_cX12_tellLaw_128 11 rfl
theorem dX12_tellLaw_140 : decode cX12_tellLaw 140 = .ok (.invokevirtual 281, 3) := o182 ac_cX12_tellLaw_128 12 1 25 rfl
theorem dX12_tellLaw_143 : decode cX12_tellLaw 143 = .ok (.aload_n 0, 1) := o42 ac_cX12_tellLaw_128 15 rfl
def kb_cX12_tellLaw_144 : List Nat := [7, 182, 0, 249, 42, 180, 0, 191, 158, 0, 4, 177, 42, 180, 0, 70, 7, 42, 180, 0]
theorem ac_cX12_tellLaw_144 : AL cX12_tellLaw 144 kb_cX12_tellLaw_144 := AL.of (m := 20) (by decide +kernel)
theorem dX12_tellLaw_144 : decode cX12_tellLaw 144 = .ok (.iconst 4, 1) := o7 ac_cX12_tellLaw_144 0 rfl
theorem dX12_tellLaw_145 : decode cX12_tellLaw 145 = .ok (.invokevirtual 249, 3) := o182 ac_cX12_tellLaw_144 1 0 249 rfl
theorem dX12_tellLaw_148 : decode cX12_tellLaw 148 = .ok (.aload_n 0, 1) := o42 ac_cX12_tellLaw_144 4 rfl
theorem dX12_tellLaw_149 : decode cX12_tellLaw 149 = .ok (.getfield 191, 3) := o180 ac_cX12_tellLaw_144 5 0 191 rfl
theorem dX12_tellLaw_152 : decode cX12_tellLaw 152 = .ok (.ifCond .le 4, 3) := o158p ac_cX12_tellLaw_144 8 0 4 rfl rfl
theorem dX12_tellLaw_155 : decode cX12_tellLaw 155 = .ok (.return_, 1) := o177 ac_cX12_tellLaw_144 11 rfl
theorem dX12_tellLaw_156 : decode cX12_tellLaw 156 = .ok (.aload_n 0, 1) := o42 ac_cX12_tellLaw_144 12 rfl
theorem dX12_tellLaw_157 : decode cX12_tellLaw 157 = .ok (.getfield 70, 3) := o180 ac_cX12_tellLaw_144 13 0 70 rfl
def kb_cX12_tellLaw_160 : List Nat := [7, 42, 180, 0, 224, 104, 27, 96, 28, 79, 42, 180, 0, 73, 7, 42, 180, 0, 224, 104]
theorem ac_cX12_tellLaw_160 : AL cX12_tellLaw 160 kb_cX12_tellLaw_160 := AL.of (m := 20) (by decide +kernel)
theorem dX12_tellLaw_160 : decode cX12_tellLaw 160 = .ok (.iconst 4, 1) := o7 ac_cX12_tellLaw_160 0 rfl
theorem dX12_tellLaw_161 : decode cX12_tellLaw 161 = .ok (.aload_n 0, 1) := o42 ac_cX12_tellLaw_160 1 rfl
theorem dX12_tellLaw_162 : decode cX12_tellLaw 162 = .ok (.getfield 224, 3) := o180 ac_cX12_tellLaw_160 2 0 224 rfl
theorem dX12_tellLaw_165 : decode cX12_tellLaw 165 = .ok (.imul, 1) := o104 ac_cX12_tellLaw_160 5 rfl
theorem dX12_tellLaw_166 : decode cX12_tellLaw 166 = .ok (.iload_n 1, 1) := o27 ac_cX12_tellLaw_160 6 rfl
theorem dX12_tellLaw_167 : decode cX12_tellLaw 167 = .ok (.iadd, 1) := o96 ac_cX12_tellLaw_160 7 rfl
theorem dX12_tellLaw_168 : decode cX12_tellLaw 168 = .ok (.iload_n 2, 1) := o28 ac_cX12_tellLaw_160 8 rfl
theorem dX12_tellLaw_169 : decode cX12_tellLaw 169 = .ok (.iastore, 1) := o79 ac_cX12_tellLaw_160 9 rfl
theorem dX12_tellLaw_170 : decode cX12_tellLaw 170 = .ok (.aload_n 0, 1) := o42 ac_cX12_tellLaw_160 10 rfl
theorem dX12_tellLaw_171 : decode cX12_tellLaw 171 = .ok (.getfield 73, 3) := o180 ac_cX12_tellLaw_160 11 0 73 rfl
theorem dX12_tellLaw_174 : decode cX12_tellLaw 174 = .ok (.iconst 4, 1) := o7 ac_cX12_tellLaw_160 14 rfl
theorem dX12_tellLaw_175 : decode cX12_tellLaw 175 = .ok (.aload_n 0, 1) := o42 ac_cX12_tellLaw_160 15 rfl
def kb_cX12_tellLaw_176 : List Nat := [180, 0, 224, 104, 27, 96, 42, 180, 0, 230, 79, 177]
theorem ac_cX12_tellLaw_176 : AL cX12_tellLaw 176 kb_cX12_tellLaw_176 := AL.of (m := 12) (by decide +kernel)
theorem dX12_tellLaw_176 : decode cX12_tellLaw 176 = .ok (.getfield 224, 3) := o180 ac_cX12_tellLaw_176 0 0 224 rfl
theorem dX12_tellLaw_179 : decode cX12_tellLaw 179 = .ok (.imul, 1) := o104 ac_cX12_tellLaw_176 3 rfl
theorem dX12_tellLaw_180 : decode cX12_tellLaw 180 = .ok (.iload_n 1, 1) := o27 ac_cX12_tellLaw_176 4 rfl
theorem dX12_tellLaw_181 : decode cX12_tellLaw 181 = .ok (.iadd, 1) := o96 ac_cX12_tellLaw_176 5 rfl
theorem dX12_tellLaw_182 : decode cX12_tellLaw 182 = .ok (.aload_n 0, 1) := o42 ac_cX12_tellLaw_176 6 rfl
theorem dX12_tellLaw_183 : decode cX12_tellLaw 183 = .ok (.getfield 230, 3) := o180 ac_cX12_tellLaw_176 7 0 230 rfl
theorem dX12_tellLaw_186 : decode cX12_tellLaw 186 = .ok (.iastore, 1) := o79 ac_cX12_tellLaw_176 10 rfl
theorem dX12_tellLaw_187 : decode cX12_tellLaw 187 = .ok (.return_, 1) := o177 ac_cX12_tellLaw_176 11 rfl
theorem a_bastN {ids : List Nat} {ad : Nat → Nat} {ca : Nat → ClassId} {Γ : GT} {cc : ByteArray} {own : String} {l0 : Launch} {D0 : va_G} {fr lo nL0 : Nat} {pc : Nat} {vs : List (Option Value)} {st : List Value} {σ : HS} (C : CT ids ad ca Γ cc own l0 D0 fr lo nL0) {i : Nat} {j : Int32} {x : Int32} (jn : Nat) (hk : kd i = 22) (hi : i ∈ ids) (h0 : ¬ j < 0) (hj : j.toNatClampNeg = jn) (hn : jn < al i) (hd : decode cc pc = .ok (.bastore, 1)) (k : AW ids ad ca Γ (pc + 1) vs st (hI σ i jn (vp_nar .byte x))) : AW ids ad ca Γ pc vs (.int x :: .int j :: .ref (ad i) :: st) σ := by
  obtain ⟨p, l, e, R, s, m, args, below, meth, c, kc, ks, Q, D, A, H0, nL⟩ := Γ
  obtain ⟨⟨hx, hb, hml, hown, hts⟩, hK, hE, hD, hA0, rfl, rfl, hfr, hlo, hkc, hks, rfl⟩ := C
  intro H locs ls hP hS hl
  obtain ⟨t, ht⟩ := tys_get (ca := ca) hi (by omega)
  obtain ⟨ip, hip, hg⟩ := mw_get (ad := ad) (ca := ca) hi
  have hg := hg σ
  rw [hk] at ht hg
  subst hj
  refine va_bast hx hb hK hP (hD σ) hS ip t hg ht (fun h => h.elim h0 (fun h => absurd h (by omega))) hd (fun H1 locs1 hP1 hD1 hS1 => ?_)
  rw [mw_setI (hD σ) hip (by rw [hk]; rfl)] at hP1
  exact k H1 locs1 ls hP1 hS1 hl
def kb_cX12_tellPattern_0 : List Nat := [8, 42, 180, 0, 224, 104, 42, 180, 0, 55, 42, 180, 0, 224, 46, 96, 60, 42, 182, 1]
theorem ac_cX12_tellPattern_0 : AL cX12_tellPattern 0 kb_cX12_tellPattern_0 := AL.of (m := 20) (by decide +kernel)
theorem dX12_tellPattern_0 : decode cX12_tellPattern 0 = .ok (.iconst 5, 1) := o8 ac_cX12_tellPattern_0 0 rfl
theorem dX12_tellPattern_1 : decode cX12_tellPattern 1 = .ok (.aload_n 0, 1) := o42 ac_cX12_tellPattern_0 1 rfl
theorem dX12_tellPattern_2 : decode cX12_tellPattern 2 = .ok (.getfield 224, 3) := o180 ac_cX12_tellPattern_0 2 0 224 rfl
theorem dX12_tellPattern_5 : decode cX12_tellPattern 5 = .ok (.imul, 1) := o104 ac_cX12_tellPattern_0 5 rfl
theorem dX12_tellPattern_6 : decode cX12_tellPattern 6 = .ok (.aload_n 0, 1) := o42 ac_cX12_tellPattern_0 6 rfl
theorem dX12_tellPattern_7 : decode cX12_tellPattern 7 = .ok (.getfield 55, 3) := o180 ac_cX12_tellPattern_0 7 0 55 rfl
theorem dX12_tellPattern_10 : decode cX12_tellPattern 10 = .ok (.aload_n 0, 1) := o42 ac_cX12_tellPattern_0 10 rfl
theorem dX12_tellPattern_11 : decode cX12_tellPattern 11 = .ok (.getfield 224, 3) := o180 ac_cX12_tellPattern_0 11 0 224 rfl
theorem dX12_tellPattern_14 : decode cX12_tellPattern 14 = .ok (.iaload, 1) := o46 ac_cX12_tellPattern_0 14 rfl
theorem dX12_tellPattern_15 : decode cX12_tellPattern 15 = .ok (.iadd, 1) := o96 ac_cX12_tellPattern_0 15 rfl
def kb_cX12_tellPattern_16 : List Nat := [60, 42, 182, 1, 15, 61, 42, 180, 0, 61, 16, 8, 27, 104, 42, 3, 16, 9, 182, 0]
theorem ac_cX12_tellPattern_16 : AL cX12_tellPattern 16 kb_cX12_tellPattern_16 := AL.of (m := 20) (by decide +kernel)
theorem dX12_tellPattern_16 : decode cX12_tellPattern 16 = .ok (.istore_n 1, 1) := o60 ac_cX12_tellPattern_16 0 rfl
theorem dX12_tellPattern_17 : decode cX12_tellPattern 17 = .ok (.aload_n 0, 1) := o42 ac_cX12_tellPattern_16 1 rfl
theorem dX12_tellPattern_18 : decode cX12_tellPattern 18 = .ok (.invokevirtual 271, 3) := o182 ac_cX12_tellPattern_16 2 1 15 rfl
theorem dX12_tellPattern_21 : decode cX12_tellPattern 21 = .ok (.istore_n 2, 1) := o61 ac_cX12_tellPattern_16 5 rfl
theorem dX12_tellPattern_22 : decode cX12_tellPattern 22 = .ok (.aload_n 0, 1) := o42 ac_cX12_tellPattern_16 6 rfl
theorem dX12_tellPattern_23 : decode cX12_tellPattern 23 = .ok (.getfield 61, 3) := o180 ac_cX12_tellPattern_16 7 0 61 rfl
theorem dX12_tellPattern_26 : decode cX12_tellPattern 26 = .ok (.bipush 8, 2) := o16p ac_cX12_tellPattern_16 10 8 rfl rfl
theorem dX12_tellPattern_28 : decode cX12_tellPattern 28 = .ok (.iload_n 1, 1) := o27 ac_cX12_tellPattern_16 12 rfl
theorem dX12_tellPattern_29 : decode cX12_tellPattern 29 = .ok (.imul, 1) := o104 ac_cX12_tellPattern_16 13 rfl
theorem dX12_tellPattern_30 : decode cX12_tellPattern 30 = .ok (.aload_n 0, 1) := o42 ac_cX12_tellPattern_16 14 rfl
theorem dX12_tellPattern_31 : decode cX12_tellPattern 31 = .ok (.iconst 0, 1) := o3 ac_cX12_tellPattern_16 15 rfl
def kb_cX12_tellPattern_32 : List Nat := [16, 9, 182, 0, 245, 79, 42, 180, 0, 58, 27, 4, 79, 42, 180, 0, 191, 154, 0, 71]
theorem ac_cX12_tellPattern_32 : AL cX12_tellPattern 32 kb_cX12_tellPattern_32 := AL.of (m := 20) (by decide +kernel)
theorem dX12_tellPattern_32 : decode cX12_tellPattern 32 = .ok (.bipush 9, 2) := o16p ac_cX12_tellPattern_32 0 9 rfl rfl
theorem dX12_tellPattern_34 : decode cX12_tellPattern 34 = .ok (.invokevirtual 245, 3) := o182 ac_cX12_tellPattern_32 2 0 245 rfl
theorem dX12_tellPattern_37 : decode cX12_tellPattern 37 = .ok (.iastore, 1) := o79 ac_cX12_tellPattern_32 5 rfl
theorem dX12_tellPattern_38 : decode cX12_tellPattern 38 = .ok (.aload_n 0, 1) := o42 ac_cX12_tellPattern_32 6 rfl
theorem dX12_tellPattern_39 : decode cX12_tellPattern 39 = .ok (.getfield 58, 3) := o180 ac_cX12_tellPattern_32 7 0 58 rfl
theorem dX12_tellPattern_42 : decode cX12_tellPattern 42 = .ok (.iload_n 1, 1) := o27 ac_cX12_tellPattern_32 10 rfl
theorem dX12_tellPattern_43 : decode cX12_tellPattern 43 = .ok (.iconst 1, 1) := o4 ac_cX12_tellPattern_32 11 rfl
theorem dX12_tellPattern_44 : decode cX12_tellPattern 44 = .ok (.iastore, 1) := o79 ac_cX12_tellPattern_32 12 rfl
theorem dX12_tellPattern_45 : decode cX12_tellPattern 45 = .ok (.aload_n 0, 1) := o42 ac_cX12_tellPattern_32 13 rfl
theorem dX12_tellPattern_46 : decode cX12_tellPattern 46 = .ok (.getfield 191, 3) := o180 ac_cX12_tellPattern_32 14 0 191 rfl
def kb_cX12_tellPattern_48 : List Nat := [191, 154, 0, 71, 42, 5, 182, 0, 209, 153, 0, 63, 42, 180, 0, 58, 27, 46, 16, 8]
theorem ac_cX12_tellPattern_48 : AL cX12_tellPattern 48 kb_cX12_tellPattern_48 := AL.of (m := 20) (by decide +kernel)
theorem dX12_tellPattern_49 : decode cX12_tellPattern 49 = .ok (.ifCond .ne 71, 3) := o154p ac_cX12_tellPattern_48 1 0 71 rfl rfl
theorem dX12_tellPattern_52 : decode cX12_tellPattern 52 = .ok (.aload_n 0, 1) := o42 ac_cX12_tellPattern_48 4 rfl
theorem dX12_tellPattern_53 : decode cX12_tellPattern 53 = .ok (.iconst 2, 1) := o5 ac_cX12_tellPattern_48 5 rfl
theorem dX12_tellPattern_54 : decode cX12_tellPattern 54 = .ok (.invokevirtual 209, 3) := o182 ac_cX12_tellPattern_48 6 0 209 rfl
theorem dX12_tellPattern_57 : decode cX12_tellPattern 57 = .ok (.ifCond .eq 63, 3) := o153p ac_cX12_tellPattern_48 9 0 63 rfl rfl
theorem dX12_tellPattern_60 : decode cX12_tellPattern 60 = .ok (.aload_n 0, 1) := o42 ac_cX12_tellPattern_48 12 rfl
theorem dX12_tellPattern_61 : decode cX12_tellPattern 61 = .ok (.getfield 58, 3) := o180 ac_cX12_tellPattern_48 13 0 58 rfl
def kb_cX12_tellPattern_64 : List Nat := [27, 46, 16, 8, 160, 0, 8, 42, 5, 182, 0, 206, 42, 180, 0, 191, 158, 0, 4, 177]
theorem ac_cX12_tellPattern_64 : AL cX12_tellPattern 64 kb_cX12_tellPattern_64 := AL.of (m := 20) (by decide +kernel)
theorem dX12_tellPattern_64 : decode cX12_tellPattern 64 = .ok (.iload_n 1, 1) := o27 ac_cX12_tellPattern_64 0 rfl
theorem dX12_tellPattern_65 : decode cX12_tellPattern 65 = .ok (.iaload, 1) := o46 ac_cX12_tellPattern_64 1 rfl
theorem dX12_tellPattern_66 : decode cX12_tellPattern 66 = .ok (.bipush 8, 2) := o16p ac_cX12_tellPattern_64 2 8 rfl rfl
theorem dX12_tellPattern_68 : decode cX12_tellPattern 68 = .ok (.if_icmp .ne 8, 3) := o160p ac_cX12_tellPattern_64 4 0 8 rfl rfl
theorem dX12_tellPattern_71 : decode cX12_tellPattern 71 = .ok (.aload_n 0, 1) := o42 ac_cX12_tellPattern_64 7 rfl
theorem dX12_tellPattern_72 : decode cX12_tellPattern 72 = .ok (.iconst 2, 1) := o5 ac_cX12_tellPattern_64 8 rfl
theorem dX12_tellPattern_73 : decode cX12_tellPattern 73 = .ok (.invokevirtual 206, 3) := o182 ac_cX12_tellPattern_64 9 0 206 rfl
theorem dX12_tellPattern_76 : decode cX12_tellPattern 76 = .ok (.aload_n 0, 1) := o42 ac_cX12_tellPattern_64 12 rfl
theorem dX12_tellPattern_77 : decode cX12_tellPattern 77 = .ok (.getfield 191, 3) := o180 ac_cX12_tellPattern_64 13 0 191 rfl
def kb_cX12_tellPattern_80 : List Nat := [158, 0, 4, 177, 42, 180, 0, 61, 16, 8, 27, 104, 42, 180, 0, 58, 27, 46, 96, 42]
theorem ac_cX12_tellPattern_80 : AL cX12_tellPattern 80 kb_cX12_tellPattern_80 := AL.of (m := 20) (by decide +kernel)
theorem dX12_tellPattern_80 : decode cX12_tellPattern 80 = .ok (.ifCond .le 4, 3) := o158p ac_cX12_tellPattern_80 0 0 4 rfl rfl
theorem dX12_tellPattern_83 : decode cX12_tellPattern 83 = .ok (.return_, 1) := o177 ac_cX12_tellPattern_80 3 rfl
theorem dX12_tellPattern_84 : decode cX12_tellPattern 84 = .ok (.aload_n 0, 1) := o42 ac_cX12_tellPattern_80 4 rfl
theorem dX12_tellPattern_85 : decode cX12_tellPattern 85 = .ok (.getfield 61, 3) := o180 ac_cX12_tellPattern_80 5 0 61 rfl
theorem dX12_tellPattern_88 : decode cX12_tellPattern 88 = .ok (.bipush 8, 2) := o16p ac_cX12_tellPattern_80 8 8 rfl rfl
theorem dX12_tellPattern_90 : decode cX12_tellPattern 90 = .ok (.iload_n 1, 1) := o27 ac_cX12_tellPattern_80 10 rfl
theorem dX12_tellPattern_91 : decode cX12_tellPattern 91 = .ok (.imul, 1) := o104 ac_cX12_tellPattern_80 11 rfl
theorem dX12_tellPattern_92 : decode cX12_tellPattern 92 = .ok (.aload_n 0, 1) := o42 ac_cX12_tellPattern_80 12 rfl
theorem dX12_tellPattern_93 : decode cX12_tellPattern 93 = .ok (.getfield 58, 3) := o180 ac_cX12_tellPattern_80 13 0 58 rfl
def kb_cX12_tellPattern_96 : List Nat := [27, 46, 96, 42, 3, 16, 9, 182, 0, 245, 79, 42, 180, 0, 58, 27, 92, 46, 4, 96]
theorem ac_cX12_tellPattern_96 : AL cX12_tellPattern 96 kb_cX12_tellPattern_96 := AL.of (m := 20) (by decide +kernel)
theorem dX12_tellPattern_96 : decode cX12_tellPattern 96 = .ok (.iload_n 1, 1) := o27 ac_cX12_tellPattern_96 0 rfl
theorem dX12_tellPattern_97 : decode cX12_tellPattern 97 = .ok (.iaload, 1) := o46 ac_cX12_tellPattern_96 1 rfl
theorem dX12_tellPattern_98 : decode cX12_tellPattern 98 = .ok (.iadd, 1) := o96 ac_cX12_tellPattern_96 2 rfl
theorem dX12_tellPattern_99 : decode cX12_tellPattern 99 = .ok (.aload_n 0, 1) := o42 ac_cX12_tellPattern_96 3 rfl
theorem dX12_tellPattern_100 : decode cX12_tellPattern 100 = .ok (.iconst 0, 1) := o3 ac_cX12_tellPattern_96 4 rfl
theorem dX12_tellPattern_101 : decode cX12_tellPattern 101 = .ok (.bipush 9, 2) := o16p ac_cX12_tellPattern_96 5 9 rfl rfl
theorem dX12_tellPattern_103 : decode cX12_tellPattern 103 = .ok (.invokevirtual 245, 3) := o182 ac_cX12_tellPattern_96 7 0 245 rfl
theorem dX12_tellPattern_106 : decode cX12_tellPattern 106 = .ok (.iastore, 1) := o79 ac_cX12_tellPattern_96 10 rfl
theorem dX12_tellPattern_107 : decode cX12_tellPattern 107 = .ok (.aload_n 0, 1) := o42 ac_cX12_tellPattern_96 11 rfl
theorem dX12_tellPattern_108 : decode cX12_tellPattern 108 = .ok (.getfield 58, 3) := o180 ac_cX12_tellPattern_96 12 0 58 rfl
theorem dX12_tellPattern_111 : decode cX12_tellPattern 111 = .ok (.iload_n 1, 1) := o27 ac_cX12_tellPattern_96 15 rfl
def kb_cX12_tellPattern_112 : List Nat := [92, 46, 4, 96, 79, 167, 255, 184, 42, 28, 182, 1, 19, 42, 180, 0, 191, 154, 0, 16]
theorem ac_cX12_tellPattern_112 : AL cX12_tellPattern 112 kb_cX12_tellPattern_112 := AL.of (m := 20) (by decide +kernel)
theorem dX12_tellPattern_112 : decode cX12_tellPattern 112 = .ok (.dup2, 1) := o92 ac_cX12_tellPattern_112 0 rfl
theorem dX12_tellPattern_113 : decode cX12_tellPattern 113 = .ok (.iaload, 1) := o46 ac_cX12_tellPattern_112 1 rfl
theorem dX12_tellPattern_114 : decode cX12_tellPattern 114 = .ok (.iconst 1, 1) := o4 ac_cX12_tellPattern_112 2 rfl
theorem dX12_tellPattern_115 : decode cX12_tellPattern 115 = .ok (.iadd, 1) := o96 ac_cX12_tellPattern_112 3 rfl
theorem dX12_tellPattern_116 : decode cX12_tellPattern 116 = .ok (.iastore, 1) := o79 ac_cX12_tellPattern_112 4 rfl
theorem dX12_tellPattern_117 : decode cX12_tellPattern 117 = .ok (.goto (-72), 3) := o167n ac_cX12_tellPattern_112 5 255 184 71 rfl rfl rfl
theorem dX12_tellPattern_120 : decode cX12_tellPattern 120 = .ok (.aload_n 0, 1) := o42 ac_cX12_tellPattern_112 8 rfl
theorem dX12_tellPattern_121 : decode cX12_tellPattern 121 = .ok (.iload_n 2, 1) := o28 ac_cX12_tellPattern_112 9 rfl
theorem dX12_tellPattern_122 : decode cX12_tellPattern 122 = .ok (.invokevirtual 275, 3) := o182 ac_cX12_tellPattern_112 10 1 19 rfl
theorem dX12_tellPattern_125 : decode cX12_tellPattern 125 = .ok (.aload_n 0, 1) := o42 ac_cX12_tellPattern_112 13 rfl
theorem dX12_tellPattern_126 : decode cX12_tellPattern 126 = .ok (.getfield 191, 3) := o180 ac_cX12_tellPattern_112 14 0 191 rfl
def kb_cX12_tellPattern_128 : List Nat := [191, 154, 0, 16, 42, 180, 0, 55, 42, 180, 0, 224, 92, 46, 4, 96, 79, 177]
theorem ac_cX12_tellPattern_128 : AL cX12_tellPattern 128 kb_cX12_tellPattern_128 := AL.of (m := 18) (by decide +kernel)
theorem dX12_tellPattern_129 : decode cX12_tellPattern 129 = .ok (.ifCond .ne 16, 3) := o154p ac_cX12_tellPattern_128 1 0 16 rfl rfl
theorem dX12_tellPattern_132 : decode cX12_tellPattern 132 = .ok (.aload_n 0, 1) := o42 ac_cX12_tellPattern_128 4 rfl
theorem dX12_tellPattern_133 : decode cX12_tellPattern 133 = .ok (.getfield 55, 3) := o180 ac_cX12_tellPattern_128 5 0 55 rfl
theorem dX12_tellPattern_136 : decode cX12_tellPattern 136 = .ok (.aload_n 0, 1) := o42 ac_cX12_tellPattern_128 8 rfl
theorem dX12_tellPattern_137 : decode cX12_tellPattern 137 = .ok (.getfield 224, 3) := o180 ac_cX12_tellPattern_128 9 0 224 rfl
theorem dX12_tellPattern_140 : decode cX12_tellPattern 140 = .ok (.dup2, 1) := o92 ac_cX12_tellPattern_128 12 rfl
theorem dX12_tellPattern_141 : decode cX12_tellPattern 141 = .ok (.iaload, 1) := o46 ac_cX12_tellPattern_128 13 rfl
theorem dX12_tellPattern_142 : decode cX12_tellPattern 142 = .ok (.iconst 1, 1) := o4 ac_cX12_tellPattern_128 14 rfl
theorem dX12_tellPattern_143 : decode cX12_tellPattern 143 = .ok (.iadd, 1) := o96 ac_cX12_tellPattern_128 15 rfl
def kb_cX12_tellPattern_144 : List Nat := [79, 177]
theorem ac_cX12_tellPattern_144 : AL cX12_tellPattern 144 kb_cX12_tellPattern_144 := AL.of (m := 2) (by decide +kernel)
theorem dX12_tellPattern_144 : decode cX12_tellPattern 144 = .ok (.iastore, 1) := o79 ac_cX12_tellPattern_144 0 rfl
theorem dX12_tellPattern_145 : decode cX12_tellPattern 145 = .ok (.return_, 1) := o177 ac_cX12_tellPattern_144 1 rfl
def kb_cX12_tellOne_0 : List Nat := [42, 180, 0, 20, 42, 180, 0, 194, 46, 170, 0, 0, 0, 0, 0, 143, 0, 0, 0, 20]
theorem ac_cX12_tellOne_0 : AL cX12_tellOne 0 kb_cX12_tellOne_0 := AL.of (m := 20) (by decide +kernel)
theorem dX12_tellOne_0 : decode cX12_tellOne 0 = .ok (.aload_n 0, 1) := o42 ac_cX12_tellOne_0 0 rfl
theorem dX12_tellOne_1 : decode cX12_tellOne 1 = .ok (.getfield 20, 3) := o180 ac_cX12_tellOne_0 1 0 20 rfl
theorem dX12_tellOne_4 : decode cX12_tellOne 4 = .ok (.aload_n 0, 1) := o42 ac_cX12_tellOne_0 4 rfl
theorem dX12_tellOne_5 : decode cX12_tellOne 5 = .ok (.getfield 194, 3) := o180 ac_cX12_tellOne_0 5 0 194 rfl
theorem dX12_tellOne_8 : decode cX12_tellOne 8 = .ok (.iaload, 1) := o46 ac_cX12_tellOne_0 8 rfl
theorem dX12_tellOne_9 : decode cX12_tellOne 9 = .ok (.tableswitch 143 20 27 #[47, 76, 143, 143, 143, 143, 104, 123], 47) := by decide +kernel
def kb_cX12_tellOne_48 : List Nat := [0, 0, 0, 104, 0, 0, 0, 123, 42, 42, 180, 0, 43, 42, 180, 0, 224, 46, 16, 7]
theorem ac_cX12_tellOne_48 : AL cX12_tellOne 48 kb_cX12_tellOne_48 := AL.of (m := 20) (by decide +kernel)
theorem dX12_tellOne_56 : decode cX12_tellOne 56 = .ok (.aload_n 0, 1) := o42 ac_cX12_tellOne_48 8 rfl
theorem dX12_tellOne_57 : decode cX12_tellOne 57 = .ok (.aload_n 0, 1) := o42 ac_cX12_tellOne_48 9 rfl
theorem dX12_tellOne_58 : decode cX12_tellOne 58 = .ok (.getfield 43, 3) := o180 ac_cX12_tellOne_48 10 0 43 rfl
theorem dX12_tellOne_61 : decode cX12_tellOne 61 = .ok (.aload_n 0, 1) := o42 ac_cX12_tellOne_48 13 rfl
theorem dX12_tellOne_62 : decode cX12_tellOne 62 = .ok (.getfield 224, 3) := o180 ac_cX12_tellOne_48 14 0 224 rfl
def kb_cX12_tellOne_64 : List Nat := [224, 46, 16, 7, 182, 0, 252, 42, 180, 0, 191, 154, 0, 130, 42, 182, 1, 0, 167, 0]
theorem ac_cX12_tellOne_64 : AL cX12_tellOne 64 kb_cX12_tellOne_64 := AL.of (m := 20) (by decide +kernel)
theorem dX12_tellOne_65 : decode cX12_tellOne 65 = .ok (.iaload, 1) := o46 ac_cX12_tellOne_64 1 rfl
theorem dX12_tellOne_66 : decode cX12_tellOne 66 = .ok (.bipush 7, 2) := o16p ac_cX12_tellOne_64 2 7 rfl rfl
theorem dX12_tellOne_68 : decode cX12_tellOne 68 = .ok (.invokevirtual 252, 3) := o182 ac_cX12_tellOne_64 4 0 252 rfl
theorem dX12_tellOne_71 : decode cX12_tellOne 71 = .ok (.aload_n 0, 1) := o42 ac_cX12_tellOne_64 7 rfl
theorem dX12_tellOne_72 : decode cX12_tellOne 72 = .ok (.getfield 191, 3) := o180 ac_cX12_tellOne_64 8 0 191 rfl
theorem dX12_tellOne_75 : decode cX12_tellOne 75 = .ok (.ifCond .ne 130, 3) := o154p ac_cX12_tellOne_64 11 0 130 rfl rfl
theorem dX12_tellOne_78 : decode cX12_tellOne 78 = .ok (.aload_n 0, 1) := o42 ac_cX12_tellOne_64 14 rfl
theorem dX12_tellOne_79 : decode cX12_tellOne 79 = .ok (.invokevirtual 256, 3) := o182 ac_cX12_tellOne_64 15 1 0 rfl
def kb_cX12_tellOne_80 : List Nat := [1, 0, 167, 0, 123, 42, 42, 180, 0, 55, 42, 180, 0, 224, 46, 8, 182, 0, 252, 42]
theorem ac_cX12_tellOne_80 : AL cX12_tellOne 80 kb_cX12_tellOne_80 := AL.of (m := 20) (by decide +kernel)
theorem dX12_tellOne_82 : decode cX12_tellOne 82 = .ok (.goto 123, 3) := o167p ac_cX12_tellOne_80 2 0 123 rfl rfl
theorem dX12_tellOne_85 : decode cX12_tellOne 85 = .ok (.aload_n 0, 1) := o42 ac_cX12_tellOne_80 5 rfl
theorem dX12_tellOne_86 : decode cX12_tellOne 86 = .ok (.aload_n 0, 1) := o42 ac_cX12_tellOne_80 6 rfl
theorem dX12_tellOne_87 : decode cX12_tellOne 87 = .ok (.getfield 55, 3) := o180 ac_cX12_tellOne_80 7 0 55 rfl
theorem dX12_tellOne_90 : decode cX12_tellOne 90 = .ok (.aload_n 0, 1) := o42 ac_cX12_tellOne_80 10 rfl
theorem dX12_tellOne_91 : decode cX12_tellOne 91 = .ok (.getfield 224, 3) := o180 ac_cX12_tellOne_80 11 0 224 rfl
theorem dX12_tellOne_94 : decode cX12_tellOne 94 = .ok (.iaload, 1) := o46 ac_cX12_tellOne_80 14 rfl
theorem dX12_tellOne_95 : decode cX12_tellOne 95 = .ok (.iconst 5, 1) := o8 ac_cX12_tellOne_80 15 rfl
def kb_cX12_tellOne_96 : List Nat := [182, 0, 252, 42, 180, 0, 191, 154, 0, 102, 42, 182, 1, 3, 167, 0, 95, 42, 180, 0]
theorem ac_cX12_tellOne_96 : AL cX12_tellOne 96 kb_cX12_tellOne_96 := AL.of (m := 20) (by decide +kernel)
theorem dX12_tellOne_96 : decode cX12_tellOne 96 = .ok (.invokevirtual 252, 3) := o182 ac_cX12_tellOne_96 0 0 252 rfl
theorem dX12_tellOne_99 : decode cX12_tellOne 99 = .ok (.aload_n 0, 1) := o42 ac_cX12_tellOne_96 3 rfl
theorem dX12_tellOne_100 : decode cX12_tellOne 100 = .ok (.getfield 191, 3) := o180 ac_cX12_tellOne_96 4 0 191 rfl
theorem dX12_tellOne_103 : decode cX12_tellOne 103 = .ok (.ifCond .ne 102, 3) := o154p ac_cX12_tellOne_96 7 0 102 rfl rfl
theorem dX12_tellOne_106 : decode cX12_tellOne 106 = .ok (.aload_n 0, 1) := o42 ac_cX12_tellOne_96 10 rfl
theorem dX12_tellOne_107 : decode cX12_tellOne 107 = .ok (.invokevirtual 259, 3) := o182 ac_cX12_tellOne_96 11 1 3 rfl
theorem dX12_tellOne_110 : decode cX12_tellOne 110 = .ok (.goto 95, 3) := o167p ac_cX12_tellOne_96 14 0 95 rfl rfl
def kb_cX12_tellOne_112 : List Nat := [95, 42, 180, 0, 64, 42, 180, 0, 224, 42, 3, 16, 99, 182, 1, 6, 79, 167, 0, 76]
theorem ac_cX12_tellOne_112 : AL cX12_tellOne 112 kb_cX12_tellOne_112 := AL.of (m := 20) (by decide +kernel)
theorem dX12_tellOne_113 : decode cX12_tellOne 113 = .ok (.aload_n 0, 1) := o42 ac_cX12_tellOne_112 1 rfl
theorem dX12_tellOne_114 : decode cX12_tellOne 114 = .ok (.getfield 64, 3) := o180 ac_cX12_tellOne_112 2 0 64 rfl
theorem dX12_tellOne_117 : decode cX12_tellOne 117 = .ok (.aload_n 0, 1) := o42 ac_cX12_tellOne_112 5 rfl
theorem dX12_tellOne_118 : decode cX12_tellOne 118 = .ok (.getfield 224, 3) := o180 ac_cX12_tellOne_112 6 0 224 rfl
theorem dX12_tellOne_121 : decode cX12_tellOne 121 = .ok (.aload_n 0, 1) := o42 ac_cX12_tellOne_112 9 rfl
theorem dX12_tellOne_122 : decode cX12_tellOne 122 = .ok (.iconst 0, 1) := o3 ac_cX12_tellOne_112 10 rfl
theorem dX12_tellOne_123 : decode cX12_tellOne 123 = .ok (.bipush 99, 2) := o16p ac_cX12_tellOne_112 11 99 rfl rfl
theorem dX12_tellOne_125 : decode cX12_tellOne 125 = .ok (.invokevirtual 262, 3) := o182 ac_cX12_tellOne_112 13 1 6 rfl
def kb_cX12_tellOne_128 : List Nat := [79, 167, 0, 76, 42, 180, 0, 67, 42, 180, 0, 224, 42, 3, 17, 39, 15, 182, 1, 6]
theorem ac_cX12_tellOne_128 : AL cX12_tellOne 128 kb_cX12_tellOne_128 := AL.of (m := 20) (by decide +kernel)
theorem dX12_tellOne_128 : decode cX12_tellOne 128 = .ok (.iastore, 1) := o79 ac_cX12_tellOne_128 0 rfl
theorem dX12_tellOne_129 : decode cX12_tellOne 129 = .ok (.goto 76, 3) := o167p ac_cX12_tellOne_128 1 0 76 rfl rfl
theorem dX12_tellOne_132 : decode cX12_tellOne 132 = .ok (.aload_n 0, 1) := o42 ac_cX12_tellOne_128 4 rfl
theorem dX12_tellOne_133 : decode cX12_tellOne 133 = .ok (.getfield 67, 3) := o180 ac_cX12_tellOne_128 5 0 67 rfl
theorem dX12_tellOne_136 : decode cX12_tellOne 136 = .ok (.aload_n 0, 1) := o42 ac_cX12_tellOne_128 8 rfl
theorem dX12_tellOne_137 : decode cX12_tellOne 137 = .ok (.getfield 224, 3) := o180 ac_cX12_tellOne_128 9 0 224 rfl
theorem dX12_tellOne_140 : decode cX12_tellOne 140 = .ok (.aload_n 0, 1) := o42 ac_cX12_tellOne_128 12 rfl
theorem dX12_tellOne_141 : decode cX12_tellOne 141 = .ok (.iconst 0, 1) := o3 ac_cX12_tellOne_128 13 rfl
theorem dX12_tellOne_142 : decode cX12_tellOne 142 = .ok (.sipush 9999, 3) := o17p ac_cX12_tellOne_128 14 39 15 rfl rfl
def kb_cX12_tellOne_144 : List Nat := [15, 182, 1, 6, 79, 167, 0, 56, 42, 180, 0, 20, 42, 180, 0, 194, 46, 16, 22, 100]
theorem ac_cX12_tellOne_144 : AL cX12_tellOne 144 kb_cX12_tellOne_144 := AL.of (m := 20) (by decide +kernel)
theorem dX12_tellOne_145 : decode cX12_tellOne 145 = .ok (.invokevirtual 262, 3) := o182 ac_cX12_tellOne_144 1 1 6 rfl
theorem dX12_tellOne_148 : decode cX12_tellOne 148 = .ok (.iastore, 1) := o79 ac_cX12_tellOne_144 4 rfl
theorem dX12_tellOne_149 : decode cX12_tellOne 149 = .ok (.goto 56, 3) := o167p ac_cX12_tellOne_144 5 0 56 rfl rfl
theorem dX12_tellOne_152 : decode cX12_tellOne 152 = .ok (.aload_n 0, 1) := o42 ac_cX12_tellOne_144 8 rfl
theorem dX12_tellOne_153 : decode cX12_tellOne 153 = .ok (.getfield 20, 3) := o180 ac_cX12_tellOne_144 9 0 20 rfl
theorem dX12_tellOne_156 : decode cX12_tellOne 156 = .ok (.aload_n 0, 1) := o42 ac_cX12_tellOne_144 12 rfl
theorem dX12_tellOne_157 : decode cX12_tellOne 157 = .ok (.getfield 194, 3) := o180 ac_cX12_tellOne_144 13 0 194 rfl
def kb_cX12_tellOne_160 : List Nat := [46, 16, 22, 100, 60, 27, 155, 0, 17, 42, 180, 0, 20, 42, 180, 0, 194, 46, 16, 25]
theorem ac_cX12_tellOne_160 : AL cX12_tellOne 160 kb_cX12_tellOne_160 := AL.of (m := 20) (by decide +kernel)
theorem dX12_tellOne_160 : decode cX12_tellOne 160 = .ok (.iaload, 1) := o46 ac_cX12_tellOne_160 0 rfl
theorem dX12_tellOne_161 : decode cX12_tellOne 161 = .ok (.bipush 22, 2) := o16p ac_cX12_tellOne_160 1 22 rfl rfl
theorem dX12_tellOne_163 : decode cX12_tellOne 163 = .ok (.isub, 1) := o100 ac_cX12_tellOne_160 3 rfl
theorem dX12_tellOne_164 : decode cX12_tellOne 164 = .ok (.istore_n 1, 1) := o60 ac_cX12_tellOne_160 4 rfl
theorem dX12_tellOne_165 : decode cX12_tellOne 165 = .ok (.iload_n 1, 1) := o27 ac_cX12_tellOne_160 5 rfl
theorem dX12_tellOne_166 : decode cX12_tellOne 166 = .ok (.ifCond .lt 17, 3) := o155p ac_cX12_tellOne_160 6 0 17 rfl rfl
theorem dX12_tellOne_169 : decode cX12_tellOne 169 = .ok (.aload_n 0, 1) := o42 ac_cX12_tellOne_160 9 rfl
theorem dX12_tellOne_170 : decode cX12_tellOne 170 = .ok (.getfield 20, 3) := o180 ac_cX12_tellOne_160 10 0 20 rfl
theorem dX12_tellOne_173 : decode cX12_tellOne 173 = .ok (.aload_n 0, 1) := o42 ac_cX12_tellOne_160 13 rfl
theorem dX12_tellOne_174 : decode cX12_tellOne 174 = .ok (.getfield 194, 3) := o180 ac_cX12_tellOne_160 14 0 194 rfl
def kb_cX12_tellOne_176 : List Nat := [194, 46, 16, 25, 164, 0, 8, 42, 4, 182, 0, 206, 42, 180, 0, 191, 158, 0, 4, 177]
theorem ac_cX12_tellOne_176 : AL cX12_tellOne 176 kb_cX12_tellOne_176 := AL.of (m := 20) (by decide +kernel)
theorem dX12_tellOne_177 : decode cX12_tellOne 177 = .ok (.iaload, 1) := o46 ac_cX12_tellOne_176 1 rfl
theorem dX12_tellOne_178 : decode cX12_tellOne 178 = .ok (.bipush 25, 2) := o16p ac_cX12_tellOne_176 2 25 rfl rfl
theorem dX12_tellOne_180 : decode cX12_tellOne 180 = .ok (.if_icmp .le 8, 3) := o164p ac_cX12_tellOne_176 4 0 8 rfl rfl
theorem dX12_tellOne_183 : decode cX12_tellOne 183 = .ok (.aload_n 0, 1) := o42 ac_cX12_tellOne_176 7 rfl
theorem dX12_tellOne_184 : decode cX12_tellOne 184 = .ok (.iconst 1, 1) := o4 ac_cX12_tellOne_176 8 rfl
theorem dX12_tellOne_185 : decode cX12_tellOne 185 = .ok (.invokevirtual 206, 3) := o182 ac_cX12_tellOne_176 9 0 206 rfl
theorem dX12_tellOne_188 : decode cX12_tellOne 188 = .ok (.aload_n 0, 1) := o42 ac_cX12_tellOne_176 12 rfl
theorem dX12_tellOne_189 : decode cX12_tellOne 189 = .ok (.getfield 191, 3) := o180 ac_cX12_tellOne_176 13 0 191 rfl
def kb_cX12_tellOne_192 : List Nat := [158, 0, 4, 177, 42, 182, 0, 212, 42, 27, 182, 1, 9, 177]
theorem ac_cX12_tellOne_192 : AL cX12_tellOne 192 kb_cX12_tellOne_192 := AL.of (m := 14) (by decide +kernel)
theorem dX12_tellOne_192 : decode cX12_tellOne 192 = .ok (.ifCond .le 4, 3) := o158p ac_cX12_tellOne_192 0 0 4 rfl rfl
theorem dX12_tellOne_195 : decode cX12_tellOne 195 = .ok (.return_, 1) := o177 ac_cX12_tellOne_192 3 rfl
theorem dX12_tellOne_196 : decode cX12_tellOne 196 = .ok (.aload_n 0, 1) := o42 ac_cX12_tellOne_192 4 rfl
theorem dX12_tellOne_197 : decode cX12_tellOne 197 = .ok (.invokevirtual 212, 3) := o182 ac_cX12_tellOne_192 5 0 212 rfl
theorem dX12_tellOne_200 : decode cX12_tellOne 200 = .ok (.aload_n 0, 1) := o42 ac_cX12_tellOne_192 8 rfl
theorem dX12_tellOne_201 : decode cX12_tellOne 201 = .ok (.iload_n 1, 1) := o27 ac_cX12_tellOne_192 9 rfl
theorem dX12_tellOne_202 : decode cX12_tellOne 202 = .ok (.invokevirtual 265, 3) := o182 ac_cX12_tellOne_192 10 1 9 rfl
theorem dX12_tellOne_205 : decode cX12_tellOne 205 = .ok (.return_, 1) := o177 ac_cX12_tellOne_192 13 rfl
theorem dX12_begins_36 : decode cX12_begins 36 = .ok (.aload_n 0, 1) := o42 ac_cX12_begins_32 4 rfl
theorem dX12_begins_37 : decode cX12_begins 37 = .ok (.getfield 110, 3) := o180 ac_cX12_begins_32 5 0 110 rfl
theorem dX12_begins_40 : decode cX12_begins 40 = .ok (.bipush 7, 2) := o16p ac_cX12_begins_32 8 7 rfl rfl
theorem dX12_begins_42 : decode cX12_begins 42 = .ok (.iload_n 1, 1) := o27 ac_cX12_begins_32 10 rfl
theorem dX12_begins_43 : decode cX12_begins 43 = .ok (.iadd, 1) := o96 ac_cX12_begins_32 11 rfl
theorem dX12_begins_44 : decode cX12_begins 44 = .ok (.aload_n 0, 1) := o42 ac_cX12_begins_32 12 rfl
theorem dX12_begins_45 : decode cX12_begins 45 = .ok (.getfield 52, 3) := o180 ac_cX12_begins_32 13 0 52 rfl
def kb_cX12_begins_48 : List Nat := [16, 7, 42, 180, 0, 221, 104, 27, 96, 46, 79, 132, 1, 1, 167, 255, 217, 42, 180, 0]
theorem ac_cX12_begins_48 : AL cX12_begins 48 kb_cX12_begins_48 := AL.of (m := 20) (by decide +kernel)
theorem dX12_begins_48 : decode cX12_begins 48 = .ok (.bipush 7, 2) := o16p ac_cX12_begins_48 0 7 rfl rfl
theorem dX12_begins_50 : decode cX12_begins 50 = .ok (.aload_n 0, 1) := o42 ac_cX12_begins_48 2 rfl
theorem dX12_begins_51 : decode cX12_begins 51 = .ok (.getfield 221, 3) := o180 ac_cX12_begins_48 3 0 221 rfl
theorem dX12_begins_54 : decode cX12_begins 54 = .ok (.imul, 1) := o104 ac_cX12_begins_48 6 rfl
theorem dX12_begins_55 : decode cX12_begins 55 = .ok (.iload_n 1, 1) := o27 ac_cX12_begins_48 7 rfl
theorem dX12_begins_56 : decode cX12_begins 56 = .ok (.iadd, 1) := o96 ac_cX12_begins_48 8 rfl
theorem dX12_begins_57 : decode cX12_begins 57 = .ok (.iaload, 1) := o46 ac_cX12_begins_48 9 rfl
theorem dX12_begins_58 : decode cX12_begins 58 = .ok (.iastore, 1) := o79 ac_cX12_begins_48 10 rfl
theorem dX12_begins_59 : decode cX12_begins 59 = .ok (.iinc 1 1, 3) := o132p ac_cX12_begins_48 11 1 1 rfl rfl
theorem dX12_begins_62 : decode cX12_begins 62 = .ok (.goto (-39), 3) := o167n ac_cX12_begins_48 14 255 217 38 rfl rfl rfl
theorem dX12_begins_83 : decode cX12_begins 83 = .ok (.iconst 0, 1) := o3 ac_cX12_begins_80 3 rfl
theorem dX12_begins_84 : decode cX12_begins 84 = .ok (.goto 5, 3) := o167p ac_cX12_begins_80 4 0 5 rfl rfl
def kb_cX12_read_16 : List Nat := [0, 21, 42, 180, 0, 17, 27, 42, 180, 0, 13, 27, 51, 84, 132, 1, 1, 167, 255, 233]
theorem ac_cX12_read_16 : AL cX12_read 16 kb_cX12_read_16 := AL.of (m := 20) (by decide +kernel)
theorem dX12_read_18 : decode cX12_read 18 = .ok (.aload_n 0, 1) := o42 ac_cX12_read_16 2 rfl
theorem dX12_read_19 : decode cX12_read 19 = .ok (.getfield 17, 3) := o180 ac_cX12_read_16 3 0 17 rfl
theorem dX12_read_22 : decode cX12_read 22 = .ok (.iload_n 1, 1) := o27 ac_cX12_read_16 6 rfl
theorem dX12_read_23 : decode cX12_read 23 = .ok (.aload_n 0, 1) := o42 ac_cX12_read_16 7 rfl
theorem dX12_read_24 : decode cX12_read 24 = .ok (.getfield 13, 3) := o180 ac_cX12_read_16 8 0 13 rfl
theorem dX12_read_27 : decode cX12_read 27 = .ok (.iload_n 1, 1) := o27 ac_cX12_read_16 11 rfl
theorem dX12_read_28 : decode cX12_read 28 = .ok (.baload, 1) := o51 ac_cX12_read_16 12 rfl
theorem dX12_read_29 : decode cX12_read 29 = .ok (.bastore, 1) := o84 ac_cX12_read_16 13 rfl
theorem dX12_read_30 : decode cX12_read 30 = .ok (.iinc 1 1, 3) := o132p ac_cX12_read_16 14 1 1 rfl rfl
theorem dX12_read_33 : decode cX12_read 33 = .ok (.goto (-23), 3) := o167n ac_cX12_read_32 1 255 233 22 rfl rfl rfl
theorem dX12_read_127 : decode cX12_read 127 = .ok (.aload_n 0, 1) := o42 ac_cX12_read_112 15 rfl
theorem dX12_read_128 : decode cX12_read 128 = .ok (.invokevirtual 236, 3) := o182 ac_cX12_read_128 0 0 236 rfl
theorem dX12_read_131 : decode cX12_read 131 = .ok (.goto (-19), 3) := o167n ac_cX12_read_128 3 255 237 18 rfl rfl rfl
theorem dX12_read_142 : decode cX12_read 142 = .ok (.aload_n 0, 1) := o42 ac_cX12_read_128 14 rfl
theorem dX12_read_143 : decode cX12_read 143 = .ok (.getfield 197, 3) := o180 ac_cX12_read_128 15 0 197 rfl
theorem dX12_read_146 : decode cX12_read 146 = .ok (.goto 18, 3) := o167p ac_cX12_read_144 2 0 18 rfl rfl
theorem dX12_read_156 : decode cX12_read 156 = .ok (.aload_n 0, 1) := o42 ac_cX12_read_144 12 rfl
theorem dX12_read_157 : decode cX12_read 157 = .ok (.getfield 203, 3) := o180 ac_cX12_read_144 13 0 203 rfl
theorem dX12_read_160 : decode cX12_read 160 = .ok (.goto 4, 3) := o167p ac_cX12_read_160 0 0 4 rfl rfl
theorem dX12_read_174 : decode cX12_read 174 = .ok (.aload_n 0, 1) := o42 ac_cX12_read_160 14 rfl
theorem dX12_read_175 : decode cX12_read 175 = .ok (.getfield 191, 3) := o180 ac_cX12_read_160 15 0 191 rfl
theorem dX12_read_178 : decode cX12_read 178 = .ok (.ireturn, 1) := o172 ac_cX12_read_176 2 rfl
theorem dX12_read_186 : decode cX12_read 186 = .ok (.aload_n 0, 1) := o42 ac_cX12_read_176 10 rfl
theorem dX12_read_187 : decode cX12_read 187 = .ok (.getfield 200, 3) := o180 ac_cX12_read_176 11 0 200 rfl
theorem dX12_read_190 : decode cX12_read 190 = .ok (.ireturn, 1) := o172 ac_cX12_read_176 14 rfl
/-! methods as functions of the state (none: the machine would throw, or the walk isn't followed there): rows that follow the function -/
def Bd {α β : Type} (x : α) (f : α → Option β) : Option β := f x
def Cl {α β : Type} (x : Option (α × HS)) (f : α → HS → Option β) : Option β := match x with
  | none => none
  | some q => f q.1 q.2
def Cv {β : Type} (x : Option HS) (f : HS → Option β) : Option β := match x with
  | none => none
  | some q => f q
def rowOK (e : Nat) : Prop := kd e = 20 ∧ e < 277
def airOK (a : Nat) : Prop := (kd a = 0 ∧ a < 277) ∧ (rowOK (a + 1) ∧ al (a + 1) = 7) ∧ (rowOK (a + 2) ∧ al (a + 2) = 7) ∧ (rowOK (a + 3) ∧ al (a + 3) = 7)
def txtOK (t : Nat) : Prop := (kd t = 9 ∧ t < 277) ∧ (rowOK (t + 1) ∧ al (t + 1) = 7) ∧ (rowOK (t + 2) ∧ al (t + 2) = 7) ∧ (rowOK (t + 3) ∧ al (t + 3) = 7) ∧ (rowOK (t + 10) ∧ al (t + 10) = 5) ∧ (rowOK (t + 11) ∧ al (t + 11) = 408) ∧ (rowOK (t + 12) ∧ al (t + 12) = 4) ∧ (kd (t + 4) = 26 ∧ t + 4 < 277 ∧ al (t + 4) = 5) ∧ (∀ n, n < 5 → rowOK (t + 5 + n) ∧ al (t + 5 + n) = 8)
theorem airOK_of : ∀ j, j < 45 → airOK (56 + 4 * j) := fun j hj => by
  have h := kdA j hj
  exact ⟨h.1, ⟨⟨h.2.1.1, h.2.1.2.2⟩, h.2.1.2.1⟩, ⟨⟨h.2.2.1.1, h.2.2.1.2.2⟩, h.2.2.1.2.1⟩, ⟨⟨h.2.2.2.1, h.2.2.2.2.2⟩, h.2.2.2.2.1⟩⟩
theorem airOK_ring {n : Nat} (h : n < 40) : airOK (76 + 4 * n) := by
  have := airOK_of (n + 5) (by omega)
  rw [show 56 + 4 * (n + 5) = 76 + 4 * n by omega] at this
  exact this
theorem airOK_slot {n : Nat} (h : n < 3) : airOK (64 + 4 * n) := by
  have := airOK_of (n + 2) (by omega)
  rw [show 56 + 4 * (n + 2) = 64 + 4 * n by omega] at this
  exact this
theorem rows_30 : ∀ n, n < 5 → (kd (30 + 5 + n) = 20 ∧ 30 + 5 + n < 277) ∧ al (30 + 5 + n) = 8 := by decide +kernel
theorem rows_43 : ∀ n, n < 5 → (kd (43 + 5 + n) = 20 ∧ 43 + 5 + n < 277) ∧ al (43 + 5 + n) = 8 := by decide +kernel
theorem txtOK_of {t : Nat} (h : t = 30 ∨ t = 43) : txtOK t := by
  rcases h with rfl | rfl
  · exact ⟨⟨rfl, by decide⟩, ⟨⟨rfl, by decide⟩, rfl⟩, ⟨⟨rfl, by decide⟩, rfl⟩, ⟨⟨rfl, by decide⟩, rfl⟩, ⟨⟨rfl, by decide⟩, rfl⟩, ⟨⟨rfl, by decide⟩, rfl⟩, ⟨⟨rfl, by decide⟩, rfl⟩, ⟨rfl, by decide, rfl⟩, rows_30⟩
  · exact ⟨⟨rfl, by decide⟩, ⟨⟨rfl, by decide⟩, rfl⟩, ⟨⟨rfl, by decide⟩, rfl⟩, ⟨⟨rfl, by decide⟩, rfl⟩, ⟨⟨rfl, by decide⟩, rfl⟩, ⟨⟨rfl, by decide⟩, rfl⟩, ⟨⟨rfl, by decide⟩, rfl⟩, ⟨rfl, by decide, rfl⟩, rows_43⟩
theorem Cl_some {α β : Type} {x : Option (α × HS)} {f : α → HS → Option β} {R : β} (h : Cl x f = some R) : ∃ r s, x = some (r, s) ∧ f r s = some R := by
  cases x with
  | none => exact nomatch h
  | some q => exact ⟨q.1, q.2, rfl, h⟩
theorem Cv_some {β : Type} {x : Option HS} {f : HS → Option β} {R : β} (h : Cv x f = some R) : ∃ s, x = some s ∧ f s = some R := by
  cases x with
  | none => exact nomatch h
  | some q => exact ⟨q, rfl, h⟩
theorem ite_k {β : Type} {P : Prop} {dP : Decidable P} {A B : Option β} {R : β} {G : Prop} (h : (if P then A else B) = some R) (k1 : P → A = some R → G) (k2 : ¬ P → B = some R → G) : G := by
  by_cases c : P
  · rw [if_pos c] at h; exact k1 c h
  · rw [if_neg c] at h; exact k2 c h
theorem ite_n {β : Type} {P : Prop} {dP : Decidable P} {A : Option β} {R : β} {G : Prop} (h : (if P then A else none) = some R) (k1 : P → A = some R → G) : G := by
  by_cases c : P
  · rw [if_pos c] at h; exact k1 c h
  · rw [if_neg c] at h; exact nomatch h
theorem nn {β : Type} {R : β} {G : Prop} (h : (none : Option β) = some R) : G := nomatch h
theorem ret_eq {α : Type} {v r0 : α} {σ s0 : HS} (h : some (v, σ) = some (r0, s0)) : v = r0 ∧ σ = s0 := by cases h; exact ⟨rfl, rfl⟩
theorem retv_eq {σ s0 : HS} (h : some σ = some s0) : σ = s0 := by cases h; rfl
theorem i32_nn {x : Int32} (h : 0 ≤ x.toInt) : ¬ x < 0 := fun e => absurd (t0_lt.mp e) (by omega)
theorem i32_cl {x : Int32} : x.toNatClampNeg = x.toInt.toNat := rfl
theorem Kv.ofF {l : Launch} {D : va_G} {ids : List Nat} {ad : Nat → Nat} {ca : Nat → ClassId} {y : MethodName} {cc : ByteArray} {nL fr lo : Nat} {av : List Value} {σ : HS} {post : HS → Prop} (hy : plainFor y = true) (hL : (lg_sl av).length ≤ nL) (z : Nat)
    (body : ∀ Γ : GT, CT ids ad ca Γ cc y.cls l D fr lo nL → RV ids ad ca Γ cc post → AW ids ad ca Γ 0 (entL av ++ List.replicate z none) [] σ) : Kv l D ids ad ca y cc nL fr lo av σ post := by
  intro sz
  refine met_ofWF (cc := cc) (maxL := nL) (ret := none) hy rfl ?_
  intro p e s m args below meth c s₁ B hml hv
  obtain ⟨rfl, hsz, hP, hK, hD0, hE⟩ := hv
  have hts := atoms_spec (ws := (.code y cc nL none :: gw_tbl)) B.pre
  subst hsz
  have hD := hD0.self (sz := s.heap.size)
  rw [lg_entry_eq]
  refine body (p, l, e, { frames := fr, cells := 0, slots := 0, locals := lo }, s, m, av.toArray, below, meth, c, 0, 0, _, D, va_A (mw ids ad ca σ) s.heap.size, s.heap, nL) ⟨⟨B.exec, B.bytes, hml, findClass_of_methodNamed B.named, fun w h => hts w (List.mem_cons_of_mem _ h)⟩, hK, hE, fun σ' => mw_D hD σ', fun q h => Or.inr h, rfl, rfl, Nat.le_refl _, Nat.le_refl _, Nat.le_refl _, Nat.le_refl _, rfl⟩ ?_ s.heap [] _ hP va_S.rf (LV.entry av hL z)
  intro H locs ls pc σ' hP' hS hp hd
  exact W.vret B.exec B.bytes B.returns (fun t ht hW => ⟨⟨σ', rfl, hp, by rw [ht]; exact hP', va_K.moved hW.alike hK, mw_D hD σ'⟩, hS.F ht⟩) hS.2.2 hd B.notSynchronized
section VROW
variable {ids : List Nat} {ad : Nat → Nat} {ca : Nat → ClassId} {Γ : GT} {cc : ByteArray} {own : String} {l0 : Launch} {D0 : va_G} {fr lo nL0 : Nat} {pc : Nat} {vs : List (Option Value)} {st : List Value} {σ : HS} {β : Type} {R : β} {K : (Nat → Nat) × (Nat → Nat)}
theorem p_if_eq (C : CT ids ad ca Γ cc own l0 D0 fr lo nL0) {x : Int32} {off : Int} {tgt : Nat} {X : Int} {A B : Option β} (hx : x.toInt = X) (hd : decode cc pc = .ok (.ifCond .eq off, 3)) (ht : (pc : Int) + off = (tgt : Int)) (h : (if X = 0 then A else B) = some R) (kt : A = some R → AW ids ad ca Γ tgt vs st σ) (kf : B = some R → AW ids ad ca Γ (pc + 3) vs st σ) : AW ids ad ca Γ pc vs (.int x :: st) σ := by
  subst hx
  exact s_if_eq C hd ht (fun c => kt (by rw [if_pos c] at h; exact h)) (fun c => kf (by rw [if_neg c] at h; exact h))
theorem p_if_ne (C : CT ids ad ca Γ cc own l0 D0 fr lo nL0) {x : Int32} {off : Int} {tgt : Nat} {X : Int} {A B : Option β} (hx : x.toInt = X) (hd : decode cc pc = .ok (.ifCond .ne off, 3)) (ht : (pc : Int) + off = (tgt : Int)) (h : (if X = 0 then A else B) = some R) (kt : B = some R → AW ids ad ca Γ tgt vs st σ) (kf : A = some R → AW ids ad ca Γ (pc + 3) vs st σ) : AW ids ad ca Γ pc vs (.int x :: st) σ := by
  subst hx
  exact s_if_ne C hd ht (fun c => kt (by rw [if_neg c] at h; exact h)) (fun c => kf (by rw [if_pos c] at h; exact h))
theorem p_if_lt (C : CT ids ad ca Γ cc own l0 D0 fr lo nL0) {x : Int32} {off : Int} {tgt : Nat} {X : Int} {A B : Option β} (hx : x.toInt = X) (hd : decode cc pc = .ok (.ifCond .lt off, 3)) (ht : (pc : Int) + off = (tgt : Int)) (h : (if X < 0 then A else B) = some R) (kt : A = some R → AW ids ad ca Γ tgt vs st σ) (kf : B = some R → AW ids ad ca Γ (pc + 3) vs st σ) : AW ids ad ca Γ pc vs (.int x :: st) σ := by
  subst hx
  exact s_if_lt C hd ht (fun c => kt (by rw [if_pos c] at h; exact h)) (fun c => kf (by rw [if_neg (by omega)] at h; exact h))
theorem p_if_ge (C : CT ids ad ca Γ cc own l0 D0 fr lo nL0) {x : Int32} {off : Int} {tgt : Nat} {X : Int} {A B : Option β} (hx : x.toInt = X) (hd : decode cc pc = .ok (.ifCond .ge off, 3)) (ht : (pc : Int) + off = (tgt : Int)) (h : (if X < 0 then A else B) = some R) (kt : B = some R → AW ids ad ca Γ tgt vs st σ) (kf : A = some R → AW ids ad ca Γ (pc + 3) vs st σ) : AW ids ad ca Γ pc vs (.int x :: st) σ := by
  subst hx
  exact s_if_ge C hd ht (fun c => kt (by rw [if_neg (by omega)] at h; exact h)) (fun c => kf (by rw [if_pos c] at h; exact h))
theorem p_if_gt (C : CT ids ad ca Γ cc own l0 D0 fr lo nL0) {x : Int32} {off : Int} {tgt : Nat} {X : Int} {A B : Option β} (hx : x.toInt = X) (hd : decode cc pc = .ok (.ifCond .gt off, 3)) (ht : (pc : Int) + off = (tgt : Int)) (h : (if 0 < X then A else B) = some R) (kt : A = some R → AW ids ad ca Γ tgt vs st σ) (kf : B = some R → AW ids ad ca Γ (pc + 3) vs st σ) : AW ids ad ca Γ pc vs (.int x :: st) σ := by
  subst hx
  exact s_if_gt C hd ht (fun c => kt (by rw [if_pos c] at h; exact h)) (fun c => kf (by rw [if_neg (by omega)] at h; exact h))
theorem p_if_le (C : CT ids ad ca Γ cc own l0 D0 fr lo nL0) {x : Int32} {off : Int} {tgt : Nat} {X : Int} {A B : Option β} (hx : x.toInt = X) (hd : decode cc pc = .ok (.ifCond .le off, 3)) (ht : (pc : Int) + off = (tgt : Int)) (h : (if 0 < X then A else B) = some R) (kt : B = some R → AW ids ad ca Γ tgt vs st σ) (kf : A = some R → AW ids ad ca Γ (pc + 3) vs st σ) : AW ids ad ca Γ pc vs (.int x :: st) σ := by
  subst hx
  exact s_if_le C hd ht (fun c => kt (by rw [if_neg (by omega)] at h; exact h)) (fun c => kf (by rw [if_pos c] at h; exact h))
theorem p_ic_eq (C : CT ids ad ca Γ cc own l0 D0 fr lo nL0) {x y : Int32} {off : Int} {tgt : Nat} {X Y : Int} {A B : Option β} (hx : x.toInt = X) (hy : y.toInt = Y) (hd : decode cc pc = .ok (.if_icmp .eq off, 3)) (ht : (pc : Int) + off = (tgt : Int)) (h : (if X = Y then A else B) = some R) (kt : A = some R → AW ids ad ca Γ tgt vs st σ) (kf : B = some R → AW ids ad ca Γ (pc + 3) vs st σ) : AW ids ad ca Γ pc vs (.int y :: .int x :: st) σ := by
  subst hx hy
  exact s_ic_eq C hd ht (fun c => kt (by rw [if_pos c] at h; exact h)) (fun c => kf (by rw [if_neg c] at h; exact h))
theorem p_ic_ne (C : CT ids ad ca Γ cc own l0 D0 fr lo nL0) {x y : Int32} {off : Int} {tgt : Nat} {X Y : Int} {A B : Option β} (hx : x.toInt = X) (hy : y.toInt = Y) (hd : decode cc pc = .ok (.if_icmp .ne off, 3)) (ht : (pc : Int) + off = (tgt : Int)) (h : (if X = Y then A else B) = some R) (kt : B = some R → AW ids ad ca Γ tgt vs st σ) (kf : A = some R → AW ids ad ca Γ (pc + 3) vs st σ) : AW ids ad ca Γ pc vs (.int y :: .int x :: st) σ := by
  subst hx hy
  exact s_ic_ne C hd ht (fun c => kt (by rw [if_neg c] at h; exact h)) (fun c => kf (by rw [if_pos c] at h; exact h))
theorem p_ic_lt (C : CT ids ad ca Γ cc own l0 D0 fr lo nL0) {x y : Int32} {off : Int} {tgt : Nat} {X Y : Int} {A B : Option β} (hx : x.toInt = X) (hy : y.toInt = Y) (hd : decode cc pc = .ok (.if_icmp .lt off, 3)) (ht : (pc : Int) + off = (tgt : Int)) (h : (if X < Y then A else B) = some R) (kt : A = some R → AW ids ad ca Γ tgt vs st σ) (kf : B = some R → AW ids ad ca Γ (pc + 3) vs st σ) : AW ids ad ca Γ pc vs (.int y :: .int x :: st) σ := by
  subst hx hy
  exact s_ic_lt C hd ht (fun c => kt (by rw [if_pos c] at h; exact h)) (fun c => kf (by rw [if_neg (by omega)] at h; exact h))
theorem p_ic_ge (C : CT ids ad ca Γ cc own l0 D0 fr lo nL0) {x y : Int32} {off : Int} {tgt : Nat} {X Y : Int} {A B : Option β} (hx : x.toInt = X) (hy : y.toInt = Y) (hd : decode cc pc = .ok (.if_icmp .ge off, 3)) (ht : (pc : Int) + off = (tgt : Int)) (h : (if X < Y then A else B) = some R) (kt : B = some R → AW ids ad ca Γ tgt vs st σ) (kf : A = some R → AW ids ad ca Γ (pc + 3) vs st σ) : AW ids ad ca Γ pc vs (.int y :: .int x :: st) σ := by
  subst hx hy
  exact s_ic_ge C hd ht (fun c => kt (by rw [if_neg (by omega)] at h; exact h)) (fun c => kf (by rw [if_pos c] at h; exact h))
theorem p_ic_gt (C : CT ids ad ca Γ cc own l0 D0 fr lo nL0) {x y : Int32} {off : Int} {tgt : Nat} {X Y : Int} {A B : Option β} (hx : x.toInt = X) (hy : y.toInt = Y) (hd : decode cc pc = .ok (.if_icmp .gt off, 3)) (ht : (pc : Int) + off = (tgt : Int)) (h : (if Y < X then A else B) = some R) (kt : A = some R → AW ids ad ca Γ tgt vs st σ) (kf : B = some R → AW ids ad ca Γ (pc + 3) vs st σ) : AW ids ad ca Γ pc vs (.int y :: .int x :: st) σ := by
  subst hx hy
  exact s_ic_gt C hd ht (fun c => kt (by rw [if_pos c] at h; exact h)) (fun c => kf (by rw [if_neg (by omega)] at h; exact h))
theorem p_ic_le (C : CT ids ad ca Γ cc own l0 D0 fr lo nL0) {x y : Int32} {off : Int} {tgt : Nat} {X Y : Int} {A B : Option β} (hx : x.toInt = X) (hy : y.toInt = Y) (hd : decode cc pc = .ok (.if_icmp .le off, 3)) (ht : (pc : Int) + off = (tgt : Int)) (h : (if Y < X then A else B) = some R) (kt : B = some R → AW ids ad ca Γ tgt vs st σ) (kf : A = some R → AW ids ad ca Γ (pc + 3) vs st σ) : AW ids ad ca Γ pc vs (.int y :: .int x :: st) σ := by
  subst hx hy
  exact s_ic_le C hd ht (fun c => kt (by rw [if_neg (by omega)] at h; exact h)) (fun c => kf (by rw [if_pos c] at h; exact h))
theorem p_istore (C : CT ids ad ca Γ cc own l0 D0 fr lo nL0) {i : Nat} {x : Int32} {f : Int32 → Option β} (vs1 : Int32 → List (Option Value)) (hd : decode cc pc = .ok (.istore i, 2)) (hn : i < nL0) (hc : catOk vs i = true) (hvs : ∀ z, vs.set i (some (.int z)) = vs1 z) (h : Bd x f = some R) (k : ∀ z, f z = some R → AW ids ad ca Γ (pc + 2) (vs1 z) st σ) : AW ids ad ca Γ pc vs (.int x :: st) σ := a_istore C hd hn hc (hvs x) (k x h)
theorem p_istore_n (C : CT ids ad ca Γ cc own l0 D0 fr lo nL0) {q : Fin 4} {i : Nat} {x : Int32} {f : Int32 → Option β} (vs1 : Int32 → List (Option Value)) (hd : decode cc pc = .ok (.istore_n q, 1)) (hi : (q : Nat) = i) (hn : i < nL0) (hc : catOk vs i = true) (hvs : ∀ z, vs.set i (some (.int z)) = vs1 z) (h : Bd x f = some R) (k : ∀ z, f z = some R → AW ids ad ca Γ (pc + 1) (vs1 z) st σ) : AW ids ad ca Γ pc vs (.int x :: st) σ := a_istore_n C hd hi hn hc (hvs x) (k x h)
theorem p_lstore_n (C : CT ids ad ca Γ cc own l0 D0 fr lo nL0) {q : Fin 4} {i : Nat} {x : Int64} {f : Int64 → Option β} (vs1 : Int64 → List (Option Value)) (hd : decode cc pc = .ok (.lstore_n q, 1)) (hi : (q : Nat) = i) (hn : i + 1 < nL0) (hc : catOk vs i = true) (hvs : ∀ z, (vs.set (i + 1) none).set i (some (.long z)) = vs1 z) (h : Bd x f = some R) (k : ∀ z, f z = some R → AW ids ad ca Γ (pc + 1) (vs1 z) st σ) : AW ids ad ca Γ pc vs (.long x :: st) σ := a_lstore_n C hd hi hn hc (hvs x) (k x h)
theorem p_iinc (C : CT ids ad ca Γ cc own l0 D0 fr lo nL0) {i : Nat} {n : Int} {x y : Int32} {f : Int32 → Option β} (vs1 : Int32 → List (Option Value)) (hd : decode cc pc = .ok (.iinc i n, 3)) (hv : vs[i]? = some (some (.int x))) (he : x + Int32.ofInt n = y) (hn : i < nL0) (hc : catOk vs i = true) (hvs : ∀ z, vs.set i (some (.int z)) = vs1 z) (h : Bd y f = some R) (k : ∀ z, f z = some R → AW ids ad ca Γ (pc + 3) (vs1 z) st σ) : AW ids ad ca Γ pc vs st σ := a_iinc C hd hv he hn hc (hvs y) (k y h)
theorem p_idiv (C : CT ids ad ca Γ cc own l0 D0 fr lo nL0) {x y : Int32} {Y : Int} {A : Option β} (hy : y.toInt = Y) (hd : decode cc pc = .ok (.idiv, 1)) (h : (if Y = 0 then none else A) = some R) (k : A = some R → AW ids ad ca Γ (pc + 1) vs (.int (x / y) :: st) σ) : AW ids ad ca Γ pc vs (.int y :: .int x :: st) σ := by
  subst hy
  exact ite_k h (fun _ h => nn h) (fun c h => a_idiv C hd (i32_ne0 c) (k h))
theorem p_irem (C : CT ids ad ca Γ cc own l0 D0 fr lo nL0) {x y : Int32} {Y : Int} {A : Option β} (hy : y.toInt = Y) (hd : decode cc pc = .ok (.irem, 1)) (h : (if Y = 0 then none else A) = some R) (k : A = some R → AW ids ad ca Γ (pc + 1) vs (.int (x - x / y * y) :: st) σ) : AW ids ad ca Γ pc vs (.int y :: .int x :: st) σ := by
  subst hy
  exact ite_k h (fun _ h => nn h) (fun c h => a_irem C hd (i32_ne0 c) (k h))
theorem p_iald (C : CT ids ad ca Γ cc own l0 D0 fr lo nL0) {i : Nat} {j : Int32} {N : Int} {A : Option β} (hr : rowOK i) (hid : ∀ i, i < 277 → i ∈ ids) (hN : (al i : Int) = N) (hd : decode cc pc = .ok (.iaload, 1)) (h : (if 0 ≤ j.toInt ∧ j.toInt < N then A else none) = some R) (k : A = some R → AW ids ad ca Γ (pc + 1) vs (.int (σ.1 i j.toInt.toNat) :: st) σ) : AW ids ad ca Γ pc vs (.int j :: .ref (ad i) :: st) σ :=
  ite_n h (fun c h => a_iald C j.toInt.toNat hr.1 (hid _ hr.2) (i32_nn c.1) rfl (by omega) hd rfl (k h))
theorem p_ialdc (C : CT ids ad ca Γ cc own l0 D0 fr lo nL0) {i : Nat} {j : Int32} (q : Nat) (hr : rowOK i) (hid : ∀ i, i < 277 → i ∈ ids) (hj : j.toInt = q) (hN : q < al i) (hd : decode cc pc = .ok (.iaload, 1)) (k : AW ids ad ca Γ (pc + 1) vs (.int (σ.1 i q) :: st) σ) : AW ids ad ca Γ pc vs (.int j :: .ref (ad i) :: st) σ :=
  a_iald C q hr.1 (hid _ hr.2) (i32_nn (by omega)) (by rw [i32_cl, hj]; rfl) hN hd rfl k
theorem p_zald (C : CT ids ad ca Γ cc own l0 D0 fr lo nL0) {i : Nat} {j : Int32} {N : Int} {A : Option β} (hk : kd i = 21) (hi : i ∈ ids) (hN : (al i : Int) = N) (hd : decode cc pc = .ok (.baload, 1)) (h : (if 0 ≤ j.toInt ∧ j.toInt < N then A else none) = some R) (k : A = some R → AW ids ad ca Γ (pc + 1) vs (.int (σ.1 i j.toInt.toNat) :: st) σ) : AW ids ad ca Γ pc vs (.int j :: .ref (ad i) :: st) σ :=
  ite_n h (fun c h => a_zald C j.toInt.toNat hk hi (i32_nn c.1) rfl (by omega) hd rfl (k h))
theorem p_zaldc (C : CT ids ad ca Γ cc own l0 D0 fr lo nL0) {i : Nat} {j : Int32} (q : Nat) (hk : kd i = 21) (hi : i ∈ ids) (hj : j.toInt = q) (hN : q < al i) (hd : decode cc pc = .ok (.baload, 1)) (k : AW ids ad ca Γ (pc + 1) vs (.int (σ.1 i q) :: st) σ) : AW ids ad ca Γ pc vs (.int j :: .ref (ad i) :: st) σ :=
  a_zald C q hk hi (i32_nn (by omega)) (by rw [i32_cl, hj]; rfl) hN hd rfl k
theorem p_bald (C : CT ids ad ca Γ cc own l0 D0 fr lo nL0) {i : Nat} {j : Int32} {N : Int} {A : Option β} (hk : kd i = 22) (hi : i ∈ ids) (hN : (al i : Int) = N) (hd : decode cc pc = .ok (.baload, 1)) (h : (if 0 ≤ j.toInt ∧ j.toInt < N then A else none) = some R) (k : A = some R → AW ids ad ca Γ (pc + 1) vs (.int (σ.1 i j.toInt.toNat) :: st) σ) : AW ids ad ca Γ pc vs (.int j :: .ref (ad i) :: st) σ :=
  ite_n h (fun c h => a_bald C j.toInt.toNat hk hi (i32_nn c.1) rfl (by omega) hd rfl (k h))
theorem p_lald (C : CT ids ad ca Γ cc own l0 D0 fr lo nL0) {i : Nat} {j : Int32} {N : Int} {A : Option β} (hk : kd i = 23) (hi : i ∈ ids) (hN : (al i : Int) = N) (hd : decode cc pc = .ok (.laload, 1)) (h : (if 0 ≤ j.toInt ∧ j.toInt < N then A else none) = some R) (k : A = some R → AW ids ad ca Γ (pc + 1) vs (.long (σ.2.1 i j.toInt.toNat) :: st) σ) : AW ids ad ca Γ pc vs (.int j :: .ref (ad i) :: st) σ :=
  ite_n h (fun c h => a_lald C j.toInt.toNat hk hi (i32_nn c.1) rfl (by omega) hd rfl (k h))
theorem p_iast (C : CT ids ad ca Γ cc own l0 D0 fr lo nL0) {i : Nat} {j x : Int32} {N : Int} {f : HS → Option β} (hr : rowOK i) (hid : ∀ i, i < 277 → i ∈ ids) (hN : (al i : Int) = N) (hd : decode cc pc = .ok (.iastore, 1)) (h : (if 0 ≤ j.toInt ∧ j.toInt < N then Bd (hI σ i j.toInt.toNat x) f else none) = some R) (k : ∀ s, f s = some R → AW ids ad ca Γ (pc + 1) vs st s) : AW ids ad ca Γ pc vs (.int x :: .int j :: .ref (ad i) :: st) σ :=
  ite_n h (fun c h => a_iast C j.toInt.toNat hr.1 (hid _ hr.2) (i32_nn c.1) rfl (by omega) hd (k _ h))
theorem p_iastc (C : CT ids ad ca Γ cc own l0 D0 fr lo nL0) {i : Nat} {j x : Int32} {f : HS → Option β} (q : Nat) (hr : rowOK i) (hid : ∀ i, i < 277 → i ∈ ids) (hj : j.toInt = q) (hN : q < al i) (hd : decode cc pc = .ok (.iastore, 1)) (h : Bd (hI σ i q x) f = some R) (k : ∀ s, f s = some R → AW ids ad ca Γ (pc + 1) vs st s) : AW ids ad ca Γ pc vs (.int x :: .int j :: .ref (ad i) :: st) σ :=
  a_iast C q hr.1 (hid _ hr.2) (i32_nn (by omega)) (by rw [i32_cl, hj]; rfl) hN hd (k _ h)
theorem p_zast (C : CT ids ad ca Γ cc own l0 D0 fr lo nL0) {i : Nat} {j x : Int32} {N : Int} {f : HS → Option β} (hk : kd i = 21) (hi : i ∈ ids) (hN : (al i : Int) = N) (hw : 0 ≤ x.toInt ∧ x.toInt ≤ 1) (hd : decode cc pc = .ok (.bastore, 1)) (h : (if 0 ≤ j.toInt ∧ j.toInt < N then Bd (hI σ i j.toInt.toNat x) f else none) = some R) (k : ∀ s, f s = some R → AW ids ad ca Γ (pc + 1) vs st s) : AW ids ad ca Γ pc vs (.int x :: .int j :: .ref (ad i) :: st) σ :=
  ite_n h (fun c h => a_zast C j.toInt.toNat (nar_v hw) hk hi (i32_nn c.1) rfl (by omega) hd (k _ h))
theorem p_bast (C : CT ids ad ca Γ cc own l0 D0 fr lo nL0) {i : Nat} {j x : Int32} {N : Int} {f : HS → Option β} (hk : kd i = 22) (hi : i ∈ ids) (hN : (al i : Int) = N) (hd : decode cc pc = .ok (.bastore, 1)) (h : (if 0 ≤ j.toInt ∧ j.toInt < N then Bd (hI σ i j.toInt.toNat (vp_nar .byte x)) f else none) = some R) (k : ∀ s, f s = some R → AW ids ad ca Γ (pc + 1) vs st s) : AW ids ad ca Γ pc vs (.int x :: .int j :: .ref (ad i) :: st) σ :=
  ite_n h (fun c h => a_bastN C j.toInt.toNat hk hi (i32_nn c.1) rfl (by omega) hd (k _ h))
theorem p_last (C : CT ids ad ca Γ cc own l0 D0 fr lo nL0) {i : Nat} {j : Int32} {x : Int64} {N : Int} {f : HS → Option β} (hk : kd i = 23) (hi : i ∈ ids) (hN : (al i : Int) = N) (hd : decode cc pc = .ok (.lastore, 1)) (h : (if 0 ≤ j.toInt ∧ j.toInt < N then Bd (hL σ i j.toInt.toNat x) f else none) = some R) (k : ∀ s, f s = some R → AW ids ad ca Γ (pc + 1) vs st s) : AW ids ad ca Γ pc vs (.long x :: .int j :: .ref (ad i) :: st) σ :=
  ite_n h (fun c h => a_last C j.toInt.toNat hk hi (i32_nn c.1) rfl (by omega) hd (k _ h))
theorem p_aaldH (C : CT ids ad ca Γ cc own l0 D0 fr lo nL0) {t : Nat} {j : Int32} {A : Option β} (ht : txtOK t) (hid : ∀ i, i < 277 → i ∈ ids) (hd : decode cc pc = .ok (.aaload, 1)) (h : (if 0 ≤ j.toInt ∧ j.toInt < 5 then A else none) = some R) (k : rowOK (t + 5 + j.toInt.toNat) ∧ al (t + 5 + j.toInt.toNat) = 8 → A = some R → AW ids ad ca Γ (pc + 1) vs (.ref (ad (t + 5 + j.toInt.toNat)) :: st) σ) : AW ids ad ca Γ pc vs (.int j :: .ref (ad (t + 4)) :: st) σ :=
  ite_n h (fun c h => s_aaldH C ht.2.2.2.2.2.2.2.1.1 (hid _ ht.2.2.2.2.2.2.2.1.2.1) ht.2.2.2.2.2.2.2.1.2.2 c.1 c.2 hd (fun n e hn => by
    have e1 : n = j.toInt.toNat := by omega
    subst e1
    have := k (ht.2.2.2.2.2.2.2.2 _ hn) h
    exact this))
theorem p_aaldR (C : CT ids ad ca Γ cc own l0 D0 fr lo nL0) {j : Int32} {A : Option β} (hid : ∀ i, i < 277 → i ∈ ids) (hd : decode cc pc = .ok (.aaload, 1)) (h : (if 0 ≤ j.toInt ∧ j.toInt < 40 then A else none) = some R) (k : airOK (76 + 4 * j.toInt.toNat) → A = some R → AW ids ad ca Γ (pc + 1) vs (.ref (ad (76 + 4 * j.toInt.toNat)) :: st) σ) : AW ids ad ca Γ pc vs (.int j :: .ref (ad 13) :: st) σ :=
  ite_n h (fun c h => s_aaldR C (hid 13 (by decide)) c.1 c.2 hd (fun n e hn => by
    have e1 : n = j.toInt.toNat := by omega
    subst e1
    exact k (airOK_ring hn) h))
theorem p_aaldS (C : CT ids ad ca Γ cc own l0 D0 fr lo nL0) {j : Int32} {A : Option β} (hid : ∀ i, i < 277 → i ∈ ids) (hd : decode cc pc = .ok (.aaload, 1)) (h : (if 0 ≤ j.toInt ∧ j.toInt < 3 then A else none) = some R) (k : airOK (64 + 4 * j.toInt.toNat) → A = some R → AW ids ad ca Γ (pc + 1) vs (.ref (ad (64 + 4 * j.toInt.toNat)) :: st) σ) : AW ids ad ca Γ pc vs (.int j :: .ref (ad 25) :: st) σ :=
  ite_n h (fun c h => a_aald C j.toInt.toNat (Or.inr kd_25) (hid 25 (by decide)) (i32_nn c.1) rfl (by rw [al_25]; omega) (by rw [kd_25]; exact if_pos (by omega)) hd (k (airOK_slot (by omega)) h))
theorem p_getT (C : CT ids ad ca Γ cc own l0 D0 fr lo nL0) {n q ix tx : Nat} {A : Option β} (F : FL own ix n q) (hk : kd 0 = n) (hi : 0 ∈ ids) (hv : ∀ t, t = tx → (fsK ad n 0 (σ.1 0) σ.2.2)[q]? = some (.ref (ad t))) (hd : decode cc pc = .ok (.getfield ix, 3)) (h : (if tx = 30 ∨ tx = 43 then A else none) = some R) (k : txtOK tx → A = some R → AW ids ad ca Γ (pc + 3) vs (.ref (ad tx) :: st) σ) : AW ids ad ca Γ pc vs (.ref (ad 0) :: st) σ :=
  ite_n h (fun c h => a_get C F hk hi (hv tx rfl) hd (k (txtOK_of c) h))
theorem p_put (C : CT ids ad ca Γ cc own l0 D0 fr lo nL0) {i n q ix : Nat} {ty : FieldType} {v : Int32} {f : HS → Option β} (F : FP own ix n q ty) (hk : kd i = n) (hi : i ∈ ids) (hn : narrow ty (.int v) = .int v) (hf : fits ty (.int v) = true) (hd : decode cc pc = .ok (.putfield ix, 3)) (h : Bd (hI σ i q v) f = some R) (k : ∀ s, f s = some R → AW ids ad ca Γ (pc + 3) vs st s) : AW ids ad ca Γ pc vs (.int v :: .ref (ad i) :: st) σ := a_put C F hk hi hn hf hd (k _ h)
theorem p_putR (C : CT ids ad ca Γ cc own l0 D0 fr lo nL0) (hi : 0 ∈ ids) {q kk ix v : Nat} {f : HS → Option β} (F : FPR own ix q kk) (hd : decode cc pc = .ok (.putfield ix, 3)) (h : Bd (hR σ kk v) f = some R) (k : ∀ s, f s = some R → AW ids ad ca Γ (pc + 3) vs st s) : AW ids ad ca Γ pc vs (.ref (ad v) :: .ref (ad 0) :: st) σ := a_putR C hi F hd (k _ h)
theorem p_copyi (C : CT ids ad ca Γ cc own l0 D0 fr lo nL0) {ix i0 i1 : Nat} {sp dp n : Int32} {N0 N1 SP DP Z : Int} {f : HS → Option β} (h1 : Cond.methodLink own ix arraycopyName ∈ gw_tbl) (h2 : Cond.native arraycopyName ∈ gw_tbl) (h3 : Cond.static arraycopyName ∈ gw_tbl) (h4 : Cond.initialized "java/lang/System" ∈ gw_tbl) (hr0 : rowOK i0) (hr1 : rowOK i1) (hid : ∀ i, i < 277 → i ∈ ids) (hN0 : (al i0 : Int) = N0) (hN1 : (al i1 : Int) = N1) (e1 : sp.toInt = SP) (e2 : dp.toInt = DP) (e3 : n.toInt = Z) (h5 : 1 ≤ fr) (h6 : (st.map fun v => v.category).sum + (nativeFrameWords "java/lang/System" "arraycopy" 5 + 11) ≤ lo) (hd : decode cc pc = .ok (.invokestatic ix, 3)) (h : (if 0 ≤ SP ∧ 0 ≤ DP ∧ 0 ≤ Z ∧ SP + Z ≤ N0 ∧ DP + Z ≤ N1 then Bd (hA σ i1 (va_cpy (σ.1 i0) (σ.1 i1) SP.toNat DP.toNat Z.toNat)) f else none) = some R) (k : ∀ s, f s = some R → AW ids ad ca Γ (pc + 3) vs st s) : AW ids ad ca Γ pc vs (.int n :: .int dp :: .ref (ad i1) :: .int sp :: .ref (ad i0) :: st) σ := by
  subst e1 e2 e3
  exact ite_n h (fun c h => a_copyi C sp.toInt.toNat dp.toInt.toNat n.toInt.toNat h1 h2 h3 h4 hr0.1 (hid _ hr0.2) hr1.1 (hid _ hr1.2) (i32_nn c.1) (i32_nn c.2.1) (i32_nn c.2.2.1) rfl rfl rfl (by omega) (by omega) h5 h6 hd (k _ h))
theorem p_callVi (C : CT ids ad ca Γ cc own l0 D0 fr lo nL0) {y : MethodName} {cc' : ByteArray} {nL' fr' lo' n ix : Nat} {ty : FieldType} {As st0 : List Value} {i n0 : Nat} {x : Option (Int32 × HS)} {g : Int32 → HS → Option β} (hk : kd i = n0) (hi : i ∈ ids) (hq : ∃ (T : u_T) (N : Nat), vwCl[n0]? = some (y.cls, T, N)) (h12 : n0 < 12) (h : Cl x g = some R) (hM : ∀ r s, x = some (r, s) → Ki l0 D0 ids ad ca y cc' nL' ty fr' lo' (.ref (ad i) :: As) σ (fun r' σ' => r' = r ∧ σ' = s)) (hw : MI y cc' nL' (some ty) n) (hlink : Cond.methodLink own ix y ∈ gw_tbl) (hst : st0 = As.reverse ++ .ref (ad i) :: st) (hn : As.length = n) (hf1 : fr' + 1 ≤ fr) (hl1 : 8 + (nL' + 11) + lo' ≤ lo) (hcat : (st.map fun v => v.category).sum ≤ 8) (hd : decode cc pc = .ok (.invokevirtual ix, 3)) (k : ∀ r s, g r s = some R → AW ids ad ca Γ (pc + 3) vs (.int r :: st) s) : AW ids ad ca Γ pc vs st0 σ := by
  obtain ⟨r, s, e, h⟩ := Cl_some h
  exact a_callVi C hk hi hq h12 (hM r s e) hw hlink hst hn hf1 hl1 hcat hd (fun r' s' q => by obtain ⟨rfl, rfl⟩ := q; exact k _ _ h)
theorem p_callVv (C : CT ids ad ca Γ cc own l0 D0 fr lo nL0) {y : MethodName} {cc' : ByteArray} {nL' fr' lo' n ix : Nat} {As st0 : List Value} {i n0 : Nat} {x : Option HS} {g : HS → Option β} (hk : kd i = n0) (hi : i ∈ ids) (hq : ∃ (T : u_T) (N : Nat), vwCl[n0]? = some (y.cls, T, N)) (h12 : n0 < 12) (h : Cv x g = some R) (hM : ∀ s, x = some s → Kv l0 D0 ids ad ca y cc' nL' fr' lo' (.ref (ad i) :: As) σ (fun σ' => σ' = s)) (hw : MI y cc' nL' none n) (hlink : Cond.methodLink own ix y ∈ gw_tbl) (hst : st0 = As.reverse ++ .ref (ad i) :: st) (hn : As.length = n) (hf1 : fr' + 1 ≤ fr) (hl1 : 8 + (nL' + 11) + lo' ≤ lo) (hcat : (st.map fun v => v.category).sum ≤ 8) (hd : decode cc pc = .ok (.invokevirtual ix, 3)) (k : ∀ s, g s = some R → AW ids ad ca Γ (pc + 3) vs st s) : AW ids ad ca Γ pc vs st0 σ := by
  obtain ⟨s, e, h⟩ := Cv_some h
  exact a_callVv C hk hi hq h12 (hM s e) hw hlink hst hn hf1 hl1 hcat hd (fun s' q => by obtain rfl := q; exact k _ h)
theorem p_callSi (C : CT ids ad ca Γ cc own l0 D0 fr lo nL0) {y : MethodName} {cc' : ByteArray} {nL' fr' lo' n ix : Nat} {ty : FieldType} {As st0 : List Value} {x : Option (Int32 × HS)} {g : Int32 → HS → Option β} (h : Cl x g = some R) (hM : ∀ r s, x = some (r, s) → Ki l0 D0 ids ad ca y cc' nL' ty fr' lo' As σ (fun r' σ' => r' = r ∧ σ' = s)) (hw : MS y cc' nL' (some ty) n) (hlink : Cond.methodLink own ix y ∈ gw_tbl) (hst : st0 = As.reverse ++ st) (hn : As.length = n) (hf1 : fr' + 1 ≤ fr) (hl1 : 8 + (nL' + 11) + lo' ≤ lo) (hcat : (st.map fun v => v.category).sum ≤ 8) (hd : decode cc pc = .ok (.invokestatic ix, 3)) (k : ∀ r s, g r s = some R → AW ids ad ca Γ (pc + 3) vs (.int r :: st) s) : AW ids ad ca Γ pc vs st0 σ := by
  obtain ⟨r, s, e, h⟩ := Cl_some h
  exact a_callSi C (hM r s e) hw hlink hst hn hf1 hl1 hcat hd (fun r' s' q => by obtain ⟨rfl, rfl⟩ := q; exact k _ _ h)
theorem p_callSNi (C : CT ids ad ca Γ cc own l0 D0 fr lo nL0) {y : MethodName} {cc' : ByteArray} {nL' fr' lo' n ix : Nat} {ty : FieldType} {As st0 : List Value} {host : String} {x : Option (Int32 × HS)} {g : Int32 → HS → Option β} (h : Cl x g = some R) (hM : ∀ r s, x = some (r, s) → Ki l0 D0 ids ad ca y cc' nL' ty fr' lo' As σ (fun r' σ' => r' = r ∧ σ' = s)) (hw : MS y cc' nL' (some ty) n) (hnl : (own, ix, y, host) ∈ nestL) (hst : st0 = As.reverse ++ st) (hn : As.length = n) (hf1 : fr' + 1 ≤ fr) (hl1 : 8 + (nL' + 11) + lo' ≤ lo) (hcat : (st.map fun v => v.category).sum ≤ 8) (hd : decode cc pc = .ok (.invokestatic ix, 3)) (k : ∀ r s, g r s = some R → AW ids ad ca Γ (pc + 3) vs (.int r :: st) s) : AW ids ad ca Γ pc vs st0 σ := by
  obtain ⟨r, s, e, h⟩ := Cl_some h
  exact a_callSNi C (hM r s e) hw hnl hst hn hf1 hl1 hcat hd (fun r' s' q => by obtain ⟨rfl, rfl⟩ := q; exact k _ _ h)
theorem p_callSv (C : CT ids ad ca Γ cc own l0 D0 fr lo nL0) {y : MethodName} {cc' : ByteArray} {nL' fr' lo' n ix : Nat} {As st0 : List Value} {x : Option HS} {g : HS → Option β} (h : Cv x g = some R) (hM : ∀ s, x = some s → Kv l0 D0 ids ad ca y cc' nL' fr' lo' As σ (fun σ' => σ' = s)) (hw : MS y cc' nL' none n) (hlink : Cond.methodLink own ix y ∈ gw_tbl) (hst : st0 = As.reverse ++ st) (hn : As.length = n) (hf1 : fr' + 1 ≤ fr) (hl1 : 8 + (nL' + 11) + lo' ≤ lo) (hcat : (st.map fun v => v.category).sum ≤ 8) (hd : decode cc pc = .ok (.invokestatic ix, 3)) (k : ∀ s, g s = some R → AW ids ad ca Γ (pc + 3) vs st s) : AW ids ad ca Γ pc vs st0 σ := by
  obtain ⟨s, e, h⟩ := Cv_some h
  exact a_callSv C (hM s e) hw hlink hst hn hf1 hl1 hcat hd (fun s' q => by obtain rfl := q; exact k _ h)
theorem p_callSl (C : CT ids ad ca Γ cc own l0 D0 fr lo nL0) {y : MethodName} {cc' : ByteArray} {nL' fr' lo' n ix : Nat} {As st0 : List Value} {x : Option (Int64 × HS)} {g : Int64 → HS → Option β} (h : Cl x g = some R) (hM : ∀ r s, x = some (r, s) → Kl l0 D0 ids ad ca y cc' nL' fr' lo' As σ (fun r' σ' => r' = r ∧ σ' = s)) (hw : MS y cc' nL' (some .long) n) (hlink : Cond.methodLink own ix y ∈ gw_tbl) (hst : st0 = As.reverse ++ st) (hn : As.length = n) (hf1 : fr' + 1 ≤ fr) (hl1 : 8 + (nL' + 11) + lo' ≤ lo) (hcat : (st.map fun v => v.category).sum ≤ 8) (hd : decode cc pc = .ok (.invokestatic ix, 3)) (k : ∀ r s, g r s = some R → AW ids ad ca Γ (pc + 3) vs (.long r :: st) s) : AW ids ad ca Γ pc vs st0 σ := by
  obtain ⟨r, s, e, h⟩ := Cl_some h
  exact a_callSl C (hM r s e) hw hlink hst hn hf1 hl1 hcat hd (fun r' s' q => by obtain ⟨rfl, rfl⟩ := q; exact k _ _ h)
theorem p_cViS (C : CT ids ad ca Γ cc own l0 D0 fr lo nL0) (E : SG K Γ) {y : MethodName} {cc' : ByteArray} {nL' fr' lo' n ix : Nat} {ty : FieldType} {As st0 : List Value} {i n0 : Nat} {x : Option (Int32 × HS)} {g : Int32 → HS → Option β} (hk : kd i = n0) (hi : i ∈ ids) (hq : ∃ (T : u_T) (N : Nat), vwCl[n0]? = some (y.cls, T, N)) (h12 : n0 < 12) (h : Cl x g = some R) (hM : ∀ r s, x = some (r, s) → KiS l0 D0 ids ad ca K y cc' nL' ty fr' lo' (.ref (ad i) :: As) σ (fun r' σ' => r' = r ∧ σ' = s)) (hw : MI y cc' nL' (some ty) n) (hlink : Cond.methodLink own ix y ∈ gw_tbl) (hst : st0 = As.reverse ++ .ref (ad i) :: st) (hn : As.length = n) (hf1 : fr' + 1 ≤ fr) (hl1 : 8 + (nL' + 11) + lo' ≤ lo) (hcat : (st.map fun v => v.category).sum ≤ 8) (hd : decode cc pc = .ok (.invokevirtual ix, 3)) (k : ∀ r s, g r s = some R → AW ids ad ca Γ (pc + 3) vs (.int r :: st) s) : AW ids ad ca Γ pc vs st0 σ := by
  obtain ⟨r, s, e, h⟩ := Cl_some h
  exact a_cViS C E hk hi hq h12 (hM r s e) hw hlink hst hn hf1 hl1 hcat hd (fun r' s' q => by obtain ⟨rfl, rfl⟩ := q; exact k _ _ h)
theorem p_cVvS (C : CT ids ad ca Γ cc own l0 D0 fr lo nL0) (E : SG K Γ) {y : MethodName} {cc' : ByteArray} {nL' fr' lo' n ix : Nat} {As st0 : List Value} {i n0 : Nat} {x : Option HS} {g : HS → Option β} (hk : kd i = n0) (hi : i ∈ ids) (hq : ∃ (T : u_T) (N : Nat), vwCl[n0]? = some (y.cls, T, N)) (h12 : n0 < 12) (h : Cv x g = some R) (hM : ∀ s, x = some s → KvS l0 D0 ids ad ca K y cc' nL' fr' lo' (.ref (ad i) :: As) σ (fun σ' => σ' = s)) (hw : MI y cc' nL' none n) (hlink : Cond.methodLink own ix y ∈ gw_tbl) (hst : st0 = As.reverse ++ .ref (ad i) :: st) (hn : As.length = n) (hf1 : fr' + 1 ≤ fr) (hl1 : 8 + (nL' + 11) + lo' ≤ lo) (hcat : (st.map fun v => v.category).sum ≤ 8) (hd : decode cc pc = .ok (.invokevirtual ix, 3)) (k : ∀ s, g s = some R → AW ids ad ca Γ (pc + 3) vs st s) : AW ids ad ca Γ pc vs st0 σ := by
  obtain ⟨s, e, h⟩ := Cv_some h
  exact a_cVvS C E hk hi hq h12 (hM s e) hw hlink hst hn hf1 hl1 hcat hd (fun s' q => by obtain rfl := q; exact k _ h)
theorem p_cSiS (C : CT ids ad ca Γ cc own l0 D0 fr lo nL0) (E : SG K Γ) {y : MethodName} {cc' : ByteArray} {nL' fr' lo' n ix : Nat} {ty : FieldType} {As st0 : List Value} {x : Option (Int32 × HS)} {g : Int32 → HS → Option β} (h : Cl x g = some R) (hM : ∀ r s, x = some (r, s) → KiS l0 D0 ids ad ca K y cc' nL' ty fr' lo' As σ (fun r' σ' => r' = r ∧ σ' = s)) (hw : MS y cc' nL' (some ty) n) (hlink : Cond.methodLink own ix y ∈ gw_tbl) (hst : st0 = As.reverse ++ st) (hn : As.length = n) (hf1 : fr' + 1 ≤ fr) (hl1 : 8 + (nL' + 11) + lo' ≤ lo) (hcat : (st.map fun v => v.category).sum ≤ 8) (hd : decode cc pc = .ok (.invokestatic ix, 3)) (k : ∀ r s, g r s = some R → AW ids ad ca Γ (pc + 3) vs (.int r :: st) s) : AW ids ad ca Γ pc vs st0 σ := by
  obtain ⟨r, s, e, h⟩ := Cl_some h
  exact a_cSiS C E (hM r s e) hw hlink hst hn hf1 hl1 hcat hd (fun r' s' q => by obtain ⟨rfl, rfl⟩ := q; exact k _ _ h)
theorem p_cTiS (C : CT ids ad ca Γ cc own l0 D0 fr lo nL0) (E : SG K Γ) {y : MethodName} {cc' : ByteArray} {nL' fr' lo' n ix : Nat} {ty : FieldType} {As st0 : List Value} {i : Nat} {x : Option (Int32 × HS)} {g : Int32 → HS → Option β} (hi : i < 2) (hyc : y.cls = RJ0) (h : Cl x g = some R) (hM : ∀ r s, x = some (r, s) → KiS l0 D0 ids ad ca K y cc' nL' ty fr' lo' (.ref (K.1 i) :: As) σ (fun r' σ' => r' = r ∧ σ' = s)) (hw : MI y cc' nL' (some ty) n) (hlink : Cond.methodLink own ix y ∈ gw_tbl) (hst : st0 = As.reverse ++ .ref (K.1 i) :: st) (hn : As.length = n) (hf1 : fr' + 1 ≤ fr) (hl1 : 8 + (nL' + 11) + lo' ≤ lo) (hcat : (st.map fun v => v.category).sum ≤ 8) (hd : decode cc pc = .ok (.invokevirtual ix, 3)) (k : ∀ r s, g r s = some R → AW ids ad ca Γ (pc + 3) vs (.int r :: st) s) : AW ids ad ca Γ pc vs st0 σ := by
  obtain ⟨r, s, e, h⟩ := Cl_some h
  exact a_cTiS C E hi hyc (hM r s e) hw hlink hst hn hf1 hl1 hcat hd (fun r' s' q => by obtain ⟨rfl, rfl⟩ := q; exact k _ _ h)
theorem p_sbald (C : CT ids ad ca Γ cc own l0 D0 fr lo nL0) (E : SG K Γ) {i : Nat} (hi : i < 2) {j : Int32} {N : Int} {A : Option β} (hN : ((lenS.getD i 0 : Nat) : Int) = N) (hd : decode cc pc = .ok (.baload, 1)) (h : (if 0 ≤ j.toInt ∧ j.toInt < N then A else none) = some R) (k : A = some R → AW ids ad ca Γ (pc + 1) vs (.int ((bytS.getD i []).getD j.toInt.toNat 0) :: st) σ) : AW ids ad ca Γ pc vs (.int j :: .ref (K.2 i) :: st) σ :=
  ite_n h (fun c h => a_sbald C E hi c.1 (by omega) hd (fun n e => by
    have e1 : n = j.toInt.toNat := by omega
    subst e1
    exact k h))
theorem p_strlen (C : CT ids ad ca Γ cc own l0 D0 fr lo nL0) (E : SG K Γ) {n ix i : Nat} {As : List Value} (hi : i < 2) (hw : MI yJ0_length_8abf5 cJ0_length_8abf5 1 (some .int) n) (hlink : Cond.methodLink own ix yJ0_length_8abf5 ∈ gw_tbl) (hn : n = 0) (hf1 : 2 ≤ fr) (hl1 : 40 ≤ lo) (hcat : (st.map fun v => v.category).sum ≤ 8) (hd : decode cc pc = .ok (.invokevirtual ix, 3)) (hA : As = []) (k : AW ids ad ca Γ (pc + 3) vs (.int (Int32.ofNat (lenS.getD i 0)) :: st) σ) : AW ids ad ca Γ pc vs (.ref (K.1 i) :: st) σ :=
  a_cTiS C E (As := []) (i := i) hi rfl (J_length hi) hw hlink rfl hn.symm hf1 hl1 hcat hd (fun r s q => by
    obtain ⟨h1, rfl⟩ := q
    have e : r = Int32.ofNat (lenS.getD i 0) := Int32.toInt_inj.mp (by
      rw [h1]
      rcases (show i = 0 ∨ i = 1 by omega) with rfl | rfl <;> rfl)
    rw [e]
    exact k)
theorem p_charAt (C : CT ids ad ca Γ cc own l0 D0 fr lo nL0) (E : SG K Γ) {n ix i : Nat} {x : Int32} {N : Int} {A : Option β} (hi : i < 2) (hN : ((lenS.getD i 0 : Nat) : Int) = N) (hw : MI yJ0_charAt_5068e cJ0_charAt_5068e 2 (some .char) n) (hlink : Cond.methodLink own ix yJ0_charAt_5068e ∈ gw_tbl) (hn : n = 1) (hf1 : 4 ≤ fr) (hl1 : 91 ≤ lo) (hcat : (st.map fun v => v.category).sum ≤ 8) (hd : decode cc pc = .ok (.invokevirtual ix, 3)) (h : (if 0 ≤ x.toInt ∧ x.toInt < N then A else none) = some R) (k : A = some R → AW ids ad ca Γ (pc + 3) vs (.int (chS i x.toInt.toNat) :: st) σ) : AW ids ad ca Γ pc vs (.int x :: .ref (K.1 i) :: st) σ :=
  ite_n h (fun c h => a_cTiS C E (As := [.int x]) (i := i) hi rfl (J_charAt hi c.1 (by omega)) hw hlink rfl hn.symm hf1 hl1 hcat hd (fun r s q => by
    obtain ⟨⟨j, hj, rfl⟩, rfl⟩ := q
    have e1 : j = x.toInt.toNat := by omega
    subst e1
    exact k h))
end VROW

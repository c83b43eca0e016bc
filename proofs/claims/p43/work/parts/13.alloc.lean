def va_AOA (ty : FieldType) (U : State) : Prop := (Cond.arrayOver (.array ty)).before #[] U = true
theorem va_AOA.use {ty : FieldType} {A : Array Value} {U : State} (h : va_AOA ty U) : (Cond.arrayOver (.array ty)).before A U = true := h
/-! worlds that grow: constructors -/
abbrev GQ : Type := Program × Launch × Env × Room × State × MethodId × Array Value × List Frame × Method × Code × (State → Prop) × va_G × (Nat → Prop) × Heap × Nat
def GW (Γ : GQ) (pc : Nat) (vs : List (Option Value)) (st : List Value) (ws : va_W) (ts : List (ClassId × FieldType)) (kc ks : Nat) : Prop := match Γ with
  | (p, l, e, R, s, m, args, below, meth, c, Q, D, A, H0, nL) => ∀ (H : Heap) (locs : List Loc) (ls : Array Slot), va_K D vwCl ts s → va_P D vwCl ws H → va_D A ws → va_S A H0 H locs → LV ls nL vs → W p l e R s m args below meth c H locs kc ks Q (F0 m pc ls st)
def CG (Γ : GQ) (cc : ByteArray) (own : String) (l0 : Launch) (D0 : va_G) (fr lo mc ms nL0 : Nat) : Prop := match Γ with
  | (p, l, e, R, s, m, args, below, meth, c, Q, D, A, H0, nL) => CallFix p m c cc nL s args gw_tbl own ∧ EN s ∧ (∀ q, H0.size ≤ q → A q) ∧ l = l0 ∧ D = D0 ∧ fr ≤ R.frames ∧ lo ≤ R.locals ∧ mc ≤ R.cells ∧ ms ≤ R.slots ∧ nL = nL0
def GIn (Γ : GQ) : Prop := match Γ with
  | (p, l, e, R, s, m, args, below, meth, c, Q, D, A, H0, nL) => meth.name = "<init>"
section GWR
variable {Γ : GQ} {cc : ByteArray} {own : String} {l0 : Launch} {D0 : va_G} {fr lo mc ms nL0 : Nat} {pc : Nat} {vs : List (Option Value)} {st : List Value} {ws : va_W} {ts : List (ClassId × FieldType)} {kc ks : Nat}
theorem g_iconst (C : CG Γ cc own l0 D0 fr lo mc ms nL0) {n : Int} {v : Int32} (hd : decode cc pc = .ok (.iconst n, 1)) (hv : Int32.ofInt n = v) (k : GW Γ (pc + 1) vs (.int v :: st) ws ts kc ks) : GW Γ pc vs st ws ts kc ks := by
  obtain ⟨p, l, e, R, s, m, args, below, meth, c, Q, D, A, H0, nL⟩ := Γ
  obtain ⟨⟨hx, hb, hml, hown, hts⟩, hE, hA0, rfl, rfl, hfr, hlo, hmc, hms, rfl⟩ := C
  intro H locs ls hK hP hD hS hl
  exact lv_iconst hx hb hd hv (k H locs ls hK hP hD hS hl)
theorem g_bipush (C : CG Γ cc own l0 D0 fr lo mc ms nL0) {n : Int} {v : Int32} (hd : decode cc pc = .ok (.bipush n, 2)) (hv : (Int8.ofInt n).toInt32 = v) (k : GW Γ (pc + 2) vs (.int v :: st) ws ts kc ks) : GW Γ pc vs st ws ts kc ks := by
  obtain ⟨p, l, e, R, s, m, args, below, meth, c, Q, D, A, H0, nL⟩ := Γ
  obtain ⟨⟨hx, hb, hml, hown, hts⟩, hE, hA0, rfl, rfl, hfr, hlo, hmc, hms, rfl⟩ := C
  intro H locs ls hK hP hD hS hl
  exact lv_bipush hx hb hd hv (k H locs ls hK hP hD hS hl)
theorem g_sipush (C : CG Γ cc own l0 D0 fr lo mc ms nL0) {n : Int} {v : Int32} (hd : decode cc pc = .ok (.sipush n, 3)) (hv : (Int16.ofInt n).toInt32 = v) (k : GW Γ (pc + 3) vs (.int v :: st) ws ts kc ks) : GW Γ pc vs st ws ts kc ks := by
  obtain ⟨p, l, e, R, s, m, args, below, meth, c, Q, D, A, H0, nL⟩ := Γ
  obtain ⟨⟨hx, hb, hml, hown, hts⟩, hE, hA0, rfl, rfl, hfr, hlo, hmc, hms, rfl⟩ := C
  intro H locs ls hK hP hD hS hl
  exact lv_sipush hx hb hd hv (k H locs ls hK hP hD hS hl)
theorem g_iload_n (C : CG Γ cc own l0 D0 fr lo mc ms nL0) {q : Fin 4} {i : Nat} {x : Int32} (hd : decode cc pc = .ok (.iload_n q, 1)) (hi : (q : Nat) = i) (hv : vs[i]? = some (some (.int x))) (k : GW Γ (pc + 1) vs (.int x :: st) ws ts kc ks) : GW Γ pc vs st ws ts kc ks := by
  obtain ⟨p, l, e, R, s, m, args, below, meth, c, Q, D, A, H0, nL⟩ := Γ
  obtain ⟨⟨hx, hb, hml, hown, hts⟩, hE, hA0, rfl, rfl, hfr, hlo, hmc, hms, rfl⟩ := C
  intro H locs ls hK hP hD hS hl
  exact lv_iload_n hx hb hd hi (hl.2.2 _ _ hv) (k H locs ls hK hP hD hS hl)
theorem g_aload_n (C : CG Γ cc own l0 D0 fr lo mc ms nL0) {q : Fin 4} {i : Nat} {x : Nat} (hd : decode cc pc = .ok (.aload_n q, 1)) (hi : (q : Nat) = i) (hv : vs[i]? = some (some (.ref x))) (k : GW Γ (pc + 1) vs (.ref x :: st) ws ts kc ks) : GW Γ pc vs st ws ts kc ks := by
  obtain ⟨p, l, e, R, s, m, args, below, meth, c, Q, D, A, H0, nL⟩ := Γ
  obtain ⟨⟨hx, hb, hml, hown, hts⟩, hE, hA0, rfl, rfl, hfr, hlo, hmc, hms, rfl⟩ := C
  intro H locs ls hK hP hD hS hl
  exact lv_aload_n hx hb hd hi (hl.2.2 _ _ hv) (k H locs ls hK hP hD hS hl)
theorem g_istore_n (C : CG Γ cc own l0 D0 fr lo mc ms nL0) {q : Fin 4} {i : Nat} {x : Int32} (hd : decode cc pc = .ok (.istore_n q, 1)) (hi : (q : Nat) = i) (hn : i < nL0) (hc : catOk vs i = true) {vs1 : List (Option Value)} (hvs : vs.set i (some (.int x)) = vs1) (k : GW Γ (pc + 1) vs1 st ws ts kc ks) : GW Γ pc vs (.int x :: st) ws ts kc ks := by
  obtain ⟨p, l, e, R, s, m, args, below, meth, c, Q, D, A, H0, nL⟩ := Γ
  obtain ⟨⟨hx, hb, hml, hown, hts⟩, hE, hA0, rfl, rfl, hfr, hlo, hmc, hms, rfl⟩ := C
  intro H locs ls hK hP hD hS hl
  subst hvs
  exact lv_istore_n hx hb hd hi hl.has hn rfl (fun ls1 h1 => k H locs ls1 hK hP hD hS (LV.store1 hc h1))
theorem g_iinc (C : CG Γ cc own l0 D0 fr lo mc ms nL0) {i : Nat} {n : Int} {x v : Int32} (hd : decode cc pc = .ok (.iinc i n, 3)) (hv : vs[i]? = some (some (.int x))) (he : x + Int32.ofInt n = v) (hn : i < nL0) (hc : catOk vs i = true) {vs1 : List (Option Value)} (hvs : vs.set i (some (.int v)) = vs1) (k : GW Γ (pc + 3) vs1 st ws ts kc ks) : GW Γ pc vs st ws ts kc ks := by
  obtain ⟨p, l, e, R, s, m, args, below, meth, c, Q, D, A, H0, nL⟩ := Γ
  obtain ⟨⟨hx, hb, hml, hown, hts⟩, hE, hA0, rfl, rfl, hfr, hlo, hmc, hms, rfl⟩ := C
  intro H locs ls hK hP hD hS hl
  subst hvs
  have hm : (i, Value.int x) ∈ lvL vs := lvL_mem.mpr hv
  obtain ⟨j, hj⟩ := List.mem_iff_getElem?.mp hm
  exact lv_iinc hx hb hd hl.has hj he hn rfl (fun ls1 h1 => k H locs ls1 hK hP hD hS (LV.store1 hc h1))
theorem g_dup (C : CG Γ cc own l0 D0 fr lo mc ms nL0) {v : Value} (hd : decode cc pc = .ok (.dup, 1)) (hv : v.category = 1) (k : GW Γ (pc + 1) vs (v :: v :: st) ws ts kc ks) : GW Γ pc vs (v :: st) ws ts kc ks := by
  obtain ⟨p, l, e, R, s, m, args, below, meth, c, Q, D, A, H0, nL⟩ := Γ
  obtain ⟨⟨hx, hb, hml, hown, hts⟩, hE, hA0, rfl, rfl, hfr, hlo, hmc, hms, rfl⟩ := C
  intro H locs ls hK hP hD hS hl
  exact lv_dup hx hb hd hv (k H locs ls hK hP hD hS hl)
theorem g_goto (C : CG Γ cc own l0 D0 fr lo mc ms nL0) {off : Int} {tgt : Nat} (hd : decode cc pc = .ok (.goto off, 3)) (ht : (pc : Int) + off = (tgt : Int)) (k : GW Γ tgt vs st ws ts kc ks) : GW Γ pc vs st ws ts kc ks := by
  obtain ⟨p, l, e, R, s, m, args, below, meth, c, Q, D, A, H0, nL⟩ := Γ
  obtain ⟨⟨hx, hb, hml, hown, hts⟩, hE, hA0, rfl, rfl, hfr, hlo, hmc, hms, rfl⟩ := C
  intro H locs ls hK hP hD hS hl
  exact lv_goto hx hb hd ht (k H locs ls hK hP hD hS hl)
theorem g_ic_ge (C : CG Γ cc own l0 D0 fr lo mc ms nL0) {x y : Int32} {off : Int} {tgt : Nat} (hd : decode cc pc = .ok (.if_icmp .ge off, 3)) (ht : (pc : Int) + off = (tgt : Int)) (kt : y ≤ x → GW Γ tgt vs st ws ts kc ks) (kf : ¬ y ≤ x → GW Γ (pc + 3) vs st ws ts kc ks) : GW Γ pc vs (.int y :: .int x :: st) ws ts kc ks := by
  obtain ⟨p, l, e, R, s, m, args, below, meth, c, Q, D, A, H0, nL⟩ := Γ
  obtain ⟨⟨hx, hb, hml, hown, hts⟩, hE, hA0, rfl, rfl, hfr, hlo, hmc, hms, rfl⟩ := C
  intro H locs ls hK hP hD hS hl
  exact lv_icmp_ge hx hb hd ht (fun h => kt h H locs ls hK hP hD hS hl) (fun h => kf h H locs ls hK hP hD hS hl)
theorem g_objInit (C : CG Γ cc own l0 D0 fr lo mc ms nL0) {a : Nat} {ix : Nat} (w1 : Cond.methodLink own ix Lib.objectInit ∈ gw_tbl) (w2 : Cond.instanceMethod Lib.objectInit ∈ gw_tbl) (w3 : Cond.code Lib.objectInit ⟨#[0xb1]⟩ 1 none ∈ gw_tbl) (hf : 1 ≤ fr) (hl0 : (st.map fun v => v.category).sum + 12 ≤ lo) (hd : decode cc pc = .ok (.invokespecial ix, 3)) (k : GW Γ (pc + 3) vs st ws ts kc ks) : GW Γ pc vs (.ref a :: st) ws ts kc ks := by
  obtain ⟨p, l, e, R, s, m, args, below, meth, c, Q, D, A, H0, nL⟩ := Γ
  obtain ⟨⟨hx, hb, hml, hown, hts⟩, hE, hA0, rfl, rfl, hfr, hlo, hmc, hms, rfl⟩ := C
  intro H locs ls hK hP hD hS hl
  refine W.objInit hx hb hown (hts _ w1) (hts _ w2) (hts _ w3) rfl (hl.1.trans hml.symm) rfl hd (Nat.le_trans hf hfr) ?_ (k H locs ls hK hP hD hS hl)
  show 2 * (F0 m pc ls (.ref a :: st)).monitorRoom + (st.map fun v => v.category).sum + 12 ≤ R.locals
  have : 2 * (F0 m pc ls (.ref a :: st)).monitorRoom = 0 := rfl
  omega
theorem g_newa (C : CG Γ cc own l0 D0 fr lo mc ms nL0) {atype : ArrayType} {ty : FieldType} {n : Int32} (N : Nat) (a0 : vp_A) (hw : Cond.arrayClass (newarray.typeOf atype) ∈ gw_tbl) (hty : newarray.typeOf atype = ty) (ha : ∀ cA : ClassId, vp_cell cA a0 = arrV cA N (fun _ => defaultValue ty)) (hn : ¬ n < 0) (hN : n.toNatClampNeg = N) (hby : N * componentBytes ty ≤ 536870912) (h1 : kc + 1 ≤ mc) (h2 : ks + N ≤ ms) (hd : decode cc pc = .ok (.newarray atype, 2)) (k : ∀ (q : Nat) (cA : ClassId), GW Γ (pc + 2) vs (.ref q :: st) (ws ++ [(q, .inl (cA, a0))]) (ts ++ [(cA, ty)]) (kc + 1) (ks + N)) : GW Γ pc vs (.int n :: st) ws ts kc ks := by
  obtain ⟨p, l, e, R, s, m, args, below, meth, c, Q, D, A, H0, nL⟩ := Γ
  obtain ⟨⟨hx, hb, hml, hown, hts⟩, hE, hA0, rfl, rfl, hfr, hlo, hmc, hms, rfl⟩ := C
  intro H locs ls hK hP hD hS hl
  exact va_newa hx hb (hts _ hw) hty hK hP hD hS hA0 ha hn hN hby (Nat.le_trans h1 hmc) (Nat.le_trans h2 hms) hd (fun q cA H1 hK1 hP1 hD1 hS1 => k q cA H1 locs ls hK1 hP1 hD1 hS1 hl)
/-- a class that can be made: ci of vwCl -/
def NC (own : String) (ix ci N : Nat) (fs : List Value) : Prop := ∃ (Cn : String) (T : u_T) (ty : Nat → FieldType), vwCl[ci]? = some (Cn, T, N) ∧ (∀ w ∈ u_ws Cn T N, w ∈ gw_tbl) ∧ (∀ k, k < N → parseFieldDescriptor (T k).2.2.1 = some (ty k)) ∧ Cond.classLink own ix Cn ∈ gw_tbl ∧ Cond.instantiable Cn N ∈ gw_tbl ∧ Cond.initialized Cn ∈ gw_tbl ∧ (∀ j, j < N → defaultValue (ty j) = vp_V fs j)
theorem g_new (C : CG Γ cc own l0 D0 fr lo mc ms nL0) {ix ci N : Nat} {fs : List Value} (F : NC own ix ci N fs) (h1 : kc + 1 ≤ mc) (h2 : ks + N ≤ ms) (hd : decode cc pc = .ok (.new ix, 3)) (k : ∀ q : Nat, GW Γ (pc + 3) vs (.ref q :: st) (ws ++ [(q, .inr (ci, fs))]) ts (kc + 1) (ks + N)) : GW Γ pc vs st ws ts kc ks := by
  obtain ⟨p, l, e, R, s, m, args, below, meth, c, Q, D, A, H0, nL⟩ := Γ
  obtain ⟨⟨hx, hb, hml, hown, hts⟩, hE, hA0, rfl, rfl, hfr, hlo, hmc, hms, rfl⟩ := C
  intro H locs ls hK hP hD hS hl
  obtain ⟨Cn, T, ty, hc, hin, hty, w1, w2, w3, hfs⟩ := F
  exact va_new hx hb hts hin ty hty hown (hts _ w1) (hts _ w2) (hts _ w3) hK hP hD hS hA0 hc hfs (Nat.le_trans h1 hmc) (Nat.le_trans h2 hms) hd (fun q H1 hP1 hD1 hS1 => k q H1 locs ls hK hP1 hD1 hS1 hl)
/-- a field that is written: final ones in a constructor of the class itself -/
def FW (own : String) (ix n k : Nat) (ty : FieldType) (fin : Bool) : Prop := ∃ (Cn : String) (T : u_T) (N : Nat) (ty0 : Nat → FieldType), (vwCl[n]? = some (Cn, T, N) ∧ k < N ∧ Cond.fieldLink own ix (T k).1 (T k).2.1 (T k).2.2.1 ∈ gw_tbl ∧ (∀ w ∈ u_ws Cn T N, w ∈ gw_tbl)) ∧ (∀ k, k < N → parseFieldDescriptor (T k).2.2.1 = some (ty0 k)) ∧ (∀ a, a < N → ∀ b, b < N → a ≠ b → (T a).2.1 ≠ (T b).2.1) ∧ (T k).2.2.2 = fin ∧ (T k).1 = own ∧ parseFieldDescriptor (T k).2.2.1 = some ty
theorem g_put (C : CG Γ cc own l0 D0 fr lo mc ms nL0) (hI : GIn Γ) {a n q ix q0 : Nat} {ty : FieldType} {fin : Bool} {v : Value} {fs : List Value} {ws1 : va_W} (F : FW own ix n q ty fin) (he : ws[q0]? = some (a, .inr (n, fs))) (hn : narrow ty v = v) (hf : fits ty v = true) (hq : q < fs.length) (hd : decode cc pc = .ok (.putfield ix, 3)) (hw : ws.set q0 (a, .inr (n, fs.set q v)) = ws1) (k : GW Γ (pc + 3) vs st ws1 ts kc ks) : GW Γ pc vs (v :: .ref a :: st) ws ts kc ks := by
  obtain ⟨p, l, e, R, s, m, args, below, meth, c, Q, D, A, H0, nL⟩ := Γ
  obtain ⟨⟨hx, hb, hml, hown, hts⟩, hE, hA0, rfl, rfl, hfr, hlo, hmc, hms, rfl⟩ := C
  intro H locs ls hK hP hD hS hl
  obtain ⟨Cn, T, N, ty0, ⟨hc, hk, w1, hin⟩, hty, hnm, hfin, hown2, hdd⟩ := F
  subst hw
  cases fin with
  | false => exact va_put hx hb hts hin ty0 hty hnm hown hK hP hD hS q0 he hc q hk (hts _ w1) (fun _ h => h) hfin hdd hn hf hq hd (fun H1 locs1 hP1 hD1 hS1 => k H1 locs1 ls hK hP1 hD1 hS1 hl)
  | true => exact va_putF hx hb hts hin ty0 hty hnm hown hK hP hD hS q0 he hc q hk (hts _ w1) (fun _ h => h) hfin hI hown2 hdd hn hf hq hd (fun H1 locs1 hP1 hD1 hS1 => k H1 locs1 ls hK hP1 hD1 hS1 hl)
theorem g_get (C : CG Γ cc own l0 D0 fr lo mc ms nL0) {a n q ix q0 : Nat} {v : Value} {fs : List Value} (F : FL own ix n q) (he : ws[q0]? = some (a, .inr (n, fs))) (hv : fs[q]? = some v) (hd : decode cc pc = .ok (.getfield ix, 3)) (k : GW Γ (pc + 3) vs (v :: st) ws ts kc ks) : GW Γ pc vs (.ref a :: st) ws ts kc ks := by
  obtain ⟨p, l, e, R, s, m, args, below, meth, c, Q, D, A, H0, nL⟩ := Γ
  obtain ⟨⟨hx, hb, hml, hown, hts⟩, hE, hA0, rfl, rfl, hfr, hlo, hmc, hms, rfl⟩ := C
  intro H locs ls hK hP hD hS hl
  obtain ⟨Cn, T, N, hc, hk, h12, w1, hin⟩ := F
  exact va_get hx hb hts hin hown hK hP q0 he hc q hk (hts _ w1) (fun _ h => h) hv hd (k H locs ls hK hP hD hS hl)
theorem g_newq (C : CG Γ cc own l0 D0 fr lo mc ms nL0) {Cn : String} {ix : Nat} {n : Int32} (N : Nat) (w1 : Cond.classLink own ix Cn ∈ gw_tbl) (hov : match Γ with | (p, l, e, R, s, m, args, below, meth, c, Q, D, A, H0, nL) => va_AO Cn s) (hn : ¬ n < 0) (hN : n.toNatClampNeg = N) (hby : N * 4 ≤ 536870912) (h1 : kc + 1 ≤ mc) (h2 : ks + N ≤ ms) (hd : decode cc pc = .ok (.anewarray ix, 3)) (k : ∀ (q : Nat) (cA : ClassId), GW Γ (pc + 3) vs (.ref q :: st) (ws ++ [(q, .inl (cA, N, .inr (.inr (.inr (.inr (fun _ => none))))))]) (ts ++ [(cA, .object Cn)]) (kc + 1) (ks + N)) : GW Γ pc vs (.int n :: st) ws ts kc ks := by
  obtain ⟨p, l, e, R, s, m, args, below, meth, c, Q, D, A, H0, nL⟩ := Γ
  obtain ⟨⟨hx, hb, hml, hown, hts⟩, hE, hA0, rfl, rfl, hfr, hlo, hmc, hms, rfl⟩ := C
  intro H locs ls hK hP hD hS hl
  exact va_newq hx hb hown (hts _ w1) hov hK hP hD hS hA0 hn hN hby (Nat.le_trans h1 hmc) (Nat.le_trans h2 hms) hd (fun q cA H1 hK1 hP1 hD1 hS1 => k q cA H1 locs ls hK1 hP1 hD1 hS1 hl)
theorem g_astq (C : CG Γ cc own l0 D0 fr lo mc ms nL0) {a v q0 t0 qk ci n : Nat} {cA : ClassId} {r : vw_C} {fs : List Value} {f : Nat → Option Nat} {j : Int32} {ws1 : va_W} (jn : Nat) (he : ws[q0]? = some (a, .inl (cA, n, .inr (.inr (.inr (.inr f)))))) (ht : ts[t0]? = some (cA, .object r.1)) (hv : ws[qk]? = some (v, .inr (ci, fs))) (hc : vwCl[ci]? = some r) (h0 : ¬ j < 0) (hj : j.toNatClampNeg = jn) (hn : jn < n) (hd : decode cc pc = .ok (.aastore, 1)) (hw : ws.set q0 (a, .inl (cA, n, .inr (.inr (.inr (.inr (va_up f jn (some v))))))) = ws1) (k : GW Γ (pc + 1) vs st ws1 ts kc ks) : GW Γ pc vs (.ref v :: .int j :: .ref a :: st) ws ts kc ks := by
  obtain ⟨p, l, e, R, s, m, args, below, meth, c, Q, D, A, H0, nL⟩ := Γ
  obtain ⟨⟨hx, hb, hml, hown, hts⟩, hE, hA0, rfl, rfl, hfr, hlo, hmc, hms, rfl⟩ := C
  intro H locs ls hK hP hD hS hl
  subst hj hw
  exact va_astq hx hb hK hP hD hS q0 t0 qk ci he ht hv hc (fun h => h.elim h0 (fun h => absurd h (by omega))) hd (fun H1 locs1 hP1 hD1 hS1 => k H1 locs1 ls hK hP1 hD1 hS1 hl)
end GWR

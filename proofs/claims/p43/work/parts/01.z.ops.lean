/-! decode by the bytes of the code: one lemma an opcode -/
def xr {α : Type} (r : Jvm.ClassFile.Decoder α) : ByteArray → Nat → Except Jvm.ClassFile.DecodeError (α × Nat) := r
theorem xr_bind {α β : Type} (r : Jvm.ClassFile.Decoder α) (f : α → Jvm.ClassFile.Decoder β) (c : ByteArray) (p : Nat) : xr (r >>= f) c p = Except.bind (xr r c p) (fun w => xr (f w.1) c w.2) := rfl
theorem xr_u1 (d : ByteArray) (s : Nat) : xr Jvm.ClassFile.Reader.u1 d s = if hs : s < d.size then .ok ((d[s]'hs).toNat, s + 1) else .error (.truncated s) := by
  by_cases hs : s < d.size
  · rw [dif_pos hs]
    show (if hs : s < d.size then _ else _ : Jvm.ClassFile.Decoder Nat) d s = _
    rw [dif_pos hs]
    rfl
  · rw [dif_neg hs]
    show (if hs : s < d.size then _ else _ : Jvm.ClassFile.Decoder Nat) d s = _
    rw [dif_neg hs]
    rfl
def U_ (c : ByteArray) (s x : Nat) : Prop := ∃ h : s < c.size, (c[s]'h).toNat = x
theorem rd_u1 {c : ByteArray} {s x : Nat} (h : U_ c s x) : xr Jvm.ClassFile.Reader.u1 c s = .ok (x, s + 1) := by
  obtain ⟨h, e⟩ := h
  rw [xr_u1, dif_pos h, e]
theorem rd_u2 {c : ByteArray} {s a b : Nat} (h0 : U_ c s a) (h1 : U_ c (s + 1) b) : xr Jvm.ClassFile.Reader.u2 c s = .ok (a * 256 + b, s + 2) := by
  show xr (Jvm.ClassFile.Reader.u1 >>= fun hi => Jvm.ClassFile.Reader.u1 >>= fun lo => pure (hi * 256 + lo)) c s = _
  rw [xr_bind, rd_u1 h0]
  show xr (Jvm.ClassFile.Reader.u1 >>= fun lo => pure (a * 256 + lo)) c (s + 1) = _
  rw [xr_bind, rd_u1 h1]
  rfl
theorem rd_s1 {c : ByteArray} {s a : Nat} (h0 : U_ c s a) : xr Jvm.ClassFile.Reader.s1 c s = .ok (Jvm.ClassFile.Reader.signed 8 a, s + 1) := by
  show xr (Jvm.ClassFile.Reader.u1 >>= fun y => pure (Jvm.ClassFile.Reader.signed 8 y)) c s = _
  rw [xr_bind, rd_u1 h0]
  rfl
theorem rd_s2 {c : ByteArray} {s a b : Nat} (h0 : U_ c s a) (h1 : U_ c (s + 1) b) : xr Jvm.ClassFile.Reader.s2 c s = .ok (Jvm.ClassFile.Reader.signed 16 (a * 256 + b), s + 2) := by
  show xr (Jvm.ClassFile.Reader.u2 >>= fun y => pure (Jvm.ClassFile.Reader.signed 16 y)) c s = _
  rw [xr_bind, rd_u2 h0 h1]
  rfl
theorem sg16p {v : Nat} (h : Nat.blt v 32768 = true) : Jvm.ClassFile.Reader.signed 16 v = Int.ofNat v := by
  unfold Jvm.ClassFile.Reader.signed
  rw [if_pos (show v < 32768 from Nat.le_of_ble_eq_true h)]
  rfl
theorem sg16n {v k : Nat} (h : v + (k + 1) = 65536) (h2 : Nat.blt k 32768 = true) : Jvm.ClassFile.Reader.signed 16 v = Int.negSucc k := by
  have h3 : k < 32768 := Nat.le_of_ble_eq_true h2
  unfold Jvm.ClassFile.Reader.signed
  rw [if_neg (show ¬ v < 32768 by omega)]
  show (v : Int) - ((65536 : Nat) : Int) = Int.negSucc k
  rw [Int.negSucc_eq]
  omega
theorem sg8p {v : Nat} (h : Nat.blt v 128 = true) : Jvm.ClassFile.Reader.signed 8 v = Int.ofNat v := by
  unfold Jvm.ClassFile.Reader.signed
  rw [if_pos (show v < 128 from Nat.le_of_ble_eq_true h)]
  rfl
theorem sg8n {v k : Nat} (h : v + (k + 1) = 256) (h2 : Nat.blt k 128 = true) : Jvm.ClassFile.Reader.signed 8 v = Int.negSucc k := by
  have h3 : k < 128 := Nat.le_of_ble_eq_true h2
  unfold Jvm.ClassFile.Reader.signed
  rw [if_neg (show ¬ v < 128 by omega)]
  show (v : Int) - ((256 : Nat) : Int) = Int.negSucc k
  rw [Int.negSucc_eq]
  omega
section OPS
variable {c : ByteArray} {s x : Nat} {f : Nat → Nat → Jvm.ClassFile.Decoder Jvm.ClassFile.Instr}
theorem op_go (hk : ∀ pc, Jvm.ClassFile.Decoder.instr pc = Jvm.ClassFile.Reader.u1 >>= f pc) (h : U_ c s x) : decode c s = Except.bind (xr (f s x) c (s + 1)) (fun w => .ok (w.1, w.2 - s)) := by
  have k : decode c s = Except.bind (xr (Jvm.ClassFile.Decoder.instr s) c s) (fun w => .ok (w.1, w.2 - s)) := rfl
  rw [k, hk, xr_bind, rd_u1 h]
  rfl
theorem op_0 {i : Jvm.ClassFile.Instr} (hk : ∀ pc, Jvm.ClassFile.Decoder.instr pc = Jvm.ClassFile.Reader.u1 >>= f pc) (hf : ∀ pc, f pc x = Pure.pure i) (h : U_ c s x) : decode c s = .ok (i, 1) := by
  rw [op_go hk h, hf]
  show Except.ok (i, s + 1 - s) = _
  rw [show s + 1 - s = 1 by omega]
theorem op_u1 {g : Nat → Jvm.ClassFile.Instr} {a : Nat} (hk : ∀ pc, Jvm.ClassFile.Decoder.instr pc = Jvm.ClassFile.Reader.u1 >>= f pc) (hf : ∀ pc, f pc x = Jvm.ClassFile.Reader.u1 >>= fun y => pure (g y)) (h : U_ c s x) (h1 : U_ c (s + 1) a) : decode c s = .ok (g a, 2) := by
  rw [op_go hk h, hf, xr_bind, rd_u1 h1]
  show Except.ok (g a, s + 1 + 1 - s) = _
  rw [show s + 1 + 1 - s = 2 by omega]
theorem op_m1 {g : Nat → Nat → Jvm.ClassFile.Decoder Jvm.ClassFile.Instr} {a : Nat} {i : Jvm.ClassFile.Instr} (hk : ∀ pc, Jvm.ClassFile.Decoder.instr pc = Jvm.ClassFile.Reader.u1 >>= f pc) (hf : ∀ pc, f pc x = Jvm.ClassFile.Reader.u1 >>= g pc) (hg : ∀ pc, g pc a = Pure.pure i) (h : U_ c s x) (h1 : U_ c (s + 1) a) : decode c s = .ok (i, 2) := by
  rw [op_go hk h, hf, xr_bind, rd_u1 h1]
  show Except.bind (xr (g s a) c (s + 1 + 1)) _ = _
  rw [hg]
  show Except.ok (i, s + 1 + 1 - s) = _
  rw [show s + 1 + 1 - s = 2 by omega]
theorem op_s1 {g : Int → Jvm.ClassFile.Instr} {a : Nat} {z : Int} (hk : ∀ pc, Jvm.ClassFile.Decoder.instr pc = Jvm.ClassFile.Reader.u1 >>= f pc) (hf : ∀ pc, f pc x = Jvm.ClassFile.Reader.s1 >>= fun y => pure (g y)) (h : U_ c s x) (h1 : U_ c (s + 1) a) (hz : Jvm.ClassFile.Reader.signed 8 a = z) : decode c s = .ok (g z, 2) := by
  rw [op_go hk h, hf, xr_bind, rd_s1 h1, hz]
  show Except.ok (g z, s + 1 + 1 - s) = _
  rw [show s + 1 + 1 - s = 2 by omega]
theorem op_u2 {g : Nat → Jvm.ClassFile.Instr} {a b : Nat} (hk : ∀ pc, Jvm.ClassFile.Decoder.instr pc = Jvm.ClassFile.Reader.u1 >>= f pc) (hf : ∀ pc, f pc x = Jvm.ClassFile.Reader.u2 >>= fun y => pure (g y)) (h : U_ c s x) (h1 : U_ c (s + 1) a) (h2 : U_ c (s + 1 + 1) b) : decode c s = .ok (g (a * 256 + b), 3) := by
  rw [op_go hk h, hf, xr_bind, rd_u2 h1 h2]
  show Except.ok (g (a * 256 + b), s + 1 + 2 - s) = _
  rw [show s + 1 + 2 - s = 3 by omega]
theorem op_s2 {g : Int → Jvm.ClassFile.Instr} {a b : Nat} {z : Int} (hk : ∀ pc, Jvm.ClassFile.Decoder.instr pc = Jvm.ClassFile.Reader.u1 >>= f pc) (hf : ∀ pc, f pc x = Jvm.ClassFile.Reader.s2 >>= fun y => pure (g y)) (h : U_ c s x) (h1 : U_ c (s + 1) a) (h2 : U_ c (s + 1 + 1) b) (hz : Jvm.ClassFile.Reader.signed 16 (a * 256 + b) = z) : decode c s = .ok (g z, 3) := by
  rw [op_go hk h, hf, xr_bind, rd_s2 h1 h2, hz]
  show Except.ok (g z, s + 1 + 2 - s) = _
  rw [show s + 1 + 2 - s = 3 by omega]
theorem op_inc {g : Nat → Int → Jvm.ClassFile.Instr} {a b : Nat} {z : Int} (hk : ∀ pc, Jvm.ClassFile.Decoder.instr pc = Jvm.ClassFile.Reader.u1 >>= f pc) (hf : ∀ pc, f pc x = Jvm.ClassFile.Reader.u1 >>= fun y => Jvm.ClassFile.Reader.s1 >>= fun w => pure (g y w)) (h : U_ c s x) (h1 : U_ c (s + 1) a) (h2 : U_ c (s + 1 + 1) b) (hz : Jvm.ClassFile.Reader.signed 8 b = z) : decode c s = .ok (g a z, 3) := by
  rw [op_go hk h, hf, xr_bind, rd_u1 h1]
  show Except.bind (xr (Jvm.ClassFile.Reader.s1 >>= fun w => pure (g a w)) c (s + 1 + 1)) _ = _
  rw [xr_bind, rd_s1 h2, hz]
  show Except.ok (g a z, s + 1 + 1 + 1 - s) = _
  rw [show s + 1 + 1 + 1 - s = 3 by omega]
end OPS
def AL (c : ByteArray) (n : Nat) (l : List Nat) : Prop := ∀ i x, l[i]? = some x → U_ c (n + i) x
theorem AL.of {c : ByteArray} {n m : Nat} {l : List Nat} (h : ((c.data.toList.drop n).take m).map UInt8.toNat = l) : AL c n l := by
  intro i x e
  rw [← h, List.getElem?_map] at e
  obtain ⟨y, e, ey⟩ := Option.map_eq_some_iff.mp e
  have hm : i < m := by
    obtain ⟨hl, -⟩ := List.getElem?_eq_some_iff.mp e
    have := List.length_take_le m (c.data.toList.drop n)
    omega
  rw [List.getElem?_take_of_lt hm, List.getElem?_drop, Array.getElem?_toList] at e
  obtain ⟨h', e'⟩ := Array.getElem?_eq_some_iff.mp e
  exact ⟨h', by rw [← ey, ← e']; rfl⟩
section OPL
variable {c : ByteArray} {n : Nat} {l : List Nat}
theorem AL.g0 (hA : AL c n l) {i x : Nat} {t : List Nat} (h : l.drop i = x :: t) : U_ c (n + i) x := hA i x (by have e := List.getElem?_drop (xs := l) (i := i) (j := 0); rw [h] at e; exact e.symm)
theorem AL.g1 (hA : AL c n l) {i x a : Nat} {t : List Nat} (h : l.drop i = x :: a :: t) : U_ c (n + i + 1) a := hA (i + 1) a (by have e := List.getElem?_drop (xs := l) (i := i) (j := 1); rw [h] at e; exact e.symm)
theorem AL.g2 (hA : AL c n l) {i x a b : Nat} {t : List Nat} (h : l.drop i = x :: a :: b :: t) : U_ c (n + i + 1 + 1) b := hA (i + 2) b (by have e := List.getElem?_drop (xs := l) (i := i) (j := 2); rw [h] at e; exact e.symm)
theorem o0 (hA : AL c n l) (i : Nat) {t : List Nat} (h : l.drop i = 0 :: t) : decode c (n + i) = .ok (.nop, 1) := op_0 (fun _ => rfl) (fun _ => rfl) (hA.g0 h)
theorem o2 (hA : AL c n l) (i : Nat) {t : List Nat} (h : l.drop i = 2 :: t) : decode c (n + i) = .ok ((.iconst (-1)), 1) := op_0 (fun _ => rfl) (fun _ => rfl) (hA.g0 h)
theorem o3 (hA : AL c n l) (i : Nat) {t : List Nat} (h : l.drop i = 3 :: t) : decode c (n + i) = .ok ((.iconst 0), 1) := op_0 (fun _ => rfl) (fun _ => rfl) (hA.g0 h)
theorem o4 (hA : AL c n l) (i : Nat) {t : List Nat} (h : l.drop i = 4 :: t) : decode c (n + i) = .ok ((.iconst 1), 1) := op_0 (fun _ => rfl) (fun _ => rfl) (hA.g0 h)
theorem o5 (hA : AL c n l) (i : Nat) {t : List Nat} (h : l.drop i = 5 :: t) : decode c (n + i) = .ok ((.iconst 2), 1) := op_0 (fun _ => rfl) (fun _ => rfl) (hA.g0 h)
theorem o6 (hA : AL c n l) (i : Nat) {t : List Nat} (h : l.drop i = 6 :: t) : decode c (n + i) = .ok ((.iconst 3), 1) := op_0 (fun _ => rfl) (fun _ => rfl) (hA.g0 h)
theorem o7 (hA : AL c n l) (i : Nat) {t : List Nat} (h : l.drop i = 7 :: t) : decode c (n + i) = .ok ((.iconst 4), 1) := op_0 (fun _ => rfl) (fun _ => rfl) (hA.g0 h)
theorem o8 (hA : AL c n l) (i : Nat) {t : List Nat} (h : l.drop i = 8 :: t) : decode c (n + i) = .ok ((.iconst 5), 1) := op_0 (fun _ => rfl) (fun _ => rfl) (hA.g0 h)
theorem o9 (hA : AL c n l) (i : Nat) {t : List Nat} (h : l.drop i = 9 :: t) : decode c (n + i) = .ok ((.lconst 0), 1) := op_0 (fun _ => rfl) (fun _ => rfl) (hA.g0 h)
theorem o16p (hA : AL c n l) (i a : Nat) {t : List Nat} (h : l.drop i = 16 :: a :: t) (hs : Nat.blt a 128 = true) : decode c (n + i) = .ok (.bipush (Int.ofNat a), 2) := op_s1 (g := fun y => .bipush y) (fun _ => rfl) (fun _ => rfl) (hA.g0 h) (hA.g1 h) (sg8p hs)
theorem o16n (hA : AL c n l) (i a k : Nat) {t : List Nat} (h : l.drop i = 16 :: a :: t) (hs : a + (k + 1) = 256) (hk : Nat.blt k 128 = true) : decode c (n + i) = .ok (.bipush (Int.negSucc k), 2) := op_s1 (g := fun y => .bipush y) (fun _ => rfl) (fun _ => rfl) (hA.g0 h) (hA.g1 h) (sg8n hs hk)
theorem o17p (hA : AL c n l) (i a b : Nat) {t : List Nat} (h : l.drop i = 17 :: a :: b :: t) (hs : Nat.blt (a * 256 + b) 32768 = true) : decode c (n + i) = .ok (.sipush (Int.ofNat (a * 256 + b)), 3) := op_s2 (g := fun y => .sipush y) (fun _ => rfl) (fun _ => rfl) (hA.g0 h) (hA.g1 h) (hA.g2 h) (sg16p hs)
theorem o17n (hA : AL c n l) (i a b k : Nat) {t : List Nat} (h : l.drop i = 17 :: a :: b :: t) (hs : a * 256 + b + (k + 1) = 65536) (hk : Nat.blt k 32768 = true) : decode c (n + i) = .ok (.sipush (Int.negSucc k), 3) := op_s2 (g := fun y => .sipush y) (fun _ => rfl) (fun _ => rfl) (hA.g0 h) (hA.g1 h) (hA.g2 h) (sg16n hs hk)
theorem o18 (hA : AL c n l) (i a : Nat) {t : List Nat} (h : l.drop i = 18 :: a :: t) : decode c (n + i) = .ok (.ldc a, 2) := op_u1 (g := fun y => .ldc y) (fun _ => rfl) (fun _ => rfl) (hA.g0 h) (hA.g1 h)
theorem o19 (hA : AL c n l) (i a b : Nat) {t : List Nat} (h : l.drop i = 19 :: a :: b :: t) : decode c (n + i) = .ok (.ldc_w (a * 256 + b), 3) := op_u2 (g := fun y => .ldc_w y) (fun _ => rfl) (fun _ => rfl) (hA.g0 h) (hA.g1 h) (hA.g2 h)
theorem o20 (hA : AL c n l) (i a b : Nat) {t : List Nat} (h : l.drop i = 20 :: a :: b :: t) : decode c (n + i) = .ok (.ldc2_w (a * 256 + b), 3) := op_u2 (g := fun y => .ldc2_w y) (fun _ => rfl) (fun _ => rfl) (hA.g0 h) (hA.g1 h) (hA.g2 h)
theorem o21 (hA : AL c n l) (i a : Nat) {t : List Nat} (h : l.drop i = 21 :: a :: t) : decode c (n + i) = .ok (.iload a, 2) := op_u1 (g := fun y => .iload y) (fun _ => rfl) (fun _ => rfl) (hA.g0 h) (hA.g1 h)
theorem o22 (hA : AL c n l) (i a : Nat) {t : List Nat} (h : l.drop i = 22 :: a :: t) : decode c (n + i) = .ok (.lload a, 2) := op_u1 (g := fun y => .lload y) (fun _ => rfl) (fun _ => rfl) (hA.g0 h) (hA.g1 h)
theorem o26 (hA : AL c n l) (i : Nat) {t : List Nat} (h : l.drop i = 26 :: t) : decode c (n + i) = .ok ((.iload_n 0), 1) := op_0 (fun _ => rfl) (fun _ => rfl) (hA.g0 h)
theorem o27 (hA : AL c n l) (i : Nat) {t : List Nat} (h : l.drop i = 27 :: t) : decode c (n + i) = .ok ((.iload_n 1), 1) := op_0 (fun _ => rfl) (fun _ => rfl) (hA.g0 h)
theorem o28 (hA : AL c n l) (i : Nat) {t : List Nat} (h : l.drop i = 28 :: t) : decode c (n + i) = .ok ((.iload_n 2), 1) := op_0 (fun _ => rfl) (fun _ => rfl) (hA.g0 h)
theorem o29 (hA : AL c n l) (i : Nat) {t : List Nat} (h : l.drop i = 29 :: t) : decode c (n + i) = .ok ((.iload_n 3), 1) := op_0 (fun _ => rfl) (fun _ => rfl) (hA.g0 h)
theorem o30 (hA : AL c n l) (i : Nat) {t : List Nat} (h : l.drop i = 30 :: t) : decode c (n + i) = .ok ((.lload_n 0), 1) := op_0 (fun _ => rfl) (fun _ => rfl) (hA.g0 h)
theorem o31 (hA : AL c n l) (i : Nat) {t : List Nat} (h : l.drop i = 31 :: t) : decode c (n + i) = .ok ((.lload_n 1), 1) := op_0 (fun _ => rfl) (fun _ => rfl) (hA.g0 h)
theorem o33 (hA : AL c n l) (i : Nat) {t : List Nat} (h : l.drop i = 33 :: t) : decode c (n + i) = .ok ((.lload_n 3), 1) := op_0 (fun _ => rfl) (fun _ => rfl) (hA.g0 h)
theorem o40 (hA : AL c n l) (i : Nat) {t : List Nat} (h : l.drop i = 40 :: t) : decode c (n + i) = .ok ((.dload_n 2), 1) := op_0 (fun _ => rfl) (fun _ => rfl) (hA.g0 h)
theorem o42 (hA : AL c n l) (i : Nat) {t : List Nat} (h : l.drop i = 42 :: t) : decode c (n + i) = .ok ((.aload_n 0), 1) := op_0 (fun _ => rfl) (fun _ => rfl) (hA.g0 h)
theorem o43 (hA : AL c n l) (i : Nat) {t : List Nat} (h : l.drop i = 43 :: t) : decode c (n + i) = .ok ((.aload_n 1), 1) := op_0 (fun _ => rfl) (fun _ => rfl) (hA.g0 h)
theorem o44 (hA : AL c n l) (i : Nat) {t : List Nat} (h : l.drop i = 44 :: t) : decode c (n + i) = .ok ((.aload_n 2), 1) := op_0 (fun _ => rfl) (fun _ => rfl) (hA.g0 h)
theorem o45 (hA : AL c n l) (i : Nat) {t : List Nat} (h : l.drop i = 45 :: t) : decode c (n + i) = .ok ((.aload_n 3), 1) := op_0 (fun _ => rfl) (fun _ => rfl) (hA.g0 h)
theorem o46 (hA : AL c n l) (i : Nat) {t : List Nat} (h : l.drop i = 46 :: t) : decode c (n + i) = .ok (.iaload, 1) := op_0 (fun _ => rfl) (fun _ => rfl) (hA.g0 h)
theorem o47 (hA : AL c n l) (i : Nat) {t : List Nat} (h : l.drop i = 47 :: t) : decode c (n + i) = .ok (.laload, 1) := op_0 (fun _ => rfl) (fun _ => rfl) (hA.g0 h)
theorem o50 (hA : AL c n l) (i : Nat) {t : List Nat} (h : l.drop i = 50 :: t) : decode c (n + i) = .ok (.aaload, 1) := op_0 (fun _ => rfl) (fun _ => rfl) (hA.g0 h)
theorem o51 (hA : AL c n l) (i : Nat) {t : List Nat} (h : l.drop i = 51 :: t) : decode c (n + i) = .ok (.baload, 1) := op_0 (fun _ => rfl) (fun _ => rfl) (hA.g0 h)
theorem o54 (hA : AL c n l) (i a : Nat) {t : List Nat} (h : l.drop i = 54 :: a :: t) : decode c (n + i) = .ok (.istore a, 2) := op_u1 (g := fun y => .istore y) (fun _ => rfl) (fun _ => rfl) (hA.g0 h) (hA.g1 h)
theorem o55 (hA : AL c n l) (i a : Nat) {t : List Nat} (h : l.drop i = 55 :: a :: t) : decode c (n + i) = .ok (.lstore a, 2) := op_u1 (g := fun y => .lstore y) (fun _ => rfl) (fun _ => rfl) (hA.g0 h) (hA.g1 h)
theorem o59 (hA : AL c n l) (i : Nat) {t : List Nat} (h : l.drop i = 59 :: t) : decode c (n + i) = .ok ((.istore_n 0), 1) := op_0 (fun _ => rfl) (fun _ => rfl) (hA.g0 h)
theorem o60 (hA : AL c n l) (i : Nat) {t : List Nat} (h : l.drop i = 60 :: t) : decode c (n + i) = .ok ((.istore_n 1), 1) := op_0 (fun _ => rfl) (fun _ => rfl) (hA.g0 h)
theorem o61 (hA : AL c n l) (i : Nat) {t : List Nat} (h : l.drop i = 61 :: t) : decode c (n + i) = .ok ((.istore_n 2), 1) := op_0 (fun _ => rfl) (fun _ => rfl) (hA.g0 h)
theorem o62 (hA : AL c n l) (i : Nat) {t : List Nat} (h : l.drop i = 62 :: t) : decode c (n + i) = .ok ((.istore_n 3), 1) := op_0 (fun _ => rfl) (fun _ => rfl) (hA.g0 h)
theorem o64 (hA : AL c n l) (i : Nat) {t : List Nat} (h : l.drop i = 64 :: t) : decode c (n + i) = .ok ((.lstore_n 1), 1) := op_0 (fun _ => rfl) (fun _ => rfl) (hA.g0 h)
theorem o66 (hA : AL c n l) (i : Nat) {t : List Nat} (h : l.drop i = 66 :: t) : decode c (n + i) = .ok ((.lstore_n 3), 1) := op_0 (fun _ => rfl) (fun _ => rfl) (hA.g0 h)
theorem o76 (hA : AL c n l) (i : Nat) {t : List Nat} (h : l.drop i = 76 :: t) : decode c (n + i) = .ok ((.astore_n 1), 1) := op_0 (fun _ => rfl) (fun _ => rfl) (hA.g0 h)
theorem o77 (hA : AL c n l) (i : Nat) {t : List Nat} (h : l.drop i = 77 :: t) : decode c (n + i) = .ok ((.astore_n 2), 1) := op_0 (fun _ => rfl) (fun _ => rfl) (hA.g0 h)
theorem o78 (hA : AL c n l) (i : Nat) {t : List Nat} (h : l.drop i = 78 :: t) : decode c (n + i) = .ok ((.astore_n 3), 1) := op_0 (fun _ => rfl) (fun _ => rfl) (hA.g0 h)
theorem o79 (hA : AL c n l) (i : Nat) {t : List Nat} (h : l.drop i = 79 :: t) : decode c (n + i) = .ok (.iastore, 1) := op_0 (fun _ => rfl) (fun _ => rfl) (hA.g0 h)
theorem o80 (hA : AL c n l) (i : Nat) {t : List Nat} (h : l.drop i = 80 :: t) : decode c (n + i) = .ok (.lastore, 1) := op_0 (fun _ => rfl) (fun _ => rfl) (hA.g0 h)
theorem o83 (hA : AL c n l) (i : Nat) {t : List Nat} (h : l.drop i = 83 :: t) : decode c (n + i) = .ok (.aastore, 1) := op_0 (fun _ => rfl) (fun _ => rfl) (hA.g0 h)
theorem o84 (hA : AL c n l) (i : Nat) {t : List Nat} (h : l.drop i = 84 :: t) : decode c (n + i) = .ok (.bastore, 1) := op_0 (fun _ => rfl) (fun _ => rfl) (hA.g0 h)
theorem o87 (hA : AL c n l) (i : Nat) {t : List Nat} (h : l.drop i = 87 :: t) : decode c (n + i) = .ok (.pop, 1) := op_0 (fun _ => rfl) (fun _ => rfl) (hA.g0 h)
theorem o89 (hA : AL c n l) (i : Nat) {t : List Nat} (h : l.drop i = 89 :: t) : decode c (n + i) = .ok (.dup, 1) := op_0 (fun _ => rfl) (fun _ => rfl) (hA.g0 h)
theorem o92 (hA : AL c n l) (i : Nat) {t : List Nat} (h : l.drop i = 92 :: t) : decode c (n + i) = .ok (.dup2, 1) := op_0 (fun _ => rfl) (fun _ => rfl) (hA.g0 h)
theorem o96 (hA : AL c n l) (i : Nat) {t : List Nat} (h : l.drop i = 96 :: t) : decode c (n + i) = .ok (.iadd, 1) := op_0 (fun _ => rfl) (fun _ => rfl) (hA.g0 h)
theorem o97 (hA : AL c n l) (i : Nat) {t : List Nat} (h : l.drop i = 97 :: t) : decode c (n + i) = .ok (.ladd, 1) := op_0 (fun _ => rfl) (fun _ => rfl) (hA.g0 h)
theorem o100 (hA : AL c n l) (i : Nat) {t : List Nat} (h : l.drop i = 100 :: t) : decode c (n + i) = .ok (.isub, 1) := op_0 (fun _ => rfl) (fun _ => rfl) (hA.g0 h)
theorem o104 (hA : AL c n l) (i : Nat) {t : List Nat} (h : l.drop i = 104 :: t) : decode c (n + i) = .ok (.imul, 1) := op_0 (fun _ => rfl) (fun _ => rfl) (hA.g0 h)
theorem o105 (hA : AL c n l) (i : Nat) {t : List Nat} (h : l.drop i = 105 :: t) : decode c (n + i) = .ok (.lmul, 1) := op_0 (fun _ => rfl) (fun _ => rfl) (hA.g0 h)
theorem o108 (hA : AL c n l) (i : Nat) {t : List Nat} (h : l.drop i = 108 :: t) : decode c (n + i) = .ok (.idiv, 1) := op_0 (fun _ => rfl) (fun _ => rfl) (hA.g0 h)
theorem o112 (hA : AL c n l) (i : Nat) {t : List Nat} (h : l.drop i = 112 :: t) : decode c (n + i) = .ok (.irem, 1) := op_0 (fun _ => rfl) (fun _ => rfl) (hA.g0 h)
theorem o116 (hA : AL c n l) (i : Nat) {t : List Nat} (h : l.drop i = 116 :: t) : decode c (n + i) = .ok (.ineg, 1) := op_0 (fun _ => rfl) (fun _ => rfl) (hA.g0 h)
theorem o120 (hA : AL c n l) (i : Nat) {t : List Nat} (h : l.drop i = 120 :: t) : decode c (n + i) = .ok (.ishl, 1) := op_0 (fun _ => rfl) (fun _ => rfl) (hA.g0 h)
theorem o122 (hA : AL c n l) (i : Nat) {t : List Nat} (h : l.drop i = 122 :: t) : decode c (n + i) = .ok (.ishr, 1) := op_0 (fun _ => rfl) (fun _ => rfl) (hA.g0 h)
theorem o124 (hA : AL c n l) (i : Nat) {t : List Nat} (h : l.drop i = 124 :: t) : decode c (n + i) = .ok (.iushr, 1) := op_0 (fun _ => rfl) (fun _ => rfl) (hA.g0 h)
theorem o126 (hA : AL c n l) (i : Nat) {t : List Nat} (h : l.drop i = 126 :: t) : decode c (n + i) = .ok (.iand, 1) := op_0 (fun _ => rfl) (fun _ => rfl) (hA.g0 h)
theorem o128 (hA : AL c n l) (i : Nat) {t : List Nat} (h : l.drop i = 128 :: t) : decode c (n + i) = .ok (.ior, 1) := op_0 (fun _ => rfl) (fun _ => rfl) (hA.g0 h)
theorem o130 (hA : AL c n l) (i : Nat) {t : List Nat} (h : l.drop i = 130 :: t) : decode c (n + i) = .ok (.ixor, 1) := op_0 (fun _ => rfl) (fun _ => rfl) (hA.g0 h)
theorem o132p (hA : AL c n l) (i a b : Nat) {t : List Nat} (h : l.drop i = 132 :: a :: b :: t) (hs : Nat.blt b 128 = true) : decode c (n + i) = .ok (.iinc a (Int.ofNat b), 3) := op_inc (g := fun y w => .iinc y w) (fun _ => rfl) (fun _ => rfl) (hA.g0 h) (hA.g1 h) (hA.g2 h) (sg8p hs)
theorem o132n (hA : AL c n l) (i a b k : Nat) {t : List Nat} (h : l.drop i = 132 :: a :: b :: t) (hs : b + (k + 1) = 256) (hk : Nat.blt k 128 = true) : decode c (n + i) = .ok (.iinc a (Int.negSucc k), 3) := op_inc (g := fun y w => .iinc y w) (fun _ => rfl) (fun _ => rfl) (hA.g0 h) (hA.g1 h) (hA.g2 h) (sg8n hs hk)
theorem o133 (hA : AL c n l) (i : Nat) {t : List Nat} (h : l.drop i = 133 :: t) : decode c (n + i) = .ok (.i2l, 1) := op_0 (fun _ => rfl) (fun _ => rfl) (hA.g0 h)
theorem o136 (hA : AL c n l) (i : Nat) {t : List Nat} (h : l.drop i = 136 :: t) : decode c (n + i) = .ok (.l2i, 1) := op_0 (fun _ => rfl) (fun _ => rfl) (hA.g0 h)
theorem o138 (hA : AL c n l) (i : Nat) {t : List Nat} (h : l.drop i = 138 :: t) : decode c (n + i) = .ok (.l2d, 1) := op_0 (fun _ => rfl) (fun _ => rfl) (hA.g0 h)
theorem o145 (hA : AL c n l) (i : Nat) {t : List Nat} (h : l.drop i = 145 :: t) : decode c (n + i) = .ok (.i2b, 1) := op_0 (fun _ => rfl) (fun _ => rfl) (hA.g0 h)
theorem o146 (hA : AL c n l) (i : Nat) {t : List Nat} (h : l.drop i = 146 :: t) : decode c (n + i) = .ok (.i2c, 1) := op_0 (fun _ => rfl) (fun _ => rfl) (hA.g0 h)
theorem o148 (hA : AL c n l) (i : Nat) {t : List Nat} (h : l.drop i = 148 :: t) : decode c (n + i) = .ok (.lcmp, 1) := op_0 (fun _ => rfl) (fun _ => rfl) (hA.g0 h)
theorem o153p (hA : AL c n l) (i a b : Nat) {t : List Nat} (h : l.drop i = 153 :: a :: b :: t) (hs : Nat.blt (a * 256 + b) 32768 = true) : decode c (n + i) = .ok (.ifCond .eq (Int.ofNat (a * 256 + b)), 3) := op_s2 (g := fun y => .ifCond .eq y) (fun _ => rfl) (fun _ => rfl) (hA.g0 h) (hA.g1 h) (hA.g2 h) (sg16p hs)
theorem o153n (hA : AL c n l) (i a b k : Nat) {t : List Nat} (h : l.drop i = 153 :: a :: b :: t) (hs : a * 256 + b + (k + 1) = 65536) (hk : Nat.blt k 32768 = true) : decode c (n + i) = .ok (.ifCond .eq (Int.negSucc k), 3) := op_s2 (g := fun y => .ifCond .eq y) (fun _ => rfl) (fun _ => rfl) (hA.g0 h) (hA.g1 h) (hA.g2 h) (sg16n hs hk)
theorem o154p (hA : AL c n l) (i a b : Nat) {t : List Nat} (h : l.drop i = 154 :: a :: b :: t) (hs : Nat.blt (a * 256 + b) 32768 = true) : decode c (n + i) = .ok (.ifCond .ne (Int.ofNat (a * 256 + b)), 3) := op_s2 (g := fun y => .ifCond .ne y) (fun _ => rfl) (fun _ => rfl) (hA.g0 h) (hA.g1 h) (hA.g2 h) (sg16p hs)
theorem o154n (hA : AL c n l) (i a b k : Nat) {t : List Nat} (h : l.drop i = 154 :: a :: b :: t) (hs : a * 256 + b + (k + 1) = 65536) (hk : Nat.blt k 32768 = true) : decode c (n + i) = .ok (.ifCond .ne (Int.negSucc k), 3) := op_s2 (g := fun y => .ifCond .ne y) (fun _ => rfl) (fun _ => rfl) (hA.g0 h) (hA.g1 h) (hA.g2 h) (sg16n hs hk)
theorem o155p (hA : AL c n l) (i a b : Nat) {t : List Nat} (h : l.drop i = 155 :: a :: b :: t) (hs : Nat.blt (a * 256 + b) 32768 = true) : decode c (n + i) = .ok (.ifCond .lt (Int.ofNat (a * 256 + b)), 3) := op_s2 (g := fun y => .ifCond .lt y) (fun _ => rfl) (fun _ => rfl) (hA.g0 h) (hA.g1 h) (hA.g2 h) (sg16p hs)
theorem o155n (hA : AL c n l) (i a b k : Nat) {t : List Nat} (h : l.drop i = 155 :: a :: b :: t) (hs : a * 256 + b + (k + 1) = 65536) (hk : Nat.blt k 32768 = true) : decode c (n + i) = .ok (.ifCond .lt (Int.negSucc k), 3) := op_s2 (g := fun y => .ifCond .lt y) (fun _ => rfl) (fun _ => rfl) (hA.g0 h) (hA.g1 h) (hA.g2 h) (sg16n hs hk)
theorem o156p (hA : AL c n l) (i a b : Nat) {t : List Nat} (h : l.drop i = 156 :: a :: b :: t) (hs : Nat.blt (a * 256 + b) 32768 = true) : decode c (n + i) = .ok (.ifCond .ge (Int.ofNat (a * 256 + b)), 3) := op_s2 (g := fun y => .ifCond .ge y) (fun _ => rfl) (fun _ => rfl) (hA.g0 h) (hA.g1 h) (hA.g2 h) (sg16p hs)
theorem o156n (hA : AL c n l) (i a b k : Nat) {t : List Nat} (h : l.drop i = 156 :: a :: b :: t) (hs : a * 256 + b + (k + 1) = 65536) (hk : Nat.blt k 32768 = true) : decode c (n + i) = .ok (.ifCond .ge (Int.negSucc k), 3) := op_s2 (g := fun y => .ifCond .ge y) (fun _ => rfl) (fun _ => rfl) (hA.g0 h) (hA.g1 h) (hA.g2 h) (sg16n hs hk)
theorem o157p (hA : AL c n l) (i a b : Nat) {t : List Nat} (h : l.drop i = 157 :: a :: b :: t) (hs : Nat.blt (a * 256 + b) 32768 = true) : decode c (n + i) = .ok (.ifCond .gt (Int.ofNat (a * 256 + b)), 3) := op_s2 (g := fun y => .ifCond .gt y) (fun _ => rfl) (fun _ => rfl) (hA.g0 h) (hA.g1 h) (hA.g2 h) (sg16p hs)
theorem o157n (hA : AL c n l) (i a b k : Nat) {t : List Nat} (h : l.drop i = 157 :: a :: b :: t) (hs : a * 256 + b + (k + 1) = 65536) (hk : Nat.blt k 32768 = true) : decode c (n + i) = .ok (.ifCond .gt (Int.negSucc k), 3) := op_s2 (g := fun y => .ifCond .gt y) (fun _ => rfl) (fun _ => rfl) (hA.g0 h) (hA.g1 h) (hA.g2 h) (sg16n hs hk)
theorem o158p (hA : AL c n l) (i a b : Nat) {t : List Nat} (h : l.drop i = 158 :: a :: b :: t) (hs : Nat.blt (a * 256 + b) 32768 = true) : decode c (n + i) = .ok (.ifCond .le (Int.ofNat (a * 256 + b)), 3) := op_s2 (g := fun y => .ifCond .le y) (fun _ => rfl) (fun _ => rfl) (hA.g0 h) (hA.g1 h) (hA.g2 h) (sg16p hs)
theorem o158n (hA : AL c n l) (i a b k : Nat) {t : List Nat} (h : l.drop i = 158 :: a :: b :: t) (hs : a * 256 + b + (k + 1) = 65536) (hk : Nat.blt k 32768 = true) : decode c (n + i) = .ok (.ifCond .le (Int.negSucc k), 3) := op_s2 (g := fun y => .ifCond .le y) (fun _ => rfl) (fun _ => rfl) (hA.g0 h) (hA.g1 h) (hA.g2 h) (sg16n hs hk)
theorem o159p (hA : AL c n l) (i a b : Nat) {t : List Nat} (h : l.drop i = 159 :: a :: b :: t) (hs : Nat.blt (a * 256 + b) 32768 = true) : decode c (n + i) = .ok (.if_icmp .eq (Int.ofNat (a * 256 + b)), 3) := op_s2 (g := fun y => .if_icmp .eq y) (fun _ => rfl) (fun _ => rfl) (hA.g0 h) (hA.g1 h) (hA.g2 h) (sg16p hs)
theorem o159n (hA : AL c n l) (i a b k : Nat) {t : List Nat} (h : l.drop i = 159 :: a :: b :: t) (hs : a * 256 + b + (k + 1) = 65536) (hk : Nat.blt k 32768 = true) : decode c (n + i) = .ok (.if_icmp .eq (Int.negSucc k), 3) := op_s2 (g := fun y => .if_icmp .eq y) (fun _ => rfl) (fun _ => rfl) (hA.g0 h) (hA.g1 h) (hA.g2 h) (sg16n hs hk)
theorem o160p (hA : AL c n l) (i a b : Nat) {t : List Nat} (h : l.drop i = 160 :: a :: b :: t) (hs : Nat.blt (a * 256 + b) 32768 = true) : decode c (n + i) = .ok (.if_icmp .ne (Int.ofNat (a * 256 + b)), 3) := op_s2 (g := fun y => .if_icmp .ne y) (fun _ => rfl) (fun _ => rfl) (hA.g0 h) (hA.g1 h) (hA.g2 h) (sg16p hs)
theorem o160n (hA : AL c n l) (i a b k : Nat) {t : List Nat} (h : l.drop i = 160 :: a :: b :: t) (hs : a * 256 + b + (k + 1) = 65536) (hk : Nat.blt k 32768 = true) : decode c (n + i) = .ok (.if_icmp .ne (Int.negSucc k), 3) := op_s2 (g := fun y => .if_icmp .ne y) (fun _ => rfl) (fun _ => rfl) (hA.g0 h) (hA.g1 h) (hA.g2 h) (sg16n hs hk)
theorem o161p (hA : AL c n l) (i a b : Nat) {t : List Nat} (h : l.drop i = 161 :: a :: b :: t) (hs : Nat.blt (a * 256 + b) 32768 = true) : decode c (n + i) = .ok (.if_icmp .lt (Int.ofNat (a * 256 + b)), 3) := op_s2 (g := fun y => .if_icmp .lt y) (fun _ => rfl) (fun _ => rfl) (hA.g0 h) (hA.g1 h) (hA.g2 h) (sg16p hs)
theorem o161n (hA : AL c n l) (i a b k : Nat) {t : List Nat} (h : l.drop i = 161 :: a :: b :: t) (hs : a * 256 + b + (k + 1) = 65536) (hk : Nat.blt k 32768 = true) : decode c (n + i) = .ok (.if_icmp .lt (Int.negSucc k), 3) := op_s2 (g := fun y => .if_icmp .lt y) (fun _ => rfl) (fun _ => rfl) (hA.g0 h) (hA.g1 h) (hA.g2 h) (sg16n hs hk)
theorem o162p (hA : AL c n l) (i a b : Nat) {t : List Nat} (h : l.drop i = 162 :: a :: b :: t) (hs : Nat.blt (a * 256 + b) 32768 = true) : decode c (n + i) = .ok (.if_icmp .ge (Int.ofNat (a * 256 + b)), 3) := op_s2 (g := fun y => .if_icmp .ge y) (fun _ => rfl) (fun _ => rfl) (hA.g0 h) (hA.g1 h) (hA.g2 h) (sg16p hs)
theorem o162n (hA : AL c n l) (i a b k : Nat) {t : List Nat} (h : l.drop i = 162 :: a :: b :: t) (hs : a * 256 + b + (k + 1) = 65536) (hk : Nat.blt k 32768 = true) : decode c (n + i) = .ok (.if_icmp .ge (Int.negSucc k), 3) := op_s2 (g := fun y => .if_icmp .ge y) (fun _ => rfl) (fun _ => rfl) (hA.g0 h) (hA.g1 h) (hA.g2 h) (sg16n hs hk)
theorem o163p (hA : AL c n l) (i a b : Nat) {t : List Nat} (h : l.drop i = 163 :: a :: b :: t) (hs : Nat.blt (a * 256 + b) 32768 = true) : decode c (n + i) = .ok (.if_icmp .gt (Int.ofNat (a * 256 + b)), 3) := op_s2 (g := fun y => .if_icmp .gt y) (fun _ => rfl) (fun _ => rfl) (hA.g0 h) (hA.g1 h) (hA.g2 h) (sg16p hs)
theorem o163n (hA : AL c n l) (i a b k : Nat) {t : List Nat} (h : l.drop i = 163 :: a :: b :: t) (hs : a * 256 + b + (k + 1) = 65536) (hk : Nat.blt k 32768 = true) : decode c (n + i) = .ok (.if_icmp .gt (Int.negSucc k), 3) := op_s2 (g := fun y => .if_icmp .gt y) (fun _ => rfl) (fun _ => rfl) (hA.g0 h) (hA.g1 h) (hA.g2 h) (sg16n hs hk)
theorem o164p (hA : AL c n l) (i a b : Nat) {t : List Nat} (h : l.drop i = 164 :: a :: b :: t) (hs : Nat.blt (a * 256 + b) 32768 = true) : decode c (n + i) = .ok (.if_icmp .le (Int.ofNat (a * 256 + b)), 3) := op_s2 (g := fun y => .if_icmp .le y) (fun _ => rfl) (fun _ => rfl) (hA.g0 h) (hA.g1 h) (hA.g2 h) (sg16p hs)
theorem o164n (hA : AL c n l) (i a b k : Nat) {t : List Nat} (h : l.drop i = 164 :: a :: b :: t) (hs : a * 256 + b + (k + 1) = 65536) (hk : Nat.blt k 32768 = true) : decode c (n + i) = .ok (.if_icmp .le (Int.negSucc k), 3) := op_s2 (g := fun y => .if_icmp .le y) (fun _ => rfl) (fun _ => rfl) (hA.g0 h) (hA.g1 h) (hA.g2 h) (sg16n hs hk)
theorem o167p (hA : AL c n l) (i a b : Nat) {t : List Nat} (h : l.drop i = 167 :: a :: b :: t) (hs : Nat.blt (a * 256 + b) 32768 = true) : decode c (n + i) = .ok (.goto (Int.ofNat (a * 256 + b)), 3) := op_s2 (g := fun y => .goto y) (fun _ => rfl) (fun _ => rfl) (hA.g0 h) (hA.g1 h) (hA.g2 h) (sg16p hs)
theorem o167n (hA : AL c n l) (i a b k : Nat) {t : List Nat} (h : l.drop i = 167 :: a :: b :: t) (hs : a * 256 + b + (k + 1) = 65536) (hk : Nat.blt k 32768 = true) : decode c (n + i) = .ok (.goto (Int.negSucc k), 3) := op_s2 (g := fun y => .goto y) (fun _ => rfl) (fun _ => rfl) (hA.g0 h) (hA.g1 h) (hA.g2 h) (sg16n hs hk)
theorem o172 (hA : AL c n l) (i : Nat) {t : List Nat} (h : l.drop i = 172 :: t) : decode c (n + i) = .ok (.ireturn, 1) := op_0 (fun _ => rfl) (fun _ => rfl) (hA.g0 h)
theorem o173 (hA : AL c n l) (i : Nat) {t : List Nat} (h : l.drop i = 173 :: t) : decode c (n + i) = .ok (.lreturn, 1) := op_0 (fun _ => rfl) (fun _ => rfl) (hA.g0 h)
theorem o177 (hA : AL c n l) (i : Nat) {t : List Nat} (h : l.drop i = 177 :: t) : decode c (n + i) = .ok (.return_, 1) := op_0 (fun _ => rfl) (fun _ => rfl) (hA.g0 h)
theorem o178 (hA : AL c n l) (i a b : Nat) {t : List Nat} (h : l.drop i = 178 :: a :: b :: t) : decode c (n + i) = .ok (.getstatic (a * 256 + b), 3) := op_u2 (g := fun y => .getstatic y) (fun _ => rfl) (fun _ => rfl) (hA.g0 h) (hA.g1 h) (hA.g2 h)
theorem o180 (hA : AL c n l) (i a b : Nat) {t : List Nat} (h : l.drop i = 180 :: a :: b :: t) : decode c (n + i) = .ok (.getfield (a * 256 + b), 3) := op_u2 (g := fun y => .getfield y) (fun _ => rfl) (fun _ => rfl) (hA.g0 h) (hA.g1 h) (hA.g2 h)
theorem o181 (hA : AL c n l) (i a b : Nat) {t : List Nat} (h : l.drop i = 181 :: a :: b :: t) : decode c (n + i) = .ok (.putfield (a * 256 + b), 3) := op_u2 (g := fun y => .putfield y) (fun _ => rfl) (fun _ => rfl) (hA.g0 h) (hA.g1 h) (hA.g2 h)
theorem o182 (hA : AL c n l) (i a b : Nat) {t : List Nat} (h : l.drop i = 182 :: a :: b :: t) : decode c (n + i) = .ok (.invokevirtual (a * 256 + b), 3) := op_u2 (g := fun y => .invokevirtual y) (fun _ => rfl) (fun _ => rfl) (hA.g0 h) (hA.g1 h) (hA.g2 h)
theorem o183 (hA : AL c n l) (i a b : Nat) {t : List Nat} (h : l.drop i = 183 :: a :: b :: t) : decode c (n + i) = .ok (.invokespecial (a * 256 + b), 3) := op_u2 (g := fun y => .invokespecial y) (fun _ => rfl) (fun _ => rfl) (hA.g0 h) (hA.g1 h) (hA.g2 h)
theorem o184 (hA : AL c n l) (i a b : Nat) {t : List Nat} (h : l.drop i = 184 :: a :: b :: t) : decode c (n + i) = .ok (.invokestatic (a * 256 + b), 3) := op_u2 (g := fun y => .invokestatic y) (fun _ => rfl) (fun _ => rfl) (hA.g0 h) (hA.g1 h) (hA.g2 h)
theorem o187 (hA : AL c n l) (i a b : Nat) {t : List Nat} (h : l.drop i = 187 :: a :: b :: t) : decode c (n + i) = .ok (.new (a * 256 + b), 3) := op_u2 (g := fun y => .new y) (fun _ => rfl) (fun _ => rfl) (hA.g0 h) (hA.g1 h) (hA.g2 h)
theorem o189 (hA : AL c n l) (i a b : Nat) {t : List Nat} (h : l.drop i = 189 :: a :: b :: t) : decode c (n + i) = .ok (.anewarray (a * 256 + b), 3) := op_u2 (g := fun y => .anewarray y) (fun _ => rfl) (fun _ => rfl) (hA.g0 h) (hA.g1 h) (hA.g2 h)
theorem o190 (hA : AL c n l) (i : Nat) {t : List Nat} (h : l.drop i = 190 :: t) : decode c (n + i) = .ok (.arraylength, 1) := op_0 (fun _ => rfl) (fun _ => rfl) (hA.g0 h)
end OPL

/-! a text's reading, as the document tells it: tokens by number (kind, value, place, name) -/
abbrev FA : Type := Int × Int
abbrev OPC : Type := Nat × Int
abbrev COD : Type := List OPC
/-- ifs (left, right, then), and what stands behind the last else -/
abbrev LAWT : Type := List (COD × COD × COD) × COD
section SPEC
variable (kd vl pl : Nat → Int) (nm : Nat → Int64)
def advS (t : Nat) : Except FA Nat := if t = 400 then .error (2, pl t) else .ok (t + 1)
def tkS (k : Int) (t : Nat) : Except FA Nat := if kd t = k then advS pl t else .error (1, pl t)
/-- a later fault, if it is the first -/
def ltS (t : Nat) (k : Int) (q : FA) : FA := if q.1 = 0 then (k, pl t) else q
def numS (least most : Int) (t : Nat) (lt : FA) : Except FA (Nat × Int × FA) := tkS kd pl 2 t >>= fun t1 => .ok (t1, vl t, if vl t < least ∨ most < vl t then ltS pl t 5 lt else lt)
def hasN (nc : Nat) (ns : Nat → Int64) (v : Int64) : Bool := (List.range nc).any (fun i => ns i == v)
def upN (ns : Nat → Int64) (i : Nat) (v : Int64) : Nat → Int64 := fun j => if j = i then v else ns j
def nameS (t nc : Nat) (ns : Nat → Int64) (lt : FA) : Except FA (Nat × FA) := tkS kd pl 1 t >>= fun t1 => .ok (t1, if hasN nc ns (nm t) = true then ltS pl t 3 lt else lt)
/-! expressions: the waiting operators (6 an open one) and the code -/
def opk (w : Nat) : Nat := if w = 8 then 2 else if w = 9 then 3 else if w = 10 then 4 else 5
def outS (strong : Bool) : List Nat → COD → List Nat × COD
  | [], c => ([], c)
  | w :: S, c => if w = 6 ∨ (strong = true ∧ (w = 8 ∨ w = 9)) then (w :: S, c) else outS strong S (c ++ [(opk w, 0)])
def depS (S : List Nat) : Nat := S.count 6
def expF : Nat → Bool → Nat → List Nat → COD → Except FA (Nat × COD)
  | 0, _, _, _, _ => .error (9, 0)
  | f + 1, true, t, S, c =>
    if kd t = 6 then (if depS S = 6 then .error (2, pl t) else advS pl t >>= fun t1 => expF f true t1 (6 :: S) c)
    else if kd t = 2 then advS pl t >>= fun t1 => expF f false t1 S (c ++ [(0, vl t)])
    else if 31 ≤ kd t ∧ kd t ≤ 39 then advS pl t >>= fun t1 => expF f false t1 S (c ++ [(1, kd t - 31)])
    else .error (1, pl t)
  | f + 1, false, t, S, c =>
    if kd t = 7 ∧ 0 < depS S then advS pl t >>= fun t1 => expF f false t1 (outS false S c).1.tail (outS false S c).2
    else if kd t = 8 ∨ kd t = 9 then advS pl t >>= fun t1 => expF f true t1 ((kd t).toNat :: (outS false S c).1) (outS false S c).2
    else if kd t = 10 ∨ kd t = 15 then advS pl t >>= fun t1 => expF f true t1 ((kd t).toNat :: (outS true S c).1) (outS true S c).2
    else if 0 < depS S then .error (1, pl t)
    else .ok (t, (outS false S c).2)
def eX (b : Bool) (t : Nat) (S : List Nat) (c : COD) : Except FA (Nat × COD) := expF kd vl pl (401 - t) b t S c
def exS (t : Nat) : Except FA (Nat × COD) := eX kd vl pl true t [] []
/-! laws -/
def condS (t : Nat) : Except FA (Nat × COD × COD × COD) :=
  tkS kd pl 28 t >>= fun t => exS kd vl pl t >>= fun a => tkS kd pl 13 a.1 >>= fun t => exS kd vl pl t >>= fun b => tkS kd pl 29 b.1 >>= fun t => exS kd vl pl t >>= fun c => tkS kd pl 30 c.1 >>= fun t => .ok (t, a.2, b.2, c.2)
def lastS (brs : List (COD × COD × COD)) (t : Nat) : Except FA (Nat × LAWT) := exS kd vl pl t >>= fun a => tkS kd pl 4 a.1 >>= fun t => .ok (t, brs, a.2)
def ifsS : Nat → List (COD × COD × COD) → Nat → Except FA (Nat × LAWT)
  | 0, brs, t => if kd t = 28 then .error (2, pl t) else lastS kd vl pl brs t
  | m + 1, brs, t => if kd t = 28 then condS kd vl pl t >>= fun a => ifsS m (brs ++ [a.2]) a.1 else lastS kd vl pl brs t
def lawS (k : Int) (t : Nat) : Except FA (Nat × LAWT) := tkS kd pl k t >>= fun t => tkS kd pl 5 t >>= fun t => ifsS kd vl pl 4 [] t
/-! things and patterns -/
def thingS (nT t nc : Nat) (ns : Nat → Int64) (lt : FA) : Except FA (Nat × (Int × Int × Int) × FA) :=
  if nT < 7 then tkS kd pl 20 t >>= fun t1 => nameS kd pl nm t1 nc ns lt >>= fun a => numS kd vl pl 1 9 a.1 a.2 >>= fun b => numS kd vl pl 0 9 b.1 b.2.2 >>= fun c => numS kd vl pl 0 9 c.1 c.2.2 >>= fun d => tkS kd pl 4 d.1 >>= fun t2 => .ok (t2, (b.2.1, c.2.1, d.2.1), d.2.2)
  else .error (2, pl t)
def upI (f : Nat → Int) (i : Nat) (v : Int) : Nat → Int := fun j => if j = i then v else f j
/-- the heights behind the first: how many there are, which -/
def htsS : Nat → (Nat → Int) → Nat → FA → Nat → Except FA (Nat × Nat × (Nat → Int) × FA)
  | n, hs, t, lt, 0 => if kd t = 2 then .error (2, pl t) else tkS kd pl 4 t >>= fun t2 => .ok (t2, n, hs, lt)
  | n, hs, t, lt, m + 1 => if kd t = 2 then numS kd vl pl 0 9 t lt >>= fun a => htsS (n + 1) (upI hs n a.2.1) a.1 a.2.2 m else tkS kd pl 4 t >>= fun t2 => .ok (t2, n, hs, lt)
def patS (nP t nc : Nat) (ns : Nat → Int64) (lt : FA) : Except FA (Nat × Nat × (Nat → Int) × FA) :=
  if nP < 5 then tkS kd pl 21 t >>= fun t1 => nameS kd pl nm t1 nc ns lt >>= fun a => numS kd vl pl 0 9 a.1 a.2 >>= fun b => htsS kd vl pl 1 (upI (fun _ => 0) 0 b.2.1) b.1 b.2.2 7
  else .error (2, pl t)
def oneS (k : Int) (most : Int) (t : Nat) (lt : FA) : Except FA (Nat × Int × FA) := tkS kd pl k t >>= fun t1 => numS kd vl pl 0 most t1 lt >>= fun a => tkS kd pl 4 a.1 >>= fun t2 => .ok (t2, a.2)
/-- what a text has told so far: things, patterns, rests, seed, laws -/
abbrev DAT : Type := ((Nat × (Nat → Int) × (Nat → Int) × (Nat → Int)) × (Nat × (Nat → Nat) × (Nat → Nat → Int))) × (Int × Int) × (Nat → Option LAWT)
abbrev PST : Type := Nat × (Nat × (Nat → Int64)) × FA × DAT
def dat0 : DAT := (((0, fun _ => 0, fun _ => 0, fun _ => 0), (0, fun _ => 0, fun _ _ => 0)), (1, 0), fun _ => none)
def upT (d : DAT) (x : Int × Int × Int) : DAT := (((d.1.1.1 + 1, upI d.1.1.2.1 d.1.1.1 x.1, upI d.1.1.2.2.1 d.1.1.1 x.2.1, upI d.1.1.2.2.2 d.1.1.1 x.2.2), d.1.2), d.2)
def upP (d : DAT) (n : Nat) (hs : Nat → Int) : DAT := ((d.1.1, (d.1.2.1 + 1, fun j => if j = d.1.2.1 then n else d.1.2.2.1 j, fun j => if j = d.1.2.1 then hs else d.1.2.2.2 j)), d.2)
def upLw (d : DAT) (k : Nat) (L : LAWT) : DAT := (d.1, d.2.1, fun j => if j = k then some L else d.2.2 j)
def tellS (s : PST) : Except FA PST :=
  if kd s.1 = 20 then thingS kd vl pl nm s.2.2.2.1.1.1 s.1 s.2.1.1 s.2.1.2 s.2.2.1 >>= fun a => .ok (a.1, (s.2.1.1 + 1, upN s.2.1.2 s.2.1.1 (nm (s.1 + 1))), a.2.2, upT s.2.2.2 a.2.1)
  else if kd s.1 = 21 then patS kd vl pl nm s.2.2.2.1.2.1 s.1 s.2.1.1 s.2.1.2 s.2.2.1 >>= fun a => .ok (a.1, (s.2.1.1 + 1, upN s.2.1.2 s.2.1.1 (nm (s.1 + 1))), a.2.2.2, upP s.2.2.2 a.2.1 a.2.2.1)
  else if 22 ≤ kd s.1 ∧ kd s.1 ≤ 25 then lawS kd vl pl (kd s.1) s.1 >>= fun a => .ok (a.1, s.2.1, s.2.2.1, upLw s.2.2.2 (kd s.1 - 22).toNat a.2)
  else if kd s.1 = 26 then oneS kd vl pl 26 99 s.1 s.2.2.1 >>= fun a => .ok (a.1, s.2.1, a.2.2, (s.2.2.2.1, (a.2.1, s.2.2.2.2.1.2), s.2.2.2.2.2))
  else if kd s.1 = 27 then oneS kd vl pl 27 9999 s.1 s.2.2.1 >>= fun a => .ok (a.1, s.2.1, a.2.2, (s.2.2.2.1, (s.2.2.2.2.1.1, a.2.1), s.2.2.2.2.2))
  else .error (1, pl s.1)
def topS : Nat → PST → Except FA PST
  | 0, _ => .error (9, 0)
  | f + 1, s => if kd s.1 = 0 then .ok s else tellS kd vl pl nm s >>= fun s1 => topS f s1
def readS : Except FA PST := topS kd vl pl nm 402 (0, (0, fun _ => 0), (0, -1), dat0)
/-! expressions, step by step -/
variable {kd vl pl}
theorem eX_t {t : Nat} {S : List Nat} {c : COD} (ht : t ≤ 400) : eX kd vl pl true t S c = (if kd t = 6 then (if depS S = 6 then .error (2, pl t) else advS pl t >>= fun t1 => eX kd vl pl true t1 (6 :: S) c) else if kd t = 2 then advS pl t >>= fun t1 => eX kd vl pl false t1 S (c ++ [(0, vl t)]) else if 31 ≤ kd t ∧ kd t ≤ 39 then advS pl t >>= fun t1 => eX kd vl pl false t1 S (c ++ [(1, kd t - 31)]) else .error (1, pl t)) := by
  have e : 401 - t = (400 - t) + 1 := by omega
  have a : ∀ (b : Bool) (S : List Nat) (c : COD), (advS pl t >>= fun t1 => expF kd vl pl (400 - t) b t1 S c) = (advS pl t >>= fun t1 => eX kd vl pl b t1 S c) := by
    intro b S c
    unfold advS
    by_cases c0 : t = 400
    · rw [if_pos c0]; rfl
    · rw [if_neg c0]
      show expF kd vl pl (400 - t) b (t + 1) S c = expF kd vl pl (401 - (t + 1)) b (t + 1) S c
      rw [show 401 - (t + 1) = 400 - t by omega]
  rw [← a, ← a, ← a]
  unfold eX
  rw [e]
  rfl
theorem eX_f {t : Nat} {S : List Nat} {c : COD} (ht : t ≤ 400) : eX kd vl pl false t S c = (if kd t = 7 ∧ 0 < depS S then advS pl t >>= fun t1 => eX kd vl pl false t1 (outS false S c).1.tail (outS false S c).2 else if kd t = 8 ∨ kd t = 9 then advS pl t >>= fun t1 => eX kd vl pl true t1 ((kd t).toNat :: (outS false S c).1) (outS false S c).2 else if kd t = 10 ∨ kd t = 15 then advS pl t >>= fun t1 => eX kd vl pl true t1 ((kd t).toNat :: (outS true S c).1) (outS true S c).2 else if 0 < depS S then .error (1, pl t) else .ok (t, (outS false S c).2)) := by
  have e : 401 - t = (400 - t) + 1 := by omega
  have a : ∀ (b : Bool) (S : List Nat) (c : COD), (advS pl t >>= fun t1 => expF kd vl pl (400 - t) b t1 S c) = (advS pl t >>= fun t1 => eX kd vl pl b t1 S c) := by
    intro b S c
    unfold advS
    by_cases c0 : t = 400
    · rw [if_pos c0]; rfl
    · rw [if_neg c0]
      show expF kd vl pl (400 - t) b (t + 1) S c = expF kd vl pl (401 - (t + 1)) b (t + 1) S c
      rw [show 401 - (t + 1) = 400 - t by omega]
  rw [← a, ← a, ← a]
  unfold eX
  rw [e]
  rfl
theorem depS_op {w : Nat} {S : List Nat} (h : w ≠ 6) : depS (w :: S) = depS S := by unfold depS; rw [List.count_cons_of_ne (by omega)]
theorem depS_open {S : List Nat} : depS (6 :: S) = depS S + 1 := by unfold depS; rw [List.count_cons_self]
theorem outS_strong {w : Nat} {S : List Nat} {c : COD} {b : Bool} (h : w = 10 ∨ w = 15) : outS b (w :: S) c = outS b S (c ++ [(opk w, 0)]) := by
  show (if w = 6 ∨ (b = true ∧ (w = 8 ∨ w = 9)) then (w :: S, c) else outS b S (c ++ [(opk w, 0)])) = _
  rw [if_neg (by omega)]
theorem outS_weak {w : Nat} {S : List Nat} {c : COD} (h : w = 8 ∨ w = 9) : outS false (w :: S) c = outS false S (c ++ [(opk w, 0)]) := by
  show (if w = 6 ∨ (false = true ∧ (w = 8 ∨ w = 9)) then (w :: S, c) else outS false S (c ++ [(opk w, 0)])) = _
  rw [if_neg (by simp; omega)]
/-- a strong operator comes out whatever stands next -/
theorem eX_popS {t w : Nat} {S : List Nat} {c : COD} (ht : t ≤ 400) (h : w = 10 ∨ w = 15) : eX kd vl pl false t (w :: S) c = eX kd vl pl false t S (c ++ [(opk w, 0)]) := by
  rw [eX_f ht, eX_f ht, outS_strong h, outS_strong h, depS_op (by omega)]
theorem eX_popW {t w : Nat} {S : List Nat} {c : COD} (ht : t ≤ 400) (h : w = 8 ∨ w = 9) (hk : ¬ (kd t = 10 ∨ kd t = 15)) : eX kd vl pl false t (w :: S) c = eX kd vl pl false t S (c ++ [(opk w, 0)]) := by
  rw [eX_f ht, eX_f ht, outS_weak h, depS_op (by omega), if_neg (show ¬ (kd t = 10 ∨ kd t = 15) from hk), if_neg (show ¬ (kd t = 10 ∨ kd t = 15) from hk)]
end SPEC

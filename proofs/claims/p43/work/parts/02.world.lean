/-! every cell of the class (0 .. 235) and of the reference (236 .. 276) by a number: its kind (0 .. 11: an object of vwCl; 20 .. 26: arrays), its length -/
def kdL : List Nat := [10, 5, 8, 20, 20, 20, 23, 23, 3, 1, 20, 20, 4, 24, 2, 20, 21, 6, 20, 20, 20, 20, 7, 20, 20, 25, 21, 20, 20, 20, 9, 20, 20, 20, 26, 20, 20, 20, 20, 20, 20, 20, 20, 9, 20, 20, 20, 26, 20, 20, 20, 20, 20, 20, 20, 20, 0, 20, 20, 20, 0, 20, 20, 20, 0, 20, 20, 20, 0, 20, 20, 20, 0, 20, 20, 20, 0, 20, 20, 20, 0, 20, 20, 20, 0, 20, 20, 20, 0, 20, 20, 20, 0, 20, 20, 20, 0, 20, 20, 20, 0, 20, 20, 20, 0, 20, 20, 20, 0, 20, 20, 20, 0, 20, 20, 20, 0, 20, 20, 20, 0, 20, 20, 20, 0, 20, 20, 20, 0, 20, 20, 20, 0, 20, 20, 20, 0, 20, 20, 20, 0, 20, 20, 20, 0, 20, 20, 20, 0, 20, 20, 20, 0, 20, 20, 20, 0, 20, 20, 20, 0, 20, 20, 20, 0, 20, 20, 20, 0, 20, 20, 20, 0, 20, 20, 20, 0, 20, 20, 20, 0, 20, 20, 20, 0, 20, 20, 20, 0, 20, 20, 20, 0, 20, 20, 20, 0, 20, 20, 20, 0, 20, 20, 20, 0, 20, 20, 20, 0, 20, 20, 20, 0, 20, 20, 20, 0, 20, 20, 20, 0, 20, 20, 20, 0, 20, 20, 20, 0, 20, 20, 20, 0, 20, 20, 20, 11, 22, 22, 20, 20, 20, 23, 23, 23, 20, 20, 20, 20, 20, 20, 20, 20, 20, 20, 20, 21, 20, 20, 20, 20, 20, 20, 20, 20, 20, 20, 20, 20, 20, 20, 20, 20, 21, 20, 21, 20]
def alL : List Nat := [0, 0, 0, 2000, 401, 401, 401, 12, 0, 0, 9, 32, 0, 40, 0, 20, 20, 0, 1024, 1024, 1024, 12, 0, 5, 5, 3, 3, 61, 7, 16, 0, 7, 7, 7, 5, 8, 8, 8, 8, 8, 5, 408, 4, 0, 7, 7, 7, 5, 8, 8, 8, 8, 8, 5, 408, 4, 0, 7, 7, 7, 0, 7, 7, 7, 0, 7, 7, 7, 0, 7, 7, 7, 0, 7, 7, 7, 0, 7, 7, 7, 0, 7, 7, 7, 0, 7, 7, 7, 0, 7, 7, 7, 0, 7, 7, 7, 0, 7, 7, 7, 0, 7, 7, 7, 0, 7, 7, 7, 0, 7, 7, 7, 0, 7, 7, 7, 0, 7, 7, 7, 0, 7, 7, 7, 0, 7, 7, 7, 0, 7, 7, 7, 0, 7, 7, 7, 0, 7, 7, 7, 0, 7, 7, 7, 0, 7, 7, 7, 0, 7, 7, 7, 0, 7, 7, 7, 0, 7, 7, 7, 0, 7, 7, 7, 0, 7, 7, 7, 0, 7, 7, 7, 0, 7, 7, 7, 0, 7, 7, 7, 0, 7, 7, 7, 0, 7, 7, 7, 0, 7, 7, 7, 0, 7, 7, 7, 0, 7, 7, 7, 0, 7, 7, 7, 0, 7, 7, 7, 0, 7, 7, 7, 0, 7, 7, 7, 0, 7, 7, 7, 0, 7, 7, 7, 0, 7, 7, 7, 0, 7, 7, 7, 0, 7, 7, 7, 0, 2000, 2000, 403, 403, 403, 403, 20, 12, 2, 14, 14, 14, 2, 10, 80, 2, 2, 8, 8, 260, 260, 260, 260, 260, 840, 840, 64, 9, 400, 29, 29, 1160, 16, 1024, 7, 20, 20, 41, 3, 87]
def kd (i : Nat) : Nat := kdL.getD i 99
def al (i : Nat) : Nat := alL.getD i 0
/-- the fields of the object i of kind n: ints by g, references by ad; text and spare of the StateJuggler by tx -/
def fsK (ad : Nat → Nat) (n i : Nat) (g : Nat → Int32) (tx : Nat → Nat) : List Value := match n with
  | 0 => [.int (g 0), .ref (ad (i + 1)), .ref (ad (i + 2)), .ref (ad (i + 3)), .int (g 4), .int (g 5), .int (g 6), .int (g 7), .int (g 8), .int (g 9), .int (g 10), .int (g 11)]
  | 1 => [.ref (ad 10), .ref (ad 11), .int (g 2), .int (g 3)]
  | 2 => [.ref (ad 15), .ref (ad 16), .int (g 2)]
  | 3 => [.ref (ad 9)]
  | 4 => [.ref (ad 13), .int (g 1), .int (g 2)]
  | 5 => [.ref (ad 2), .int (g 1), .int (g 2), .int (g 3), .int (g 4), .int (g 5), .int (g 6), .int (g 7), .ref (ad 7), .int (g 9)]
  | 6 => [.ref (ad 18), .int (g 1), .ref (ad 19), .ref (ad 20), .ref (ad 21), .int (g 5)]
  | 7 => [.ref (ad 23), .ref (ad 24), .int (g 2), .int (g 3), .int (g 4)]
  | 8 => [.ref (ad 3), .int (g 1), .ref (ad 4), .ref (ad 5), .ref (ad 6), .int (g 5)]
  | 9 => [.int (g 0), .ref (ad (i + 1)), .ref (ad (i + 2)), .ref (ad (i + 3)), .int (g 4), .ref (ad (i + 4)), .ref (ad (i + 10)), .ref (ad (i + 11)), .int (g 8), .ref (ad (i + 12)), .int (g 10), .int (g 11)]
  | 10 => [.ref (ad 1), .ref (ad 8), .ref (ad 12), .ref (ad 14), .ref (ad 17), .ref (ad 22), .ref (ad 56), .ref (ad 60), .ref (ad 25), .ref (ad 26), .ref (ad 27), .ref (ad 28), .ref (ad 29), .ref (ad (tx 0)), .ref (ad (tx 1))]
  | 11 => [.int (g 0), .ref (ad 237), .int (g 2), .ref (ad 238), .int (g 4), .ref (ad 239), .ref (ad 240), .ref (ad 241), .ref (ad 242), .ref (ad 243), .int (g 10), .int (g 11), .int (g 12), .int (g 13), .int (g 14), .int (g 15), .int (g 16), .int (g 17), .int (g 18), .int (g 19), .int (g 20), .ref (ad 244), .ref (ad 245), .ref (ad 246), .ref (ad 247), .ref (ad 248), .ref (ad 249), .ref (ad 250), .ref (ad 251), .ref (ad 252), .ref (ad 253), .ref (ad 254), .ref (ad 255), .int (g 33), .ref (ad 256), .ref (ad 257), .ref (ad 258), .ref (ad 259), .ref (ad 260), .int (g 39), .ref (ad 261), .ref (ad 262), .ref (ad 263), .int (g 43), .ref (ad 264), .ref (ad 265), .int (g 46), .ref (ad 266), .ref (ad 267), .int (g 49), .int (g 50), .int (g 51), .int (g 52), .int (g 53), .int (g 54), .ref (ad 268), .ref (ad 269), .int (g 57), .ref (ad 270), .ref (ad 271), .int (g 60), .ref (ad 272), .ref (ad 273), .ref (ad 274), .ref (ad 275), .ref (ad 276)]
  | _ => []
/-- where the j-th of an array of references is: the ring's, the slots', a text's heights -/
def rfK (ad : Nat → Nat) (n i j : Nat) : Option Nat := match n with
  | 24 => if j < 40 then some (ad (76 + 4 * j)) else none
  | 25 => if j < 3 then some (ad (64 + 4 * j)) else none
  | _ => if j < 5 then some (ad (i + 1 + j)) else none
def ceK (ad : Nat → Nat) (ca : Nat → ClassId) (n i : Nat) (g : Nat → Int32) (gl : Nat → Int64) (tx : Nat → Nat) : va_E :=
  if n < 12 then .inr (n, fsK ad n i g tx)
  else if n = 23 then .inl (ca i, al i, .inr (.inl gl))
  else if n < 23 then .inl (ca i, al i, .inl g)
  else .inl (ca i, al i, .inr (.inr (.inr (.inr (rfK ad n i)))))
def aty (n : Nat) : FieldType := match n with
  | 20 => .int
  | 21 => .boolean
  | 22 => .byte
  | 23 => .long
  | 26 => .array .int
  | _ => .object RX0
/-- a state: ints by cell and place, longs by cell and place, which cells are text and spare -/
abbrev HS : Type := (Nat → Nat → Int32) × (Nat → Nat → Int64) × (Nat → Nat)
def hI (σ : HS) (i k : Nat) (v : Int32) : HS := (va_up σ.1 i (upd (σ.1 i) k v), σ.2)
def hL (σ : HS) (i k : Nat) (v : Int64) : HS := (σ.1, va_up σ.2.1 i (vp_updL (σ.2.1 i) k v), σ.2.2)
def hR (σ : HS) (k : Nat) (v : Nat) : HS := (σ.1, σ.2.1, va_up σ.2.2 k v)
/-- a whole row of a cell anew -/
def hA (σ : HS) (i : Nat) (f : Nat → Int32) : HS := (va_up σ.1 i f, σ.2)
abbrev NN : Nat := 277
def mw (ids : List Nat) (ad : Nat → Nat) (ca : Nat → ClassId) (σ : HS) : va_W := ids.map (fun i => (ad i, ceK ad ca (kd i) i (σ.1 i) (σ.2.1 i) σ.2.2))
def arL (ids : List Nat) : List Nat := ids.filter (fun i => decide (12 ≤ kd i))
def tys (ids : List Nat) (ca : Nat → ClassId) : List (ClassId × FieldType) := (arL ids).map (fun i => (ca i, aty (kd i)))


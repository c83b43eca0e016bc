/-! bits -/
section BITS
def tb (x : Int32) (a : Nat) : Bool := x.toBitVec.getLsbD a
theorem bv_shr (x : Int32) : ∀ a, a < 16 → (x >>> (nI a &&& 31)).toBitVec = x.toBitVec.sshiftRight a := by
  intro a h
  rcases (show a = 0 ∨ a = 1 ∨ a = 2 ∨ a = 3 ∨ a = 4 ∨ a = 5 ∨ a = 6 ∨ a = 7 ∨ a = 8 ∨ a = 9 ∨ a = 10 ∨ a = 11 ∨ a = 12 ∨ a = 13 ∨ a = 14 ∨ a = 15 by omega) with rfl | rfl | rfl | rfl | rfl | rfl | rfl | rfl | rfl | rfl | rfl | rfl | rfl | rfl | rfl | rfl <;> rfl
theorem bv_bit : ∀ a, a < 16 → ∀ i, i < 32 → (bitI a).toBitVec.getLsbD i = decide (i = a) := by decide +kernel
theorem bv_one : ∀ i, i < 32 → (1#32).getLsbD i = decide (i = 0) := by decide +kernel
theorem tb_sh {x : Int32} {a : Nat} (h : a < 16) : (x >>> (nI a &&& 31)) &&& 1 = if tb x a = true then 1 else 0 := by
  apply Int32.toBitVec_inj.mp
  rw [Int32.toBitVec_and, bv_shr x a h]
  apply BitVec.eq_of_getLsbD_eq
  intro i hi
  rw [BitVec.getLsbD_and, BitVec.getLsbD_sshiftRight]
  have e1 : (Int32.toBitVec 1).getLsbD i = decide (i = 0) := bv_one i hi
  rw [e1, decide_eq_false (show ¬ 32 ≤ i by omega), Bool.not_false, Bool.true_and]
  unfold tb
  by_cases c : i = 0
  · subst c
    rw [if_pos (show a + 0 < 32 by omega), Nat.add_zero]
    cases hb : x.toBitVec.getLsbD a with
    | true => rfl
    | false => rfl
  · rw [decide_eq_false c, Bool.and_false]
    cases hb : x.toBitVec.getLsbD a with
    | true =>
      show false = (1#32).getLsbD i
      rw [bv_one i hi, decide_eq_false c]
    | false =>
      show false = (0#32).getLsbD i
      rw [BitVec.getLsbD_zero]
theorem tb_sh1 {x : Int32} {a : Nat} (h : a < 16) : ((x >>> (nI a &&& 31)) &&& 1).toInt = 1 ↔ tb x a = true := by
  rw [tb_sh h]
  cases tb x a <;> decide
theorem tb_sh0 {x : Int32} {a : Nat} (h : a < 16) : ((x >>> (nI a &&& 31)) &&& 1).toInt = 0 ↔ tb x a = false := by
  rw [tb_sh h]
  cases tb x a <;> decide
theorem tb_or {x : Int32} {a b : Nat} (h : a < 16) (hb : b < 16) : tb (x ||| bitI a) b = (tb x b || decide (b = a)) := by
  unfold tb
  rw [Int32.toBitVec_or, BitVec.getLsbD_or, bv_bit a h b (by omega)]
theorem tb_0 {a : Nat} : tb 0 a = false := by
  show (0#32).getLsbD a = false
  rw [BitVec.getLsbD_zero]
theorem tb_and {x : Int32} {a : Nat} (h : a < 16) : (x &&& bitI a).toInt = 0 ↔ tb x a = false := by
  have e : x &&& bitI a = if tb x a = true then bitI a else 0 := by
    apply Int32.toBitVec_inj.mp
    rw [Int32.toBitVec_and]
    apply BitVec.eq_of_getLsbD_eq
    intro i hi
    rw [BitVec.getLsbD_and, bv_bit a h i hi]
    unfold tb
    by_cases c : i = a
    · subst c
      cases hb : x.toBitVec.getLsbD i with
      | true =>
        show (true && decide (i = i)) = (bitI i).toBitVec.getLsbD i
        rw [bv_bit i h i hi, Bool.true_and]
      | false =>
        show (false && _) = (0#32).getLsbD i
        rw [BitVec.getLsbD_zero, Bool.false_and]
    · rw [decide_eq_false c, Bool.and_false]
      cases hb : x.toBitVec.getLsbD a with
      | true =>
        show false = (bitI a).toBitVec.getLsbD i
        rw [bv_bit a h i hi, decide_eq_false c]
      | false =>
        show false = (0#32).getLsbD i
        rw [BitVec.getLsbD_zero]
  have z : ∀ a, a < 16 → (bitI a).toInt ≠ 0 := by decide +kernel
  rw [e]
  cases hb : tb x a with
  | true => exact ⟨fun h2 => absurd h2 (z a h), fun h2 => nomatch h2⟩
  | false => exact ⟨fun _ => rfl, fun _ => rfl⟩
theorem tb_set {x : Int32} {a : Nat} (h : a < 16) (ht : tb x a = true) : x ||| bitI a = x := by
  apply Int32.toBitVec_inj.mp
  rw [Int32.toBitVec_or]
  apply BitVec.eq_of_getLsbD_eq
  intro i hi
  rw [BitVec.getLsbD_or, bv_bit a h i hi]
  by_cases c : i = a
  · subst c
    have : x.toBitVec.getLsbD i = true := ht
    rw [this]; rfl
  · rw [decide_eq_false c, Bool.or_false]
end BITS
theorem Ok.of {α : Type} {x : Option (α × HS)} {r : α} {s : HS} {Q : α → HS → Prop} (e : x = some (r, s)) (h : Q r s) : Ok x Q := ⟨r, s, e, h⟩
theorem cnt_del {p q : Nat → Bool} {a : Nat} : ∀ {n : Nat}, a < n → (∀ e, e < n → e ≠ a → p e = q e) → p a = true → q a = false → cntB q n + 1 = cntB p n := by
  intro n
  induction n with
  | zero => intro h; exact absurd h (by omega)
  | succ n ih =>
    intro h e1 e2 e3
    show (if q n = true then cntB q n + 1 else cntB q n) + 1 = (if p n = true then cntB p n + 1 else cntB p n)
    by_cases c : a = n
    · subst c
      rw [e2, e3, if_pos rfl, if_neg (by decide), cntB_cg (p := q) (q := p) (fun e he => (e1 e (by omega) (by omega)).symm)]
    · have i := ih (by omega) (fun e he => e1 e (by omega)) e2 e3
      rw [e1 n (by omega) (fun h => c h.symm)]
      split <;> omega


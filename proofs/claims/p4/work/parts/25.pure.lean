/-! ways: the rows, purely -/
def lp (g : Nat → List (List Nat)) : Nat → Nat → List (List Nat)
  | _, 0 => []
  | h, e + 1 => g h ++ lp g (h + 1) e
/-! the reference's rows by their number -/

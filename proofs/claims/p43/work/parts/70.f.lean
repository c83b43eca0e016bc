noncomputable section FNS
def b_J7_fill_53178_5 (p1 : Nat) (k5 : Int32 → Int32 → Int32 → HS → Option (HS)) (y1 : Int32) (y2 : Int32) (y3 : Int32) (σ : HS) : Option (HS) :=
  if y2.toInt < y3.toInt then
    if 0 ≤ y2.toInt ∧ y2.toInt < (al p1 : Int) then
      Bd (hI σ p1 y2.toInt.toNat y1) fun σ1 =>
      Bd (y2 + 1) fun z2 =>
      k5 y1 z2 y3 σ1
    else none
  else
    some σ
def f_J7_fill_53178_5 (p1 : Nat) : Nat → Int32 → Int32 → Int32 → HS → Option (HS)
  | 0 => fun _ _ _ _ => none
  | n + 1 => fun y1 y2 y3 σ => b_J7_fill_53178_5 p1 (f_J7_fill_53178_5 p1 n) y1 y2 y3 σ
def f_J7_fill_53178 (p1 : Nat) (x2 : Int32) (σ : HS) : Option (HS) :=
  Bd (Int32.ofNat (al p1)) fun z1 =>
  f_J7_fill_53178_5 p1 5000 x2 0 z1 σ
def f_X0_begin_77 (a : Nat) (p1 : Nat) (v0 : Int32) (σ : HS) : Option (HS) :=
  Bd (hI σ a 9 v0) fun σ1 =>
  Bd (hI σ1 a 10 0) fun σ2 =>
  Bd (hI σ2 a 11 (-1)) fun σ3 =>
  some σ3
def f_X0_begin (a : Nat) (p1 : Nat) (σ : HS) : Option (HS) :=
  Bd (hI σ a 0 (σ.1 p1 0)) fun σ1 =>
  Cv (f_J7_fill_53178 (a + 1) 0 σ1) fun σ2 =>
  Cv (f_J7_fill_53178 (a + 3) 0 σ2) fun σ4 =>
  if 0 ≤ (0 : Int) ∧ 0 ≤ (0 : Int) ∧ 0 ≤ (7 : Int) ∧ (0 : Int) + 7 ≤ 7 ∧ (0 : Int) + 7 ≤ 7 then
    Bd (hA σ4 (a + 2) (va_cpy (σ4.1 (p1 + 3)) (σ4.1 (a + 2)) (0 : Int).toNat (0 : Int).toNat (7 : Int).toNat)) fun σ6 =>
    Bd (hI σ6 a 4 0) fun σ7 =>
    Bd (hI σ7 a 5 0) fun σ8 =>
    Bd (hI σ8 a 6 0) fun σ9 =>
    Bd (hI σ9 a 7 0) fun σ10 =>
    Bd (hI σ10 a 8 0) fun σ11 =>
    if 0 < (σ11.1 p1 4).toInt then
      f_X0_begin_77 a p1 0 σ11
    else
      f_X0_begin_77 a p1 (-1) σ11
  else none
def f_X0_copy (a : Nat) (p1 : Nat) (σ : HS) : Option (HS) :=
  Bd (hI σ a 0 (σ.1 p1 0)) fun σ1 =>
  if 0 ≤ (0 : Int) ∧ 0 ≤ (0 : Int) ∧ 0 ≤ (7 : Int) ∧ (0 : Int) + 7 ≤ 7 ∧ (0 : Int) + 7 ≤ 7 then
    Bd (hA σ1 (a + 1) (va_cpy (σ1.1 (p1 + 1)) (σ1.1 (a + 1)) (0 : Int).toNat (0 : Int).toNat (7 : Int).toNat)) fun σ2 =>
    if 0 ≤ (0 : Int) ∧ 0 ≤ (0 : Int) ∧ 0 ≤ (7 : Int) ∧ (0 : Int) + 7 ≤ 7 ∧ (0 : Int) + 7 ≤ 7 then
      Bd (hA σ2 (a + 2) (va_cpy (σ2.1 (p1 + 2)) (σ2.1 (a + 2)) (0 : Int).toNat (0 : Int).toNat (7 : Int).toNat)) fun σ3 =>
      if 0 ≤ (0 : Int) ∧ 0 ≤ (0 : Int) ∧ 0 ≤ (7 : Int) ∧ (0 : Int) + 7 ≤ 7 ∧ (0 : Int) + 7 ≤ 7 then
        Bd (hA σ3 (a + 3) (va_cpy (σ3.1 (p1 + 3)) (σ3.1 (a + 3)) (0 : Int).toNat (0 : Int).toNat (7 : Int).toNat)) fun σ4 =>
        Bd (hI σ4 a 4 (σ4.1 p1 4)) fun σ5 =>
        Bd (hI σ5 a 5 (σ5.1 p1 5)) fun σ6 =>
        Bd (hI σ6 a 6 (σ6.1 p1 6)) fun σ7 =>
        Bd (hI σ7 a 7 (σ7.1 p1 7)) fun σ8 =>
        Bd (hI σ8 a 8 (σ8.1 p1 8)) fun σ9 =>
        Bd (hI σ9 a 9 (σ9.1 p1 9)) fun σ10 =>
        Bd (hI σ10 a 10 (σ10.1 p1 10)) fun σ11 =>
        Bd (hI σ11 a 11 (σ11.1 p1 11)) fun σ12 =>
        some σ12
      else none
    else none
  else none
def f_X0_isUp (a : Nat) (x1 : Int32) (σ : HS) : Option (Int32 × HS) :=
  if 0 ≤ x1.toInt ∧ x1.toInt < 7 then
    if (σ.1 (a + 1) x1.toInt.toNat).toInt = 0 then
      some (1, σ)
    else
      some (0, σ)
  else none
def f_X0_landsNow (a : Nat) (x1 : Int32) (σ : HS) : Option (Int32 × HS) :=
  if 0 ≤ x1.toInt ∧ x1.toInt < 7 then
    if (σ.1 (a + 1) x1.toInt.toNat).toInt = 0 then
      if 0 ≤ x1.toInt ∧ x1.toInt < 7 then
        if (σ.1 (a + 2) x1.toInt.toNat).toInt = 0 then
          some (1, σ)
        else
          some (0, σ)
      else none
    else
      some (0, σ)
  else none
def f_X0_putUp (a : Nat) (x1 : Int32) (x2 : Int32) (σ : HS) : Option (HS) :=
  if 0 ≤ x1.toInt ∧ x1.toInt < 7 then
    Bd (hI σ (a + 1) x1.toInt.toNat 0) fun σ1 =>
    if 0 ≤ x1.toInt ∧ x1.toInt < 7 then
      Bd (hI σ1 (a + 2) x1.toInt.toNat x2) fun σ2 =>
      some σ2
    else none
  else none
def f_X0_takeUp (a : Nat) (x1 : Int32) (σ : HS) : Option (HS) :=
  Bd (hI σ a 9 x1) fun σ1 =>
  Bd (hI σ1 a 10 (σ1.1 a 4)) fun σ2 =>
  some σ2
def f_X0_drop (a : Nat) (x1 : Int32) (σ : HS) : Option (HS) :=
  if 0 ≤ x1.toInt ∧ x1.toInt < 7 then
    Bd (hI σ (a + 1) x1.toInt.toNat 2) fun σ1 =>
    Bd (hI σ1 a 6 ((σ1.1 a 6) + (1 : Int32))) fun σ2 =>
    some σ2
  else none
def f_X0_bitsOf_28 (a : Nat) (k4 : Int32 → Int32 → Int32 → HS → Option (Int32 × HS)) (y1 : Int32) (y2 : Int32) (y3 : Int32) (σ : HS) : Option (Int32 × HS) :=
  Bd (y3 + 1) fun z1 =>
  k4 y1 y2 z1 σ
def b_X0_bitsOf_4 (a : Nat) (k4 : Int32 → Int32 → Int32 → HS → Option (Int32 × HS)) (y1 : Int32) (y2 : Int32) (y3 : Int32) (σ : HS) : Option (Int32 × HS) :=
  if y3.toInt < (σ.1 a 0).toInt then
    if 0 ≤ y3.toInt ∧ y3.toInt < 7 then
      if (σ.1 (a + 1) y3.toInt.toNat).toInt = y1.toInt then
        Bd (y2 ||| ((1 : Int32) <<< (y3 &&& 31))) fun z1 =>
        f_X0_bitsOf_28 a k4 y1 z1 y3 σ
      else
        f_X0_bitsOf_28 a k4 y1 y2 y3 σ
    else none
  else
    some (y2, σ)
def f_X0_bitsOf_4 (a : Nat) : Nat → Int32 → Int32 → Int32 → HS → Option (Int32 × HS)
  | 0 => fun _ _ _ _ => none
  | n + 1 => fun y1 y2 y3 σ => b_X0_bitsOf_4 a (f_X0_bitsOf_4 a n) y1 y2 y3 σ
def f_X0_bitsOf (a : Nat) (x1 : Int32) (σ : HS) : Option (Int32 × HS) :=
  f_X0_bitsOf_4 a 5000 x1 0 0 σ
def f_J6_bitCount_0f7a4 (x1 : Int32) (σ : HS) : Option (Int32 × HS) :=
  Bd (x1 - (((x1.toUInt32 >>> ((1 : Int32).toUInt32 &&& Int32.toUInt32 31)).toInt32) &&& (1431655765 : Int32))) fun z1 =>
  Bd ((z1 &&& (858993459 : Int32)) + (((z1.toUInt32 >>> ((2 : Int32).toUInt32 &&& Int32.toUInt32 31)).toInt32) &&& (858993459 : Int32))) fun z2 =>
  Bd ((z2 + ((z2.toUInt32 >>> ((4 : Int32).toUInt32 &&& Int32.toUInt32 31)).toInt32)) &&& (252645135 : Int32)) fun z3 =>
  Bd (z3 + ((z3.toUInt32 >>> ((8 : Int32).toUInt32 &&& Int32.toUInt32 31)).toInt32)) fun z4 =>
  Bd (z4 + ((z4.toUInt32 >>> ((16 : Int32).toUInt32 &&& Int32.toUInt32 31)).toInt32)) fun z5 =>
  some ((z5 &&& (63 : Int32)), σ)
def f_X0_howManyUp (a : Nat) (σ : HS) : Option (Int32 × HS) :=
  Cl (f_X0_bitsOf a 0 σ) fun r2 σ1 =>
  Cl (f_J6_bitCount_0f7a4 r2 σ1) fun r4 σ3 =>
  some (r4, σ3)
def f_X0_howManyLand_23 (a : Nat) (k4 : Int32 → Int32 → HS → Option (Int32 × HS)) (y1 : Int32) (y2 : Int32) (σ : HS) : Option (Int32 × HS) :=
  Bd (y2 + 1) fun z1 =>
  k4 y1 z1 σ
def b_X0_howManyLand_4 (a : Nat) (k4 : Int32 → Int32 → HS → Option (Int32 × HS)) (y1 : Int32) (y2 : Int32) (σ : HS) : Option (Int32 × HS) :=
  if y2.toInt < (σ.1 a 0).toInt then
    Cl (f_X0_landsNow a y2 σ) fun r2 σ1 =>
    if r2.toInt = 0 then
      f_X0_howManyLand_23 a k4 y1 y2 σ1
    else
      Bd (y1 + 1) fun z3 =>
      f_X0_howManyLand_23 a k4 z3 y2 σ1
  else
    some (y1, σ)
def f_X0_howManyLand_4 (a : Nat) : Nat → Int32 → Int32 → HS → Option (Int32 × HS)
  | 0 => fun _ _ _ => none
  | n + 1 => fun y1 y2 σ => b_X0_howManyLand_4 a (f_X0_howManyLand_4 a n) y1 y2 σ
def f_X0_howManyLand (a : Nat) (σ : HS) : Option (Int32 × HS) :=
  f_X0_howManyLand_4 a 5000 0 0 σ
def b_X0_firstLanding_2 (a : Nat) (k2 : Int32 → HS → Option (Int32 × HS)) (y1 : Int32) (σ : HS) : Option (Int32 × HS) :=
  if y1.toInt < (σ.1 a 0).toInt then
    Cl (f_X0_landsNow a y1 σ) fun r2 σ1 =>
    if r2.toInt = 0 then
      Bd (y1 + 1) fun z3 =>
      k2 z3 σ1
    else
      some (y1, σ1)
  else
    some ((-1), σ)
def f_X0_firstLanding_2 (a : Nat) : Nat → Int32 → HS → Option (Int32 × HS)
  | 0 => fun _ _ => none
  | n + 1 => fun y1 σ => b_X0_firstLanding_2 a (f_X0_firstLanding_2 a n) y1 σ
def f_X0_firstLanding (a : Nat) (σ : HS) : Option (Int32 × HS) :=
  f_X0_firstLanding_2 a 5000 0 σ
def f_X0_landingBits_31 (a : Nat) (k4 : Int32 → Int32 → HS → Option (Int32 × HS)) (y1 : Int32) (y2 : Int32) (σ : HS) : Option (Int32 × HS) :=
  Bd (y2 + 1) fun z1 =>
  k4 y1 z1 σ
def b_X0_landingBits_4 (a : Nat) (k4 : Int32 → Int32 → HS → Option (Int32 × HS)) (y1 : Int32) (y2 : Int32) (σ : HS) : Option (Int32 × HS) :=
  if y2.toInt < (σ.1 a 0).toInt then
    Cl (f_X0_isUp a y2 σ) fun r2 σ1 =>
    if r2.toInt = 0 then
      f_X0_landingBits_31 a k4 y1 y2 σ1
    else
      if 0 ≤ y2.toInt ∧ y2.toInt < 7 then
        Bd (y1 ||| ((1 : Int32) <<< ((σ1.1 (a + 2) y2.toInt.toNat) &&& 31))) fun z3 =>
        f_X0_landingBits_31 a k4 z3 y2 σ1
      else none
  else
    some (y1, σ)
def f_X0_landingBits_4 (a : Nat) : Nat → Int32 → Int32 → HS → Option (Int32 × HS)
  | 0 => fun _ _ _ => none
  | n + 1 => fun y1 y2 σ => b_X0_landingBits_4 a (f_X0_landingBits_4 a n) y1 y2 σ
def f_X0_landingBits (a : Nat) (σ : HS) : Option (Int32 × HS) :=
  f_X0_landingBits_4 a 5000 0 0 σ
def f_X0_twoLandAlike (a : Nat) (σ : HS) : Option (Int32 × HS) :=
  Cl (f_X0_landingBits a σ) fun r2 σ1 =>
  Cl (f_J6_bitCount_0f7a4 r2 σ1) fun r4 σ3 =>
  Cl (f_X0_howManyUp a σ3) fun r6 σ5 =>
  if r4.toInt < r6.toInt then
    some (1, σ5)
  else
    some (0, σ5)
def f_X10_hasPattern (t : Nat) (x1 : Int32) (σ : HS) : Option (Int32 × HS) :=
  if x1.toInt < 0 then
    some (0, σ)
  else
    if x1.toInt < (σ.1 t 4).toInt then
      some (1, σ)
    else
      some (0, σ)
def f_J9_floorMod_7cf53 (x1 : Int32) (x2 : Int32) (σ : HS) : Option (Int32 × HS) :=
  if x2.toInt = 0 then none else
  Bd (x1 - x1 / x2 * x2) fun z1 =>
  if (x1 ^^^ x2).toInt < 0 then
    if z1.toInt = 0 then
      some (z1, σ)
    else
      some ((z1 + x2), σ)
  else
    some (z1, σ)
def f_X0_heightBy (a : Nat) (p1 : Nat) (σ : HS) : Option (Int32 × HS) :=
  if (σ.1 a 11).toInt = (-1) then
    Cl (f_X10_hasPattern p1 (σ.1 a 9) σ) fun r2 σ1 =>
    if r2.toInt = 0 then
      some (3, σ1)
    else
      if 0 ≤ (σ1.1 a 9).toInt ∧ (σ1.1 a 9).toInt < 5 then
        if (σ1.1 (p1 + 10) (σ1.1 a 9).toInt.toNat).toInt < 1 then
          some (3, σ1)
        else
          if 0 ≤ (σ1.1 a 9).toInt ∧ (σ1.1 a 9).toInt < 5 then
            if 0 ≤ (σ1.1 a 9).toInt ∧ (σ1.1 a 9).toInt < 5 then
              Cl (f_J9_floorMod_7cf53 ((σ1.1 a 4) - (σ1.1 a 10)) (σ1.1 (p1 + 10) (σ1.1 a 9).toInt.toNat) σ1) fun r5 σ4 =>
              if 0 ≤ r5.toInt ∧ r5.toInt < 8 then
                some ((σ4.1 (p1 + 5 + (σ1.1 a 9).toInt.toNat) r5.toInt.toNat), σ4)
              else none
            else none
          else none
      else none
  else
    some ((σ.1 a 11), σ)
def f_X1_pop (σ : HS) : Option (Int32 × HS) :=
  if (σ.1 9 2).toInt < 1 then
    Bd (hI σ 9 3 1) fun σ2 =>
    some (0, σ2)
  else
    Bd (hI σ 9 2 ((σ.1 9 2) - (1 : Int32))) fun σ1 =>
    if 0 ≤ (σ1.1 9 2).toInt ∧ (σ1.1 9 2).toInt < 32 then
      some ((σ1.1 11 (σ1.1 9 2).toInt.toNat), σ1)
    else none
def f_X1_reckon_57 (y2 : Int32) (y3 : Int32) (v0 : Int32) (σ : HS) : Option (Int32 × HS) :=
  if 0 ≤ v0.toInt ∧ v0.toInt ≤ 1 then
    Bd (hI σ 9 3 v0) fun σ2 =>
    if y3.toInt = 0 then
      some (0, σ2)
    else
      if y3.toInt = 0 then none else
      some ((y2 / y3), σ2)
  else none
def f_X1_reckon_52 (y2 : Int32) (y3 : Int32) (σ : HS) : Option (Int32 × HS) :=
  f_X1_reckon_57 y2 y3 1 σ
def f_X1_reckon (x1 : Int32) (x2 : Int32) (x3 : Int32) (σ : HS) : Option (Int32 × HS) :=
  if x1.toInt = (-3) then
    some ((x2 * x3), σ)
  else
    if x1.toInt = (-2) then
      some ((x2 - x3), σ)
    else
      if x1.toInt = (-1) then
        some ((x2 + x3), σ)
      else
        if (σ.1 9 3).toInt = 0 then
          if x3.toInt = 0 then
            f_X1_reckon_52 x2 x3 σ
          else
            f_X1_reckon_57 x2 x3 0 σ
        else
          f_X1_reckon_52 x2 x3 σ
def f_X1_push (x1 : Int32) (σ : HS) : Option (HS) :=
  if (σ.1 9 2).toInt < 32 then
    if 0 ≤ (σ.1 9 2).toInt ∧ (σ.1 9 2).toInt < 32 then
      Bd (hI σ 11 (σ.1 9 2).toInt.toNat x1) fun σ1 =>
      Bd (hI σ1 9 2 ((σ1.1 9 2) + (1 : Int32))) fun σ2 =>
      some σ2
    else none
  else
    Bd (hI σ 9 3 1) fun σ3 =>
    some σ3
def f_X1_answer_178 (p1 : Nat) (k15 : Int32 → Int32 → HS → Option (Int32 × HS)) (y3 : Int32) (y4 : Int32) (σ : HS) : Option (Int32 × HS) :=
  Bd (y4 + 1) fun z1 =>
  k15 y3 z1 σ
def f_X1_answer_168 (p1 : Nat) (k15 : Int32 → Int32 → HS → Option (Int32 × HS)) (y3 : Int32) (y4 : Int32) (σ : HS) : Option (Int32 × HS) :=
  Bd (y3 + 1) fun z1 =>
  f_X1_answer_178 p1 k15 z1 y4 σ
def f_X1_answer_92 (p1 : Nat) (k15 : Int32 → Int32 → HS → Option (Int32 × HS)) (y3 : Int32) (y4 : Int32) (y5 : Int32) (σ : HS) : Option (Int32 × HS) :=
  if y5.toInt = (-6) then
    Cl (f_X1_pop σ) fun r11 σ10 =>
    if (σ10.1 9 3).toInt = 0 then
      some (r11, σ10)
    else
      some (0, σ10)
  else
    Cl (f_X1_pop σ) fun r2 σ1 =>
    Cl (f_X1_pop σ1) fun r4 σ3 =>
    if y5.toInt = (-5) then
      if r4.toInt < r2.toInt then
        f_X1_answer_168 p1 k15 y3 y4 σ3
      else
        if y3.toInt < (Int32.ofNat (al p1)).toInt then
          if 0 ≤ y3.toInt ∧ y3.toInt < (al p1 : Int) then
            Bd (σ3.1 p1 y3.toInt.toNat) fun z5 =>
            f_X1_answer_178 p1 k15 z5 y4 σ3
          else none
        else
          f_X1_answer_168 p1 k15 y3 y4 σ3
    else
      Cl (f_X1_reckon y5 r4 r2 σ3) fun r7 σ6 =>
      Cv (f_X1_push r7 σ6) fun σ8 =>
      f_X1_answer_178 p1 k15 y3 y4 σ8
def b_X1_answer_15 (p1 : Nat) (k15 : Int32 → Int32 → HS → Option (Int32 × HS)) (y3 : Int32) (y4 : Int32) (σ : HS) : Option (Int32 × HS) :=
  if y4.toInt < (Int32.ofNat (al p1)).toInt then
    if y3.toInt < 0 then
      some (0, σ)
    else
      if y3.toInt < (Int32.ofNat (al p1)).toInt then
        if (σ.1 9 3).toInt = 0 then
          if 0 ≤ y3.toInt ∧ y3.toInt < (al p1 : Int) then
            Bd (σ.1 p1 y3.toInt.toNat) fun z1 =>
            Bd (y3 + 1) fun z2 =>
            if z1.toInt < 0 then
              if (-10) < z1.toInt then
                f_X1_answer_92 p1 k15 z2 y4 z1 σ
              else
                if (-19) < z1.toInt then
                  if 0 ≤ (((-10) : Int32) - z1).toInt ∧ (((-10) : Int32) - z1).toInt < 9 then
                    Cv (f_X1_push (σ.1 10 (((-10) : Int32) - z1).toInt.toNat) σ) fun σ3 =>
                    f_X1_answer_178 p1 k15 z2 y4 σ3
                  else none
                else
                  f_X1_answer_92 p1 k15 z2 y4 z1 σ
            else
              Cv (f_X1_push z1 σ) fun σ5 =>
              f_X1_answer_178 p1 k15 z2 y4 σ5
          else none
        else
          some (0, σ)
      else
        some (0, σ)
  else
    some (0, σ)
def f_X1_answer_15 (p1 : Nat) : Nat → Int32 → Int32 → HS → Option (Int32 × HS)
  | 0 => fun _ _ _ => none
  | n + 1 => fun y3 y4 σ => b_X1_answer_15 p1 (f_X1_answer_15 p1 n) y3 y4 σ
def f_X1_answer (p1 : Nat) (x2 : Int32) (σ : HS) : Option (Int32 × HS) :=
  Bd (hI σ 9 2 0) fun σ1 =>
  Bd (hI σ1 9 3 0) fun σ2 =>
  f_X1_answer_15 p1 5000 x2 0 σ2
def f_X2_add (x1 : Int32) (x2 : Int32) (σ : HS) : Option (Int32 × HS) :=
  if (σ.1 14 2).toInt < 20 then
    if 0 ≤ (σ.1 14 2).toInt ∧ (σ.1 14 2).toInt < 20 then
      Bd (hI σ 15 (σ.1 14 2).toInt.toNat x1) fun σ1 =>
      if 0 ≤ x2.toInt ∧ x2.toInt ≤ 1 then
        if 0 ≤ (σ1.1 14 2).toInt ∧ (σ1.1 14 2).toInt < 20 then
          Bd (hI σ1 16 (σ1.1 14 2).toInt.toNat x2) fun σ3 =>
          Bd (hI σ3 14 2 ((σ3.1 14 2) + (1 : Int32))) fun σ4 =>
          some (((σ4.1 14 2) - (1 : Int32)), σ4)
        else none
      else none
    else none
  else
    some ((-1), σ)
def f_X2_agreeing_85 (p3 : Nat) (k6 : Int32 → Int32 → Int32 → HS → Option (Int32 × HS)) (y2 : Int32) (y5 : Int32) (v0 : Int32) (v1 : Int32) (σ : HS) : Option (Int32 × HS) :=
  Bd (v1 &&& v0) fun z1 =>
  Bd (y5 + 1) fun z2 =>
  k6 y2 z1 z2 σ
def f_X2_agreeing_62 (p3 : Nat) (k6 : Int32 → Int32 → Int32 → HS → Option (Int32 × HS)) (y2 : Int32) (y4 : Int32) (y5 : Int32) (v0 : Int32) (σ : HS) : Option (Int32 × HS) :=
  if 0 ≤ y5.toInt ∧ y5.toInt < 20 then
    if (σ.1 16 y5.toInt.toNat).toInt = 0 then
      f_X2_agreeing_85 p3 k6 y2 y5 (v0 ^^^ ((-1) : Int32)) y4 σ
    else
      f_X2_agreeing_85 p3 k6 y2 y5 v0 y4 σ
  else none
def f_X2_agreeing_46 (p3 : Nat) (k6 : Int32 → Int32 → Int32 → HS → Option (Int32 × HS)) (y2 : Int32) (y4 : Int32) (y5 : Int32) (v0 : Int32) (σ : HS) : Option (Int32 × HS) :=
  if v0.toInt = (-1) then
    f_X2_agreeing_62 p3 k6 y2 y4 y5 0 σ
  else
    f_X2_agreeing_62 p3 k6 y2 y4 y5 ((1 : Int32) <<< (v0 &&& 31)) σ
def b_X2_agreeing_6 (p3 : Nat) (k6 : Int32 → Int32 → Int32 → HS → Option (Int32 × HS)) (y2 : Int32) (y4 : Int32) (y5 : Int32) (σ : HS) : Option (Int32 × HS) :=
  if y5.toInt < y2.toInt then
    if y5.toInt < (σ.1 14 2).toInt then
      if 0 ≤ y5.toInt ∧ y5.toInt < 20 then
        if (σ.1 15 y5.toInt.toNat).toInt < (Int32.ofNat (al p3)).toInt then
          if 0 ≤ y5.toInt ∧ y5.toInt < 20 then
            if 0 ≤ (σ.1 15 y5.toInt.toNat).toInt ∧ (σ.1 15 y5.toInt.toNat).toInt < (al p3 : Int) then
              f_X2_agreeing_46 p3 k6 y2 y4 y5 (σ.1 p3 (σ.1 15 y5.toInt.toNat).toInt.toNat) σ
            else none
          else none
        else
          f_X2_agreeing_46 p3 k6 y2 y4 y5 (-1) σ
      else none
    else
      some (y4, σ)
  else
    some (y4, σ)
def f_X2_agreeing_6 (p3 : Nat) : Nat → Int32 → Int32 → Int32 → HS → Option (Int32 × HS)
  | 0 => fun _ _ _ _ => none
  | n + 1 => fun y2 y4 y5 σ => b_X2_agreeing_6 p3 (f_X2_agreeing_6 p3 n) y2 y4 y5 σ
def f_X2_agreeing (p3 : Nat) (x1 : Int32) (x2 : Int32) (σ : HS) : Option (Int32 × HS) :=
  f_X2_agreeing_6 p3 5000 x2 x1 0 σ
def b_X3_close_4 (p1 : Nat) (k4 : Int32 → Int32 → Int32 → HS → Option (Int32 × HS)) (y1 : Int32) (y2 : Int32) (y3 : Int32) (σ : HS) : Option (Int32 × HS) :=
  if y3.toInt < y1.toInt then
    if 0 ≤ y3.toInt ∧ y3.toInt < (al p1 : Int) then
      if y1.toInt = 0 then none else
      Bd ((1 : Int32) <<< (((y3 + (σ.1 p1 y3.toInt.toNat)) - (y3 + (σ.1 p1 y3.toInt.toNat)) / y1 * y1) &&& 31)) fun z1 =>
      if (y2 &&& z1).toInt = 0 then
        Bd (y2 ||| z1) fun z2 =>
        Bd (y3 + 1) fun z3 =>
        k4 y1 z2 z3 σ
      else
        some (0, σ)
    else none
  else
    some (1, σ)
def f_X3_close_4 (p1 : Nat) : Nat → Int32 → Int32 → Int32 → HS → Option (Int32 × HS)
  | 0 => fun _ _ _ _ => none
  | n + 1 => fun y1 y2 y3 σ => b_X3_close_4 p1 (f_X3_close_4 p1 n) y1 y2 y3 σ
def f_X3_close (p1 : Nat) (x2 : Int32) (σ : HS) : Option (Int32 × HS) :=
  f_X3_close_4 p1 5000 x2 0 0 σ
def b_X3_kept_4 (p1 : Nat) (k4 : Int32 → Int32 → Int32 → HS → Option (Int32 × HS)) (y1 : Int32) (y2 : Int32) (y3 : Int32) (σ : HS) : Option (Int32 × HS) :=
  if y3.toInt < y1.toInt then
    if 0 ≤ y3.toInt ∧ y3.toInt < (al p1 : Int) then
      Bd (y2 + (σ.1 p1 y3.toInt.toNat)) fun z1 =>
      Bd (y3 + 1) fun z2 =>
      k4 y1 z1 z2 σ
    else none
  else
    if y1.toInt < 1 then
      some (0, σ)
    else
      if y1.toInt = 0 then none else
      some ((y2 / y1), σ)
def f_X3_kept_4 (p1 : Nat) : Nat → Int32 → Int32 → Int32 → HS → Option (Int32 × HS)
  | 0 => fun _ _ _ _ => none
  | n + 1 => fun y1 y2 y3 σ => b_X3_kept_4 p1 (f_X3_kept_4 p1 n) y1 y2 y3 σ
def f_X3_kept (p1 : Nat) (x2 : Int32) (σ : HS) : Option (Int32 × HS) :=
  f_X3_kept_4 p1 5000 x2 0 0 σ
def b_X3_highest_4 (p1 : Nat) (k4 : Int32 → Int32 → Int32 → HS → Option (Int32 × HS)) (y1 : Int32) (y2 : Int32) (y3 : Int32) (σ : HS) : Option (Int32 × HS) :=
  if y3.toInt < y1.toInt then
    if 0 ≤ y3.toInt ∧ y3.toInt < (al p1 : Int) then
      Bd (if y2 < (σ.1 p1 y3.toInt.toNat) then (σ.1 p1 y3.toInt.toNat) else y2) fun z1 =>
      Bd (y3 + 1) fun z2 =>
      k4 y1 z1 z2 σ
    else none
  else
    some (y2, σ)
def f_X3_highest_4 (p1 : Nat) : Nat → Int32 → Int32 → Int32 → HS → Option (Int32 × HS)
  | 0 => fun _ _ _ _ => none
  | n + 1 => fun y1 y2 y3 σ => b_X3_highest_4 p1 (f_X3_highest_4 p1 n) y1 y2 y3 σ
def f_X3_highest (p1 : Nat) (x2 : Int32) (σ : HS) : Option (Int32 × HS) :=
  f_X3_highest_4 p1 5000 x2 0 0 σ
def f_X3_turns_44 (p1 : Nat) (p2 : Nat) (k2 : Int32 → Int32 → HS → Option (Int32 × HS)) (k13 : Int32 → Int32 → Int32 → Int32 → HS → Option (Int32 × HS)) (y2 : Int32) (y3 : Int32) (y5 : Int32) (v0 : Int32) (σ : HS) : Option (Int32 × HS) :=
  Bd (y5 + 1) fun z1 =>
  k13 y2 y3 v0 z1 σ
def f_X3_turns_43 (p1 : Nat) (p2 : Nat) (k2 : Int32 → Int32 → HS → Option (Int32 × HS)) (k13 : Int32 → Int32 → Int32 → Int32 → HS → Option (Int32 × HS)) (y2 : Int32) (y3 : Int32) (y5 : Int32) (σ : HS) : Option (Int32 × HS) :=
  f_X3_turns_44 p1 p2 k2 k13 y2 y3 y5 0 σ
def b_X3_turns_13 (p1 : Nat) (p2 : Nat) (k2 : Int32 → Int32 → HS → Option (Int32 × HS)) (k13 : Int32 → Int32 → Int32 → Int32 → HS → Option (Int32 × HS)) (y2 : Int32) (y3 : Int32) (y4 : Int32) (y5 : Int32) (σ : HS) : Option (Int32 × HS) :=
  if y5.toInt < y2.toInt then
    if y4.toInt = 0 then
      f_X3_turns_43 p1 p2 k2 k13 y2 y3 y5 σ
    else
      if y2.toInt = 0 then none else
      if 0 ≤ ((y5 + y3) - (y5 + y3) / y2 * y2).toInt ∧ ((y5 + y3) - (y5 + y3) / y2 * y2).toInt < (al p1 : Int) then
        if 0 ≤ y5.toInt ∧ y5.toInt < (al p2 : Int) then
          if (σ.1 p1 ((y5 + y3) - (y5 + y3) / y2 * y2).toInt.toNat).toInt = (σ.1 p2 y5.toInt.toNat).toInt then
            f_X3_turns_44 p1 p2 k2 k13 y2 y3 y5 1 σ
          else
            f_X3_turns_43 p1 p2 k2 k13 y2 y3 y5 σ
        else none
      else none
  else
    if y4.toInt = 0 then
      Bd (y3 + 1) fun z1 =>
      k2 y2 z1 σ
    else
      some (y3, σ)
def f_X3_turns_13 (p1 : Nat) (p2 : Nat) (k2 : Int32 → Int32 → HS → Option (Int32 × HS)) : Nat → Int32 → Int32 → Int32 → Int32 → HS → Option (Int32 × HS)
  | 0 => fun _ _ _ _ _ => none
  | n + 1 => fun y2 y3 y4 y5 σ => b_X3_turns_13 p1 p2 k2 (f_X3_turns_13 p1 p2 k2 n) y2 y3 y4 y5 σ
def b_X3_turns_2 (p1 : Nat) (p2 : Nat) (k2 : Int32 → Int32 → HS → Option (Int32 × HS)) (y2 : Int32) (y3 : Int32) (σ : HS) : Option (Int32 × HS) :=
  if y3.toInt < y2.toInt then
    f_X3_turns_13 p1 p2 k2 5000 y2 y3 1 0 σ
  else
    some ((-2), σ)
def f_X3_turns_2 (p1 : Nat) (p2 : Nat) : Nat → Int32 → Int32 → HS → Option (Int32 × HS)
  | 0 => fun _ _ _ => none
  | n + 1 => fun y2 y3 σ => b_X3_turns_2 p1 p2 (f_X3_turns_2 p1 p2 n) y2 y3 σ
def f_X3_turns (p1 : Nat) (p2 : Nat) (x3 : Int32) (σ : HS) : Option (Int32 × HS) :=
  f_X3_turns_2 p1 p2 5000 x3 0 σ
def f_X3_rounds_62 (p1 : Nat) (k7 : Int32 → Int32 → Int32 → Int32 → HS → Option (Int32 × HS)) (y1 : Int32) (y2 : Int32) (y3 : Int32) (y4 : Int32) (σ : HS) : Option (Int32 × HS) :=
  Bd (y4 + 1) fun z1 =>
  k7 y1 y2 y3 z1 σ
def b_X3_rounds_32 (p1 : Nat) (k7 : Int32 → Int32 → Int32 → Int32 → HS → Option (Int32 × HS)) (k32 : Int32 → Int32 → Int32 → Int32 → Int32 → Int32 → HS → Option (Int32 × HS)) (y1 : Int32) (y2 : Int32) (y3 : Int32) (y4 : Int32) (y5 : Int32) (y6 : Int32) (σ : HS) : Option (Int32 × HS) :=
  if y6.toInt < y1.toInt then
    Bd (y2 ||| ((1 : Int32) <<< (y5 &&& 31))) fun z1 =>
    if 0 ≤ y5.toInt ∧ y5.toInt < (al p1 : Int) then
      if y1.toInt = 0 then none else
      Bd ((y5 + (σ.1 p1 y5.toInt.toNat)) - (y5 + (σ.1 p1 y5.toInt.toNat)) / y1 * y1) fun z2 =>
      Bd (y6 + 1) fun z3 =>
      k32 y1 z1 y3 y4 z2 z3 σ
    else none
  else
    f_X3_rounds_62 p1 k7 y1 y2 y3 y4 σ
def f_X3_rounds_32 (p1 : Nat) (k7 : Int32 → Int32 → Int32 → Int32 → HS → Option (Int32 × HS)) : Nat → Int32 → Int32 → Int32 → Int32 → Int32 → Int32 → HS → Option (Int32 × HS)
  | 0 => fun _ _ _ _ _ _ _ => none
  | n + 1 => fun y1 y2 y3 y4 y5 y6 σ => b_X3_rounds_32 p1 k7 (f_X3_rounds_32 p1 k7 n) y1 y2 y3 y4 y5 y6 σ
def b_X3_rounds_7 (p1 : Nat) (k7 : Int32 → Int32 → Int32 → Int32 → HS → Option (Int32 × HS)) (y1 : Int32) (y2 : Int32) (y3 : Int32) (y4 : Int32) (σ : HS) : Option (Int32 × HS) :=
  if y4.toInt < y1.toInt then
    if ((y2 >>> (y4 &&& 31)) &&& (1 : Int32)).toInt = 0 then
      Bd (y3 + 1) fun z1 =>
      f_X3_rounds_32 p1 k7 5000 y1 y2 z1 y4 y4 0 σ
    else
      f_X3_rounds_62 p1 k7 y1 y2 y3 y4 σ
  else
    some (y3, σ)
def f_X3_rounds_7 (p1 : Nat) : Nat → Int32 → Int32 → Int32 → Int32 → HS → Option (Int32 × HS)
  | 0 => fun _ _ _ _ _ => none
  | n + 1 => fun y1 y2 y3 y4 σ => b_X3_rounds_7 p1 (f_X3_rounds_7 p1 n) y1 y2 y3 y4 σ
def f_X3_rounds (p1 : Nat) (x2 : Int32) (σ : HS) : Option (Int32 × HS) :=
  f_X3_rounds_7 p1 5000 x2 0 0 0 σ
def f_X11_isHeight (x1 : Int32) (σ : HS) : Option (Int32 × HS) :=
  if x1.toInt < 0 then
    some (0, σ)
  else
    if 9 < x1.toInt then
      some (0, σ)
    else
      some (1, σ)
def f_X3_pairsToSwap_50 (p1 : Nat) (k4 : Int32 → Int32 → Int32 → HS → Option (Int32 × HS)) (k12 : Int32 → Int32 → Int32 → Int32 → HS → Option (Int32 × HS)) (y1 : Int32) (y2 : Int32) (y3 : Int32) (y4 : Int32) (σ : HS) : Option (Int32 × HS) :=
  Bd (y4 + 1) fun z1 =>
  k12 y1 y2 y3 z1 σ
def b_X3_pairsToSwap_12 (p1 : Nat) (k4 : Int32 → Int32 → Int32 → HS → Option (Int32 × HS)) (k12 : Int32 → Int32 → Int32 → Int32 → HS → Option (Int32 × HS)) (y1 : Int32) (y2 : Int32) (y3 : Int32) (y4 : Int32) (σ : HS) : Option (Int32 × HS) :=
  if y4.toInt < y3.toInt then
    if 0 ≤ y3.toInt ∧ y3.toInt < (al p1 : Int) then
      Cl (f_X11_isHeight (((σ.1 p1 y3.toInt.toNat) + y3) - y4) σ) fun r3 σ2 =>
      if r3.toInt = 0 then
        f_X3_pairsToSwap_50 p1 k4 k12 y1 y2 y3 y4 σ2
      else
        if 0 ≤ y4.toInt ∧ y4.toInt < (al p1 : Int) then
          Cl (f_X11_isHeight ((σ2.1 p1 y4.toInt.toNat) - (y3 - y4)) σ2) fun r5 σ4 =>
          if r5.toInt = 0 then
            f_X3_pairsToSwap_50 p1 k4 k12 y1 y2 y3 y4 σ4
          else
            Bd (y2 + 1) fun z6 =>
            f_X3_pairsToSwap_50 p1 k4 k12 y1 z6 y3 y4 σ4
        else none
    else none
  else
    Bd (y3 + 1) fun z1 =>
    k4 y1 y2 z1 σ
def f_X3_pairsToSwap_12 (p1 : Nat) (k4 : Int32 → Int32 → Int32 → HS → Option (Int32 × HS)) : Nat → Int32 → Int32 → Int32 → Int32 → HS → Option (Int32 × HS)
  | 0 => fun _ _ _ _ _ => none
  | n + 1 => fun y1 y2 y3 y4 σ => b_X3_pairsToSwap_12 p1 k4 (f_X3_pairsToSwap_12 p1 k4 n) y1 y2 y3 y4 σ
def b_X3_pairsToSwap_4 (p1 : Nat) (k4 : Int32 → Int32 → Int32 → HS → Option (Int32 × HS)) (y1 : Int32) (y2 : Int32) (y3 : Int32) (σ : HS) : Option (Int32 × HS) :=
  if y3.toInt < y1.toInt then
    f_X3_pairsToSwap_12 p1 k4 5000 y1 y2 y3 0 σ
  else
    some (y2, σ)
def f_X3_pairsToSwap_4 (p1 : Nat) : Nat → Int32 → Int32 → Int32 → HS → Option (Int32 × HS)
  | 0 => fun _ _ _ _ => none
  | n + 1 => fun y1 y2 y3 σ => b_X3_pairsToSwap_4 p1 (f_X3_pairsToSwap_4 p1 n) y1 y2 y3 σ
def f_X3_pairsToSwap (p1 : Nat) (x2 : Int32) (σ : HS) : Option (Int32 × HS) :=
  f_X3_pairsToSwap_4 p1 5000 x2 0 1 σ
def f_X3_landingBits_38 (p1 : Nat) (k4 : Int32 → Int32 → Int32 → HS → Option (Int32 × HS)) (y1 : Int32) (y2 : Int32) (y3 : Int32) (σ : HS) : Option (Int32 × HS) :=
  Bd (y3 + 1) fun z1 =>
  k4 y1 y2 z1 σ
def b_X3_landingBits_4 (p1 : Nat) (k4 : Int32 → Int32 → Int32 → HS → Option (Int32 × HS)) (y1 : Int32) (y2 : Int32) (y3 : Int32) (σ : HS) : Option (Int32 × HS) :=
  if 9 < y3.toInt then
    some (y2, σ)
  else
    if 0 < y1.toInt then
      Cl (f_J9_floorMod_7cf53 (-y3) y1 σ) fun r2 σ1 =>
      if 0 ≤ r2.toInt ∧ r2.toInt < (al p1 : Int) then
        Bd ((σ1.1 p1 r2.toInt.toNat) - y3) fun z3 =>
        if z3.toInt < 0 then
          f_X3_landingBits_38 p1 k4 y1 y2 y3 σ1
        else
          Bd (y2 ||| ((1 : Int32) <<< (z3 &&& 31))) fun z4 =>
          f_X3_landingBits_38 p1 k4 y1 z4 y3 σ1
      else none
    else
      some (y2, σ)
def f_X3_landingBits_4 (p1 : Nat) : Nat → Int32 → Int32 → Int32 → HS → Option (Int32 × HS)
  | 0 => fun _ _ _ _ => none
  | n + 1 => fun y1 y2 y3 σ => b_X3_landingBits_4 p1 (f_X3_landingBits_4 p1 n) y1 y2 y3 σ
def f_X3_landingBits (p1 : Nat) (x2 : Int32) (σ : HS) : Option (Int32 × HS) :=
  f_X3_landingBits_4 p1 5000 x2 0 1 σ
def f_X4_lookAt (p1 : Nat) (p2 : Nat) (x3 : Int32) (x4 : Int32) (σ : HS) : Option (HS) :=
  if 0 ≤ x3.toInt ∧ x3.toInt < 7 then
    Bd (hI σ 10 0 (σ.1 (p1 + 1) x3.toInt.toNat)) fun σ1 =>
    if 0 ≤ x3.toInt ∧ x3.toInt < 7 then
      Bd (hI σ1 10 1 (σ1.1 (p1 + 2) x3.toInt.toNat)) fun σ2 =>
      Bd (hI σ2 10 3 (σ2.1 p2 4)) fun σ3 =>
      Bd (hI σ3 10 4 (σ3.1 p2 5)) fun σ4 =>
      Bd (hI σ4 10 5 x4) fun σ5 =>
      Bd (hI σ5 10 6 x3) fun σ6 =>
      Bd (hI σ6 10 7 (σ6.1 p2 7)) fun σ7 =>
      Bd (hI σ7 10 8 ((σ7.1 p2 4) &&& (1 : Int32))) fun σ8 =>
      some σ8
    else none
  else none
def f_X4_asks (p1 : Nat) (x2 : Int32) (x3 : Int32) (σ : HS) : Option (Int32 × HS) :=
  Bd (hI σ 10 2 x3) fun σ1 =>
  if 0 ≤ x2.toInt ∧ x2.toInt < 4 then
    Cl (f_X1_answer (p1 + 11) (σ1.1 (p1 + 12) x2.toInt.toNat) σ1) fun r3 σ2 =>
    if x2.toInt = 1 then
      some ((if (0 : Int32) < (if r3 < (100 : Int32) then r3 else 100) then (if r3 < (100 : Int32) then r3 else 100) else 0), σ2)
    else
      if x2.toInt = 2 then
        some ((if ((-99) : Int32) < (if r3 < (99 : Int32) then r3 else 99) then (if r3 < (99 : Int32) then r3 else 99) else (-99)), σ2)
      else
        some ((if (0 : Int32) < (if r3 < (99 : Int32) then r3 else 99) then (if r3 < (99 : Int32) then r3 else 99) else 0), σ2)
  else none
def f_X4_stir (x1 : Int32) (x2 : Int32) (σ : HS) : Option (Int32 × HS) :=
  Bd (((x1 ^^^ x2) * (1103515245 : Int32)) + (12345 : Int32)) fun z1 =>
  some ((z1 ^^^ ((z1.toUInt32 >>> ((15 : Int32).toUInt32 &&& Int32.toUInt32 31)).toInt32)), σ)
def f_X4_lot (x1 : Int32) (x2 : Int32) (x3 : Int32) (σ : HS) : Option (Int32 × HS) :=
  Cl (f_X4_stir x2 125 σ) fun r2 σ1 =>
  Cl (f_X4_stir r2 x3 σ1) fun r4 σ3 =>
  if x1.toInt < 1 then
    some (0, σ3)
  else
    if x1.toInt = 0 then none else
    some ((((r4.toUInt32 >>> ((1 : Int32).toUInt32 &&& Int32.toUInt32 31)).toInt32) - ((r4.toUInt32 >>> ((1 : Int32).toUInt32 &&& Int32.toUInt32 31)).toInt32) / x1 * x1), σ3)
def f_X4_catchOne_43 (p1 : Nat) (p2 : Nat) (y3 : Int32) (y5 : Int32) (σ : HS) : Option (HS) :=
  Cl (f_X4_asks p1 3 0 σ) fun r2 σ1 =>
  Bd (hI σ1 p2 8 ((σ.1 p2 8) + r2)) fun σ3 =>
  Cl (f_X4_asks p1 0 y5 σ3) fun r5 σ4 =>
  Bd (hI σ4 p2 5 (if ((σ3.1 p2 5) + r5) < (999 : Int32) then ((σ3.1 p2 5) + r5) else 999)) fun σ6 =>
  Bd (hI σ6 p2 7 ((σ6.1 p2 7) + (1 : Int32))) fun σ7 =>
  if 0 ≤ y3.toInt ∧ y3.toInt < 7 then
    if 0 ≤ y3.toInt ∧ y3.toInt < 7 then
      Bd (hI σ7 (p2 + 3) y3.toInt.toNat ((σ7.1 (p2 + 3) y3.toInt.toNat) + (1 : Int32))) fun σ8 =>
      if 0 ≤ y3.toInt ∧ y3.toInt < 7 then
        Bd (hI σ8 (p2 + 2) y3.toInt.toNat y5) fun σ9 =>
        if y5.toInt = 0 then
          if 0 ≤ y3.toInt ∧ y3.toInt < 7 then
            Bd (hI σ9 (p2 + 1) y3.toInt.toNat 1) fun σ10 =>
            some σ10
          else none
        else
          some σ9
      else none
    else none
  else none
def f_X4_catchOne (p1 : Nat) (p2 : Nat) (x3 : Int32) (x4 : Int32) (σ : HS) : Option (HS) :=
  Cl (f_X0_heightBy p2 p1 σ) fun r2 σ1 =>
  if x4.toInt = (-1) then
    f_X4_catchOne_43 p1 p2 x3 r2 σ1
  else
    Cl (f_X4_lot 100 x4 ((4 : Int32) * (σ1.1 p2 4)) σ1) fun r4 σ3 =>
    Cl (f_X4_asks p1 1 r2 σ3) fun r6 σ5 =>
    if r4.toInt < r6.toInt then
      Cv (f_X0_drop p2 x3 σ5) fun σ7 =>
      some σ7
    else
      f_X4_catchOne_43 p1 p2 x3 r2 σ5
def f_X4_oneBeat_121 (p1 : Nat) (p2 : Nat) (k92 : Int32 → HS → Option (HS)) (y5 : Int32) (σ : HS) : Option (HS) :=
  Bd (y5 + 1) fun z1 =>
  k92 z1 σ
def b_X4_oneBeat_92 (p1 : Nat) (p2 : Nat) (k92 : Int32 → HS → Option (HS)) (y5 : Int32) (σ : HS) : Option (HS) :=
  if y5.toInt < (σ.1 p2 0).toInt then
    Cl (f_X0_isUp p2 y5 σ) fun r4 σ3 =>
    if r4.toInt = 0 then
      f_X4_oneBeat_121 p1 p2 k92 y5 σ3
    else
      if 0 ≤ y5.toInt ∧ y5.toInt < 7 then
        if 0 ≤ y5.toInt ∧ y5.toInt < 7 then
          Bd (hI σ3 (p2 + 2) y5.toInt.toNat ((σ3.1 (p2 + 2) y5.toInt.toNat) - (1 : Int32))) fun σ5 =>
          f_X4_oneBeat_121 p1 p2 k92 y5 σ5
        else none
      else none
  else
    Bd (hI σ p2 4 ((σ.1 p2 4) + (1 : Int32))) fun σ1 =>
    Bd (hI σ1 p2 11 (-1)) fun σ2 =>
    some σ2
def f_X4_oneBeat_92 (p1 : Nat) (p2 : Nat) : Nat → Int32 → HS → Option (HS)
  | 0 => fun _ _ => none
  | n + 1 => fun y5 σ => b_X4_oneBeat_92 p1 p2 (f_X4_oneBeat_92 p1 p2 n) y5 σ
def f_X4_oneBeat_89 (p1 : Nat) (p2 : Nat) (σ : HS) : Option (HS) :=
  f_X4_oneBeat_92 p1 p2 5000 0 σ
def f_X4_oneBeat_62 (p1 : Nat) (p2 : Nat) (k38 : Int32 → Int32 → Int32 → HS → Option (HS)) (y3 : Int32) (y4 : Int32) (y5 : Int32) (σ : HS) : Option (HS) :=
  Bd (y5 + 1) fun z1 =>
  k38 y3 y4 z1 σ
def b_X4_oneBeat_38 (p1 : Nat) (p2 : Nat) (k38 : Int32 → Int32 → Int32 → HS → Option (HS)) (y3 : Int32) (y4 : Int32) (y5 : Int32) (σ : HS) : Option (HS) :=
  if y5.toInt < (σ.1 p2 0).toInt then
    Cl (f_X0_landsNow p2 y5 σ) fun r8 σ7 =>
    if r8.toInt = 0 then
      f_X4_oneBeat_62 p1 p2 k38 y3 y4 y5 σ7
    else
      Cv (f_X0_drop p2 y5 σ7) fun σ9 =>
      f_X4_oneBeat_62 p1 p2 k38 y3 y4 y5 σ9
  else
    Cl (f_X0_howManyUp p2 σ) fun r2 σ1 =>
    Cv (f_X4_lookAt p1 p2 y4 r2 σ1) fun σ3 =>
    Cv (f_X4_catchOne p1 p2 y4 y3 σ3) fun σ5 =>
    f_X4_oneBeat_89 p1 p2 σ5
def f_X4_oneBeat_38 (p1 : Nat) (p2 : Nat) : Nat → Int32 → Int32 → Int32 → HS → Option (HS)
  | 0 => fun _ _ _ _ => none
  | n + 1 => fun y3 y4 y5 σ => b_X4_oneBeat_38 p1 p2 (f_X4_oneBeat_38 p1 p2 n) y3 y4 y5 σ
def f_X4_oneBeat (p1 : Nat) (p2 : Nat) (x3 : Int32) (σ : HS) : Option (HS) :=
  Cl (f_X0_firstLanding p2 σ) fun r2 σ1 =>
  if r2.toInt = (-1) then
    Bd (hI σ1 p2 5 (if (0 : Int32) < ((σ1.1 p2 5) - (σ1.1 p1 10)) then ((σ1.1 p2 5) - (σ1.1 p1 10)) else 0)) fun σ4 =>
    f_X4_oneBeat_89 p1 p2 σ4
  else
    Bd (r2 + (1 : Int32)) fun z3 =>
    f_X4_oneBeat_38 p1 p2 5000 x3 r2 z3 σ1
def b_X4_goOn_3 (p1 : Nat) (p2 : Nat) (k3 : Int32 → Int32 → Int32 → HS → Option (HS)) (y3 : Int32) (y4 : Int32) (y5 : Int32) (σ : HS) : Option (HS) :=
  if y5.toInt < y3.toInt then
    Cv (f_X4_oneBeat p1 p2 y4 σ) fun σ1 =>
    Bd (y5 + 1) fun z3 =>
    k3 y3 y4 z3 σ1
  else
    some σ
def f_X4_goOn_3 (p1 : Nat) (p2 : Nat) : Nat → Int32 → Int32 → Int32 → HS → Option (HS)
  | 0 => fun _ _ _ _ => none
  | n + 1 => fun y3 y4 y5 σ => b_X4_goOn_3 p1 p2 (f_X4_goOn_3 p1 p2 n) y3 y4 y5 σ
def f_X4_goOn (p1 : Nat) (p2 : Nat) (x3 : Int32) (x4 : Int32) (σ : HS) : Option (HS) :=
  f_X4_goOn_3 p1 p2 5000 x3 x4 0 σ
def f_X4_goOnSafely (p1 : Nat) (p2 : Nat) (σ : HS) : Option (HS) :=
  Cv (f_X4_oneBeat p1 p2 (-1) σ) fun σ1 =>
  some σ1
def f_X4_inForce (p1 : Nat) (p2 : Nat) (σ : HS) : Option (Int32 × HS) :=
  Cl (f_X0_firstLanding p2 σ) fun r2 σ1 =>
  if r2.toInt = (-1) then
    some (0, σ1)
  else
    Cl (f_X0_howManyUp p2 σ1) fun r4 σ3 =>
    Cl (f_X0_howManyLand p2 σ3) fun r6 σ5 =>
    Cv (f_X4_lookAt p1 p2 r2 (r4 - (r6 - (1 : Int32))) σ5) fun σ7 =>
    Cl (f_X4_asks p1 2 0 σ7) fun r10 σ9 =>
    some (r10, σ9)
def f_X5_clear (σ : HS) : Option (HS) :=
  Bd (hI σ 12 2 0) fun σ1 =>
  some σ1
def f_X5_keep (p1 : Nat) (σ : HS) : Option (HS) :=
  if 0 ≤ (σ.1 12 1).toInt ∧ (σ.1 12 1).toInt < 40 then
    Cv (f_X0_copy (76 + 4 * (σ.1 12 1).toInt.toNat) p1 σ) fun σ2 =>
    Bd (hI σ2 12 1 (((σ2.1 12 1) + (1 : Int32)) - ((σ2.1 12 1) + (1 : Int32)) / (40 : Int32) * (40 : Int32))) fun σ4 =>
    Bd (hI σ4 12 2 (if ((σ4.1 12 2) + (1 : Int32)) < (40 : Int32) then ((σ4.1 12 2) + (1 : Int32)) else 40)) fun σ5 =>
    some σ5
  else none
def f_X5_giveBack (p1 : Nat) (σ : HS) : Option (Int32 × HS) :=
  if (σ.1 12 2).toInt = 0 then
    some (0, σ)
  else
    Bd (hI σ 12 1 ((((σ.1 12 1) + (40 : Int32)) - (1 : Int32)) - (((σ.1 12 1) + (40 : Int32)) - (1 : Int32)) / (40 : Int32) * (40 : Int32))) fun σ1 =>
    if 0 ≤ (σ1.1 12 1).toInt ∧ (σ1.1 12 1).toInt < 40 then
      Cv (f_X0_copy p1 (76 + 4 * (σ1.1 12 1).toInt.toNat) σ1) fun σ3 =>
      Bd (hI σ3 12 2 ((σ3.1 12 2) - (1 : Int32))) fun σ5 =>
      some (1, σ5)
    else none
def f_X10_emit (t : Nat) (x1 : Int32) (σ : HS) : Option (HS) :=
  if (σ.1 t 8).toInt < (Int32.ofNat (al (t + 11))).toInt then
    if 0 ≤ (σ.1 t 8).toInt ∧ (σ.1 t 8).toInt < 408 then
      Bd (hI σ (t + 11) (σ.1 t 8).toInt.toNat x1) fun σ1 =>
      Bd (hI σ1 t 8 ((σ1.1 t 8) + (1 : Int32))) fun σ2 =>
      some σ2
    else none
  else
    some σ
def f_X10_clear_54 (t : Nat) (k27 : Int32 → HS → Option (HS)) (y1 : Int32) (v0 : Int32) (σ : HS) : Option (HS) :=
  Cv (f_X10_emit t v0 σ) fun σ1 =>
  Cv (f_X10_emit t (-6) σ1) fun σ3 =>
  Bd (y1 + 1) fun z5 =>
  k27 z5 σ3
def b_X10_clear_27 (t : Nat) (k27 : Int32 → HS → Option (HS)) (y1 : Int32) (σ : HS) : Option (HS) :=
  if y1.toInt < 4 then
    if 0 ≤ y1.toInt ∧ y1.toInt < 4 then
      Bd (hI σ (t + 12) y1.toInt.toNat (σ.1 t 8)) fun σ1 =>
      if y1.toInt = 2 then
        f_X10_clear_54 t k27 y1 (-11) σ1
      else
        f_X10_clear_54 t k27 y1 0 σ1
    else none
  else
    some σ
def f_X10_clear_27 (t : Nat) : Nat → Int32 → HS → Option (HS)
  | 0 => fun _ _ => none
  | n + 1 => fun y1 σ => b_X10_clear_27 t (f_X10_clear_27 t n) y1 σ
def f_X10_clear (t : Nat) (σ : HS) : Option (HS) :=
  Bd (hI σ t 0 0) fun σ1 =>
  Bd (hI σ1 t 4 0) fun σ2 =>
  Bd (hI σ2 t 10 1) fun σ3 =>
  Bd (hI σ3 t 11 0) fun σ4 =>
  Bd (hI σ4 t 8 0) fun σ5 =>
  f_X10_clear_27 t 5000 0 σ5
def f_X9_isLetter (x1 : Int32) (σ : HS) : Option (Int32 × HS) :=
  if x1.toInt < 97 then
    some (0, σ)
  else
    if 122 < x1.toInt then
      some (0, σ)
    else
      some (1, σ)
def f_X9_isDigit (x1 : Int32) (σ : HS) : Option (Int32 × HS) :=
  if x1.toInt < 48 then
    some (0, σ)
  else
    if 57 < x1.toInt then
      some (0, σ)
    else
      some (1, σ)
def f_J1_canEncode_9a6ad (x1 : Int32) (σ : HS) : Option (Int32 × HS) :=
  if x1.toInt < 0 then
    some (0, σ)
  else
    if 255 < x1.toInt then
      some (0, σ)
    else
      some (1, σ)
def b_J1_indexOfChar_4cfef_7 (k7 : Int32 → Int32 → Int32 → HS → Option (Int32 × HS)) (y3 : Int32) (y4 : Int32) (y5 : Int32) (σ : HS) : Option (Int32 × HS) :=
  if y5.toInt < y3.toInt then
    if 0 ≤ y5.toInt ∧ y5.toInt < 9 then
      if ((bytS.getD 1 []).getD y5.toInt.toNat 0).toInt = y4.toInt then
        some (y5, σ)
      else
        Bd (y5 + 1) fun z1 =>
        k7 y3 y4 z1 σ
    else none
  else
    some ((-1), σ)
def f_J1_indexOfChar_4cfef_7 : Nat → Int32 → Int32 → Int32 → HS → Option (Int32 × HS)
  | 0 => fun _ _ _ _ => none
  | n + 1 => fun y3 y4 y5 σ => b_J1_indexOfChar_4cfef_7 (f_J1_indexOfChar_4cfef_7 n) y3 y4 y5 σ
def f_J1_indexOfChar_4cfef (x2 : Int32) (x3 : Int32) (x4 : Int32) (σ : HS) : Option (Int32 × HS) :=
  Bd (x2.toInt8.toInt32) fun z1 =>
  f_J1_indexOfChar_4cfef_7 5000 x4 z1 x3 σ
def f_J1_indexOf_4cfef (x2 : Int32) (x3 : Int32) (x4 : Int32) (σ : HS) : Option (Int32 × HS) :=
  Cl (f_J1_canEncode_9a6ad x2 σ) fun r2 σ1 =>
  if r2.toInt = 0 then
    some ((-1), σ1)
  else
    Bd (if x3 < (0 : Int32) then 0 else x3) fun z3 =>
    Bd (if (Int32.ofNat (lenS.getD 1 0)) < x4 then (Int32.ofNat (lenS.getD 1 0)) else x4) fun z4 =>
    if z3.toInt < z4.toInt then
      Cl (f_J1_indexOfChar_4cfef x2 z3 z4 σ1) fun r6 σ5 =>
      some (r6, σ5)
    else
      some ((-1), σ1)
def f_J0_indexOf_7cf53 (x1 : Int32) (x2 : Int32) (σ : HS) : Option (Int32 × HS) :=
  if (1 : Int) = 0 then
    none
  else
    Cl (f_J1_indexOf_4cfef x1 x2 (Int32.ofNat (lenS.getD 1 0)) σ) fun r4 σ3 =>
    some (r4, σ3)
def f_J0_indexOf_0f7a4 (x1 : Int32) (σ : HS) : Option (Int32 × HS) :=
  Cl (f_J0_indexOf_7cf53 x1 0 σ) fun r2 σ1 =>
  some (r2, σ1)
def f_X9_cutInt_66 (y1 : Int32) (y2 : Int32) (y3 : Int64) (σ : HS) : Option (Int32 × HS) :=
  if 0 ≤ y1.toInt ∧ y1.toInt < 401 then
    Bd (hL σ 6 y1.toInt.toNat y3) fun σ1 =>
    if 4 < ((σ1.1 2 5) - y2).toInt then
      some (23, σ1)
    else
      some (21, σ1)
  else none
def b_X9_cutInt_7 (k7 : Int32 → Int32 → Int64 → HS → Option (Int32 × HS)) (y1 : Int32) (y2 : Int32) (y3 : Int64) (σ : HS) : Option (Int32 × HS) :=
  if (σ.1 2 5).toInt < (σ.1 2 1).toInt then
    if 0 ≤ (σ.1 2 5).toInt ∧ (σ.1 2 5).toInt < 2000 then
      Cl (f_X9_isDigit (σ.1 3 (σ.1 2 5).toInt.toNat) σ) fun r2 σ1 =>
      if r2.toInt = 0 then
        f_X9_cutInt_66 y1 y2 y3 σ1
      else
        if 0 ≤ (σ1.1 2 5).toInt ∧ (σ1.1 2 5).toInt < 2000 then
          Bd ((y3 * 10) + (((σ1.1 3 (σ1.1 2 5).toInt.toNat) - (48 : Int32)).toInt64)) fun z3 =>
          Bd (hI σ1 2 5 ((σ1.1 2 5) + (1 : Int32))) fun σ4 =>
          k7 y1 y2 z3 σ4
        else none
    else none
  else
    f_X9_cutInt_66 y1 y2 y3 σ
def f_X9_cutInt_7 : Nat → Int32 → Int32 → Int64 → HS → Option (Int32 × HS)
  | 0 => fun _ _ _ _ => none
  | n + 1 => fun y1 y2 y3 σ => b_X9_cutInt_7 (f_X9_cutInt_7 n) y1 y2 y3 σ
def f_X9_cutInt (x1 : Int32) (σ : HS) : Option (Int32 × HS) :=
  Bd (σ.1 2 5) fun z1 =>
  f_X9_cutInt_7 5000 x1 z1 0 σ
def f_X9_wordAt_85 (k8 : Int32 → Int32 → Int32 → Int32 → Int32 → HS → Option (Int32 × HS)) (y1 : Int32) (y2 : Int32) (y3 : Int32) (y4 : Int32) (y5 : Int32) (σ : HS) : Option (Int32 × HS) :=
  Bd (y5 + 1) fun z1 =>
  k8 y1 y2 y3 y4 z1 σ
def f_X9_wordAt_82 (k8 : Int32 → Int32 → Int32 → Int32 → Int32 → HS → Option (Int32 × HS)) (y1 : Int32) (y2 : Int32) (y3 : Int32) (y5 : Int32) (σ : HS) : Option (Int32 × HS) :=
  f_X9_wordAt_85 k8 y1 y2 y3 (-1) y5 σ
def b_X9_wordAt_8 (k8 : Int32 → Int32 → Int32 → Int32 → Int32 → HS → Option (Int32 × HS)) (y1 : Int32) (y2 : Int32) (y3 : Int32) (y4 : Int32) (y5 : Int32) (σ : HS) : Option (Int32 × HS) :=
  if y5.toInt < (Int32.ofNat (lenS.getD 0 0)).toInt then
    if 0 ≤ y5.toInt ∧ y5.toInt < 112 then
      Bd (chS 0 y5.toInt.toNat) fun z1 =>
      if z1.toInt = 32 then
        if y4.toInt = y2.toInt then
          some (y3, σ)
        else
          Bd (y3 + 1) fun z3 =>
          f_X9_wordAt_85 k8 y1 y2 z3 0 y5 σ
      else
        if y4.toInt < 0 then
          f_X9_wordAt_82 k8 y1 y2 y3 y5 σ
        else
          if y4.toInt < y2.toInt then
            if 0 ≤ (y1 + y4).toInt ∧ (y1 + y4).toInt < 2000 then
              if (σ.1 3 (y1 + y4).toInt.toNat).toInt = z1.toInt then
                Bd (y4 + 1) fun z2 =>
                f_X9_wordAt_85 k8 y1 y2 y3 z2 y5 σ
              else
                f_X9_wordAt_82 k8 y1 y2 y3 y5 σ
            else none
          else
            f_X9_wordAt_82 k8 y1 y2 y3 y5 σ
    else none
  else
    some ((-1), σ)
def f_X9_wordAt_8 : Nat → Int32 → Int32 → Int32 → Int32 → Int32 → HS → Option (Int32 × HS)
  | 0 => fun _ _ _ _ _ _ => none
  | n + 1 => fun y1 y2 y3 y4 y5 σ => b_X9_wordAt_8 (f_X9_wordAt_8 n) y1 y2 y3 y4 y5 σ
def f_X9_wordAt (x1 : Int32) (x2 : Int32) (σ : HS) : Option (Int32 × HS) :=
  f_X9_wordAt_8 5000 x1 x2 0 0 0 σ
def f_X9_cutWord_68 (y1 : Int32) (y2 : Int32) (y3 : Int64) (σ : HS) : Option (Int32 × HS) :=
  if 0 ≤ y1.toInt ∧ y1.toInt < 401 then
    Bd (hL σ 6 y1.toInt.toNat y3) fun σ1 =>
    Cl (f_X9_wordAt y2 ((σ1.1 2 5) - y2) σ1) fun r3 σ2 =>
    if r3.toInt = (-1) then
      if 8 < ((σ2.1 2 5) - y2).toInt then
        some (23, σ2)
      else
        some (20, σ2)
    else
      some (r3, σ2)
  else none
def b_X9_cutWord_7 (k7 : Int32 → Int32 → Int64 → HS → Option (Int32 × HS)) (y1 : Int32) (y2 : Int32) (y3 : Int64) (σ : HS) : Option (Int32 × HS) :=
  if (σ.1 2 5).toInt < (σ.1 2 1).toInt then
    if 0 ≤ (σ.1 2 5).toInt ∧ (σ.1 2 5).toInt < 2000 then
      Cl (f_X9_isLetter (σ.1 3 (σ.1 2 5).toInt.toNat) σ) fun r2 σ1 =>
      if r2.toInt = 0 then
        f_X9_cutWord_68 y1 y2 y3 σ1
      else
        if 0 ≤ (σ1.1 2 5).toInt ∧ (σ1.1 2 5).toInt < 2000 then
          Bd ((y3 * 27) + ((((σ1.1 3 (σ1.1 2 5).toInt.toNat) - (97 : Int32)) + (1 : Int32)).toInt64)) fun z3 =>
          Bd (hI σ1 2 5 ((σ1.1 2 5) + (1 : Int32))) fun σ4 =>
          k7 y1 y2 z3 σ4
        else none
    else none
  else
    f_X9_cutWord_68 y1 y2 y3 σ
def f_X9_cutWord_7 : Nat → Int32 → Int32 → Int64 → HS → Option (Int32 × HS)
  | 0 => fun _ _ _ _ => none
  | n + 1 => fun y1 y2 y3 σ => b_X9_cutWord_7 (f_X9_cutWord_7 n) y1 y2 y3 σ
def f_X9_cutWord (x1 : Int32) (σ : HS) : Option (Int32 × HS) :=
  Bd (σ.1 2 5) fun z1 =>
  f_X9_cutWord_7 5000 x1 z1 0 σ
def f_X9_cutOne (x1 : Int32) (σ : HS) : Option (Int32 × HS) :=
  if (σ.1 2 5).toInt < (σ.1 2 1).toInt then
    if 0 ≤ (σ.1 2 5).toInt ∧ (σ.1 2 5).toInt < 2000 then
      Cl (f_X9_isLetter (σ.1 3 (σ.1 2 5).toInt.toNat) σ) fun r2 σ1 =>
      if r2.toInt = 0 then
        if 0 ≤ (σ1.1 2 5).toInt ∧ (σ1.1 2 5).toInt < 2000 then
          Cl (f_X9_isDigit (σ1.1 3 (σ1.1 2 5).toInt.toNat) σ1) fun r4 σ3 =>
          if r4.toInt = 0 then
            if 0 ≤ (σ3.1 2 5).toInt ∧ (σ3.1 2 5).toInt < 2000 then
              Bd (σ3.1 3 (σ3.1 2 5).toInt.toNat) fun z5 =>
              Bd (hI σ3 2 5 ((σ3.1 2 5) + (1 : Int32))) fun σ6 =>
              Cl (f_J0_indexOf_0f7a4 ((z5.toUInt32 % 65536).toInt32) σ6) fun r8 σ7 =>
              if r8.toInt < 0 then
                some (23, σ7)
              else
                some (z5, σ7)
            else none
          else
            Cl (f_X9_cutInt x1 σ3) fun r10 σ9 =>
            some (r10, σ9)
        else none
      else
        Cl (f_X9_cutWord x1 σ1) fun r12 σ11 =>
        some (r12, σ11)
    else none
  else
    some (22, σ)
def f_X9_isBlank_24 (σ : HS) : Option (Int32 × HS) :=
  some (1, σ)
def f_X9_isBlank (x1 : Int32) (σ : HS) : Option (Int32 × HS) :=
  if x1.toInt = 9 then
    f_X9_isBlank_24 σ
  else
    if x1.toInt = 10 then
      f_X9_isBlank_24 σ
    else
      if x1.toInt = 13 then
        f_X9_isBlank_24 σ
      else
        if x1.toInt = 32 then
          f_X9_isBlank_24 σ
        else
          some (0, σ)
def f_X9_cut_67 (k9 : Int32 → Int32 → HS → Option (HS)) (y2 : Int32) (σ : HS) : Option (HS) :=
  if 0 ≤ y2.toInt ∧ y2.toInt < 401 then
    Bd (hI σ 5 y2.toInt.toNat (σ.1 2 5)) fun σ1 =>
    Cl (f_X9_cutOne y2 σ1) fun r3 σ2 =>
    if 0 ≤ y2.toInt ∧ y2.toInt < 401 then
      Bd (hI σ2 4 y2.toInt.toNat r3) fun σ4 =>
      Bd (y2 + 1) fun z5 =>
      k9 r3 z5 σ4
    else none
  else none
def b_X9_cut_28 (k9 : Int32 → Int32 → HS → Option (HS)) (k28 : Int32 → HS → Option (HS)) (y2 : Int32) (σ : HS) : Option (HS) :=
  if (σ.1 2 5).toInt < (σ.1 2 1).toInt then
    if 0 ≤ (σ.1 2 5).toInt ∧ (σ.1 2 5).toInt < 2000 then
      Cl (f_X9_isBlank (σ.1 3 (σ.1 2 5).toInt.toNat) σ) fun r2 σ1 =>
      if r2.toInt = 0 then
        f_X9_cut_67 k9 y2 σ1
      else
        Bd (hI σ1 2 5 ((σ1.1 2 5) + (1 : Int32))) fun σ3 =>
        k28 y2 σ3
    else none
  else
    f_X9_cut_67 k9 y2 σ
def f_X9_cut_28 (k9 : Int32 → Int32 → HS → Option (HS)) : Nat → Int32 → HS → Option (HS)
  | 0 => fun _ _ => none
  | n + 1 => fun y2 σ => b_X9_cut_28 k9 (f_X9_cut_28 k9 n) y2 σ
def b_X9_cut_9 (k9 : Int32 → Int32 → HS → Option (HS)) (y1 : Int32) (y2 : Int32) (σ : HS) : Option (HS) :=
  if 400 < y2.toInt then
    some σ
  else
    if y1.toInt = 22 then
      some σ
    else
      if y1.toInt = 23 then
        some σ
      else
        f_X9_cut_28 k9 5000 y2 σ
def f_X9_cut_9 : Nat → Int32 → Int32 → HS → Option (HS)
  | 0 => fun _ _ _ => none
  | n + 1 => fun y1 y2 σ => b_X9_cut_9 (f_X9_cut_9 n) y1 y2 σ
def f_X9_cut (σ : HS) : Option (HS) :=
  Bd (hI σ 2 5 0) fun σ1 =>
  f_X9_cut_9 5000 (-1) 0 σ1
def f_X6_refuse (x1 : Int32) (σ : HS) : Option (Int32 × HS) :=
  Bd (hI σ 1 2 x1) fun σ1 =>
  if 0 ≤ (σ1.1 1 5).toInt ∧ (σ1.1 1 5).toInt < 401 then
    Bd (hI σ1 1 1 (σ1.1 5 (σ1.1 1 5).toInt.toNat)) fun σ2 =>
    some (0, σ2)
  else none
def f_X6_take_31 (σ : HS) : Option (Int32 × HS) :=
  Cl (f_X6_refuse 2 σ) fun r2 σ1 =>
  if 0 ≤ r2.toInt ∧ r2.toInt ≤ 1 then
  some (r2, σ1)
  else none
def f_X6_take (x1 : Int32) (σ : HS) : Option (Int32 × HS) :=
  if (σ.1 1 6).toInt = x1.toInt then
    if (σ.1 1 5).toInt < 0 then
      f_X6_take_31 σ
    else
      if (σ.1 1 5).toInt < 400 then
        if 0 ≤ (σ.1 1 5).toInt ∧ (σ.1 1 5).toInt < 401 then
          Bd (hI σ 1 7 ((σ.2.1 6 (σ.1 1 5).toInt.toNat).toInt32)) fun σ1 =>
          Bd (hI σ1 1 5 ((σ1.1 1 5) + (1 : Int32))) fun σ2 =>
          if 0 ≤ (σ2.1 1 5).toInt ∧ (σ2.1 1 5).toInt < 401 then
            Bd (hI σ2 1 6 (σ2.1 4 (σ2.1 1 5).toInt.toNat)) fun σ3 =>
            some (1, σ3)
          else none
        else none
      else
        f_X6_take_31 σ
  else
    Cl (f_X6_refuse 1 σ) fun r5 σ4 =>
    if 0 ≤ r5.toInt ∧ r5.toInt ≤ 1 then
    some (r5, σ4)
    else none
def f_X6_noteLater (x1 : Int32) (σ : HS) : Option (HS) :=
  if (σ.1 1 3).toInt = 0 then
    Bd (hI σ 1 3 x1) fun σ1 =>
    if 0 ≤ (σ1.1 1 5).toInt ∧ (σ1.1 1 5).toInt < 401 then
      Bd (hI σ1 1 4 (σ1.1 5 (σ1.1 1 5).toInt.toNat)) fun σ2 =>
      some σ2
    else none
  else
    some σ
def f_X6_takeNumber_41 (σ : HS) : Option (Int32 × HS) :=
  Cl (f_X6_take 21 σ) fun r2 σ1 =>
  if 0 ≤ r2.toInt ∧ r2.toInt ≤ 1 then
  some (r2, σ1)
  else none
def f_X6_takeNumber_36 (σ : HS) : Option (Int32 × HS) :=
  Cv (f_X6_noteLater 5 σ) fun σ1 =>
  f_X6_takeNumber_41 σ1
def f_X6_takeNumber (x1 : Int32) (x2 : Int32) (σ : HS) : Option (Int32 × HS) :=
  if 0 ≤ (σ.1 1 5).toInt ∧ (σ.1 1 5).toInt < 401 then
    Bd (σ.2.1 6 (σ.1 1 5).toInt.toNat) fun z1 =>
    if (σ.1 1 6).toInt = 21 then
      if (lg_cmp z1 (x1.toInt64)).toInt < 0 then
        f_X6_takeNumber_36 σ
      else
        if 0 < (lg_cmp z1 (x2.toInt64)).toInt then
          f_X6_takeNumber_36 σ
        else
          f_X6_takeNumber_41 σ
    else
      f_X6_takeNumber_41 σ
  else none
def f_X6_unit_88 (fE : Nat → Int32 → HS → Option (Int32 × HS)) (p1 : Nat) (y2 : Int32) (σ : HS) : Option (Int32 × HS) :=
  Cl (f_X6_take 40 σ) fun r2 σ1 =>
  if r2.toInt = 0 then
    some (0, σ1)
  else
    Cl (fE p1 (y2 + (1 : Int32)) σ1) fun r4 σ3 =>
    if r4.toInt = 0 then
      some (0, σ3)
    else
      Cl (f_X6_take 41 σ3) fun r6 σ5 =>
      if r6.toInt = 0 then
        some (0, σ5)
      else
        some (1, σ5)
def f_X6_unit_67 (fE : Nat → Int32 → HS → Option (Int32 × HS)) (p1 : Nat) (y2 : Int32) (σ : HS) : Option (Int32 × HS) :=
  if (σ.1 1 6).toInt = 40 then
    if y2.toInt < 6 then
      f_X6_unit_88 fE p1 y2 σ
    else
      Cl (f_X6_refuse 2 σ) fun r2 σ1 =>
      if 0 ≤ r2.toInt ∧ r2.toInt ≤ 1 then
      some (r2, σ1)
      else none
  else
    f_X6_unit_88 fE p1 y2 σ
def f_X6_unit (fE : Nat → Int32 → HS → Option (Int32 × HS)) (p1 : Nat) (x2 : Int32) (σ : HS) : Option (Int32 × HS) :=
  if (σ.1 1 6).toInt = 21 then
    Cl (f_X6_take 21 σ) fun r6 σ5 =>
    Cv (f_X10_emit p1 (σ5.1 1 7) σ5) fun σ7 =>
    if 0 ≤ r6.toInt ∧ r6.toInt ≤ 1 then
    some (r6, σ7)
    else none
  else
    if (σ.1 1 6).toInt < 11 then
      f_X6_unit_67 fE p1 x2 σ
    else
      if 19 < (σ.1 1 6).toInt then
        f_X6_unit_67 fE p1 x2 σ
      else
        Cv (f_X10_emit p1 (((-10) : Int32) - ((σ.1 1 6) - (11 : Int32))) σ) fun σ1 =>
        Cl (f_X6_take (σ1.1 1 6) σ1) fun r4 σ3 =>
        if 0 ≤ r4.toInt ∧ r4.toInt ≤ 1 then
        some (r4, σ3)
        else none
def f_X6_product_85 (fE : Nat → Int32 → HS → Option (Int32 × HS)) (p1 : Nat) (k10 : Int32 → Int32 → Int32 → HS → Option (Int32 × HS)) (y2 : Int32) (y3 : Int32) (y4 : Int32) (v0 : Int32) (σ : HS) : Option (Int32 × HS) :=
  Cv (f_X10_emit p1 v0 σ) fun σ1 =>
  Bd (y4 + 1) fun z3 =>
  k10 y2 y3 z3 σ1
def f_X6_product_69 (fE : Nat → Int32 → HS → Option (Int32 × HS)) (p1 : Nat) (k10 : Int32 → Int32 → Int32 → HS → Option (Int32 × HS)) (y2 : Int32) (y4 : Int32) (y5 : Int32) (v0 : Int32) (σ : HS) : Option (Int32 × HS) :=
  if y5.toInt = 42 then
    f_X6_product_85 fE p1 k10 y2 v0 y4 (-3) σ
  else
    f_X6_product_85 fE p1 k10 y2 v0 y4 (-4) σ
def f_X6_product_68 (fE : Nat → Int32 → HS → Option (Int32 × HS)) (p1 : Nat) (k10 : Int32 → Int32 → Int32 → HS → Option (Int32 × HS)) (y2 : Int32) (y4 : Int32) (y5 : Int32) (σ : HS) : Option (Int32 × HS) :=
  f_X6_product_69 fE p1 k10 y2 y4 y5 0 σ
def f_X6_product_32 (fE : Nat → Int32 → HS → Option (Int32 × HS)) (p1 : Nat) (k10 : Int32 → Int32 → Int32 → HS → Option (Int32 × HS)) (y2 : Int32) (y3 : Int32) (y4 : Int32) (σ : HS) : Option (Int32 × HS) :=
  if y4.toInt < 400 then
    Bd (σ.1 1 6) fun z1 =>
    Cl (f_X6_take z1 σ) fun r3 σ2 =>
    if r3.toInt = 0 then
      f_X6_product_68 fE p1 k10 y2 y4 z1 σ2
    else
      Cl (f_X6_unit fE p1 y2 σ2) fun r5 σ4 =>
      if r5.toInt = 0 then
        f_X6_product_68 fE p1 k10 y2 y4 z1 σ4
      else
        f_X6_product_69 fE p1 k10 y2 y4 z1 1 σ4
  else
    if 0 ≤ y3.toInt ∧ y3.toInt ≤ 1 then
    some (y3, σ)
    else none
def b_X6_product_10 (fE : Nat → Int32 → HS → Option (Int32 × HS)) (p1 : Nat) (k10 : Int32 → Int32 → Int32 → HS → Option (Int32 × HS)) (y2 : Int32) (y3 : Int32) (y4 : Int32) (σ : HS) : Option (Int32 × HS) :=
  if y3.toInt = 0 then
    if 0 ≤ y3.toInt ∧ y3.toInt ≤ 1 then
    some (y3, σ)
    else none
  else
    if (σ.1 1 6).toInt = 42 then
      f_X6_product_32 fE p1 k10 y2 y3 y4 σ
    else
      if (σ.1 1 6).toInt = 47 then
        f_X6_product_32 fE p1 k10 y2 y3 y4 σ
      else
        if 0 ≤ y3.toInt ∧ y3.toInt ≤ 1 then
        some (y3, σ)
        else none
def f_X6_product_10 (fE : Nat → Int32 → HS → Option (Int32 × HS)) (p1 : Nat) : Nat → Int32 → Int32 → Int32 → HS → Option (Int32 × HS)
  | 0 => fun _ _ _ _ => none
  | n + 1 => fun y2 y3 y4 σ => b_X6_product_10 fE p1 (f_X6_product_10 fE p1 n) y2 y3 y4 σ
def f_X6_product (fE : Nat → Int32 → HS → Option (Int32 × HS)) (p1 : Nat) (x2 : Int32) (σ : HS) : Option (Int32 × HS) :=
  Cl (f_X6_unit fE p1 x2 σ) fun r2 σ1 =>
  f_X6_product_10 fE p1 5000 x2 r2 0 σ1
def f_X6_expression_84 (fE : Nat → Int32 → HS → Option (Int32 × HS)) (p1 : Nat) (k10 : Int32 → Int32 → Int32 → HS → Option (Int32 × HS)) (y2 : Int32) (y3 : Int32) (y4 : Int32) (v0 : Int32) (σ : HS) : Option (Int32 × HS) :=
  Cv (f_X10_emit p1 v0 σ) fun σ1 =>
  Bd (y4 + 1) fun z3 =>
  k10 y2 y3 z3 σ1
def f_X6_expression_69 (fE : Nat → Int32 → HS → Option (Int32 × HS)) (p1 : Nat) (k10 : Int32 → Int32 → Int32 → HS → Option (Int32 × HS)) (y2 : Int32) (y4 : Int32) (y5 : Int32) (v0 : Int32) (σ : HS) : Option (Int32 × HS) :=
  if y5.toInt = 43 then
    f_X6_expression_84 fE p1 k10 y2 v0 y4 (-1) σ
  else
    f_X6_expression_84 fE p1 k10 y2 v0 y4 (-2) σ
def f_X6_expression_68 (fE : Nat → Int32 → HS → Option (Int32 × HS)) (p1 : Nat) (k10 : Int32 → Int32 → Int32 → HS → Option (Int32 × HS)) (y2 : Int32) (y4 : Int32) (y5 : Int32) (σ : HS) : Option (Int32 × HS) :=
  f_X6_expression_69 fE p1 k10 y2 y4 y5 0 σ
def f_X6_expression_32 (fE : Nat → Int32 → HS → Option (Int32 × HS)) (p1 : Nat) (k10 : Int32 → Int32 → Int32 → HS → Option (Int32 × HS)) (y2 : Int32) (y3 : Int32) (y4 : Int32) (σ : HS) : Option (Int32 × HS) :=
  if y4.toInt < 400 then
    Bd (σ.1 1 6) fun z1 =>
    Cl (f_X6_take z1 σ) fun r3 σ2 =>
    if r3.toInt = 0 then
      f_X6_expression_68 fE p1 k10 y2 y4 z1 σ2
    else
      Cl (f_X6_product fE p1 y2 σ2) fun r5 σ4 =>
      if r5.toInt = 0 then
        f_X6_expression_68 fE p1 k10 y2 y4 z1 σ4
      else
        f_X6_expression_69 fE p1 k10 y2 y4 z1 1 σ4
  else
    if 0 ≤ y3.toInt ∧ y3.toInt ≤ 1 then
    some (y3, σ)
    else none
def b_X6_expression_10 (fE : Nat → Int32 → HS → Option (Int32 × HS)) (p1 : Nat) (k10 : Int32 → Int32 → Int32 → HS → Option (Int32 × HS)) (y2 : Int32) (y3 : Int32) (y4 : Int32) (σ : HS) : Option (Int32 × HS) :=
  if y3.toInt = 0 then
    if 0 ≤ y3.toInt ∧ y3.toInt ≤ 1 then
    some (y3, σ)
    else none
  else
    if (σ.1 1 6).toInt = 43 then
      f_X6_expression_32 fE p1 k10 y2 y3 y4 σ
    else
      if (σ.1 1 6).toInt = 45 then
        f_X6_expression_32 fE p1 k10 y2 y3 y4 σ
      else
        if 0 ≤ y3.toInt ∧ y3.toInt ≤ 1 then
        some (y3, σ)
        else none
def f_X6_expression_10 (fE : Nat → Int32 → HS → Option (Int32 × HS)) (p1 : Nat) : Nat → Int32 → Int32 → Int32 → HS → Option (Int32 × HS)
  | 0 => fun _ _ _ _ => none
  | n + 1 => fun y2 y3 y4 σ => b_X6_expression_10 fE p1 (f_X6_expression_10 fE p1 n) y2 y3 y4 σ
def g_X6_expression (fE : Nat → Int32 → HS → Option (Int32 × HS)) (p1 : Nat) (x2 : Int32) (σ : HS) : Option (Int32 × HS) :=
  Cl (f_X6_product fE p1 x2 σ) fun r2 σ1 =>
  f_X6_expression_10 fE p1 5000 x2 r2 0 σ1
def f_X6_expression : Nat → Nat → Int32 → HS → Option (Int32 × HS)
  | 0 => fun _ _ _ => none
  | n + 1 => g_X6_expression (f_X6_expression n)
def f_X6_condition (p1 : Nat) (σ : HS) : Option (Int32 × HS) :=
  Cl (f_X6_take 8 σ) fun r2 σ1 =>
  if r2.toInt = 0 then
    some (0, σ1)
  else
    Cl (f_X6_expression 8 p1 0 σ1) fun r4 σ3 =>
    if r4.toInt = 0 then
      some (0, σ3)
    else
      Cl (f_X6_take 60 σ3) fun r6 σ5 =>
      if r6.toInt = 0 then
        some (0, σ5)
      else
        Cl (f_X6_expression 8 p1 0 σ5) fun r8 σ7 =>
        if r8.toInt = 0 then
          some (0, σ7)
        else
          Cl (f_X6_take 9 σ7) fun r10 σ9 =>
          if r10.toInt = 0 then
            some (0, σ9)
          else
            Cv (f_X10_emit p1 (-5) σ9) fun σ11 =>
            Bd (σ11.1 p1 8) fun z13 =>
            Cv (f_X10_emit p1 0 σ11) fun σ14 =>
            Cl (f_X6_expression 8 p1 0 σ14) fun r17 σ16 =>
            if r17.toInt = 0 then
              some (0, σ16)
            else
              Cl (f_X6_take 10 σ16) fun r19 σ18 =>
              if r19.toInt = 0 then
                some (0, σ18)
              else
                Cv (f_X10_emit p1 (-6) σ18) fun σ20 =>
                if z13.toInt < (Int32.ofNat (al (p1 + 11))).toInt then
                  if 0 ≤ z13.toInt ∧ z13.toInt < 408 then
                    Bd (hI σ20 (p1 + 11) z13.toInt.toNat (σ20.1 p1 8)) fun σ22 =>
                    some (1, σ22)
                  else none
                else
                  some (1, σ20)
def f_X6_tellingLaw_63 (p1 : Nat) (σ : HS) : Option (Int32 × HS) :=
  if (σ.1 1 6).toInt = 8 then
    Cl (f_X6_refuse 2 σ) fun r8 σ7 =>
    if 0 ≤ r8.toInt ∧ r8.toInt ≤ 1 then
    some (r8, σ7)
    else none
  else
    Cl (f_X6_expression 8 p1 0 σ) fun r2 σ1 =>
    if r2.toInt = 0 then
      some (0, σ1)
    else
      Cv (f_X10_emit p1 (-6) σ1) fun σ3 =>
      Cl (f_X6_take 59 σ3) fun r6 σ5 =>
      if 0 ≤ r6.toInt ∧ r6.toInt ≤ 1 then
      some (r6, σ5)
      else none
def b_X6_tellingLaw_33 (p1 : Nat) (k33 : Int32 → HS → Option (Int32 × HS)) (y3 : Int32) (σ : HS) : Option (Int32 × HS) :=
  if (σ.1 1 6).toInt = 8 then
    if y3.toInt < 4 then
      Cl (f_X6_condition p1 σ) fun r2 σ1 =>
      if r2.toInt = 0 then
        some (0, σ1)
      else
        Bd (y3 + 1) fun z3 =>
        k33 z3 σ1
    else
      f_X6_tellingLaw_63 p1 σ
  else
    f_X6_tellingLaw_63 p1 σ
def f_X6_tellingLaw_33 (p1 : Nat) : Nat → Int32 → HS → Option (Int32 × HS)
  | 0 => fun _ _ => none
  | n + 1 => fun y3 σ => b_X6_tellingLaw_33 p1 (f_X6_tellingLaw_33 p1 n) y3 σ
def f_X6_tellingLaw (p1 : Nat) (x2 : Int32) (σ : HS) : Option (Int32 × HS) :=
  if 0 ≤ (x2 - (2 : Int32)).toInt ∧ (x2 - (2 : Int32)).toInt < 4 then
    Bd (hI σ (p1 + 12) (x2 - (2 : Int32)).toInt.toNat (σ.1 p1 8)) fun σ1 =>
    Cl (f_X6_take x2 σ1) fun r3 σ2 =>
    if r3.toInt = 0 then
      some (0, σ2)
    else
      Cl (f_X6_take 61 σ2) fun r5 σ4 =>
      if r5.toInt = 0 then
        some (0, σ4)
      else
        f_X6_tellingLaw_33 p1 5000 0 σ4
  else none
def f_X6_takeName_86 (σ : HS) : Option (Int32 × HS) :=
  Cl (f_X6_take 20 σ) fun r2 σ1 =>
  if 0 ≤ r2.toInt ∧ r2.toInt ≤ 1 then
  some (r2, σ1)
  else none
def f_X6_takeName_48 (k15 : Int64 → Int32 → HS → Option (Int32 × HS)) (y1 : Int64) (y3 : Int32) (σ : HS) : Option (Int32 × HS) :=
  Bd (y3 + 1) fun z1 =>
  k15 y1 z1 σ
def b_X6_takeName_15 (k15 : Int64 → Int32 → HS → Option (Int32 × HS)) (y1 : Int64) (y3 : Int32) (σ : HS) : Option (Int32 × HS) :=
  if y3.toInt < (σ.1 1 9).toInt then
    if (σ.1 1 6).toInt = 20 then
      if 0 ≤ y3.toInt ∧ y3.toInt < 12 then
        if (lg_cmp (σ.2.1 7 y3.toInt.toNat) y1).toInt = 0 then
          Cv (f_X6_noteLater 3 σ) fun σ3 =>
          f_X6_takeName_48 k15 y1 y3 σ3
        else
          f_X6_takeName_48 k15 y1 y3 σ
      else none
    else
      f_X6_takeName_48 k15 y1 y3 σ
  else
    if (σ.1 1 9).toInt < 12 then
      if 0 ≤ (σ.1 1 9).toInt ∧ (σ.1 1 9).toInt < 12 then
        Bd (hL σ 7 (σ.1 1 9).toInt.toNat y1) fun σ1 =>
        Bd (hI σ1 1 9 ((σ1.1 1 9) + (1 : Int32))) fun σ2 =>
        f_X6_takeName_86 σ2
      else none
    else
      f_X6_takeName_86 σ
def f_X6_takeName_15 : Nat → Int64 → Int32 → HS → Option (Int32 × HS)
  | 0 => fun _ _ _ => none
  | n + 1 => fun y1 y3 σ => b_X6_takeName_15 (f_X6_takeName_15 n) y1 y3 σ
def f_X6_takeName (σ : HS) : Option (Int32 × HS) :=
  if 0 ≤ (σ.1 1 5).toInt ∧ (σ.1 1 5).toInt < 401 then
    Bd (σ.2.1 6 (σ.1 1 5).toInt.toNat) fun z1 =>
    f_X6_takeName_15 5000 z1 0 σ
  else none
def f_X6_tellingPattern_102 (p1 : Nat) (y2 : Int32) (y3 : Int32) (σ : HS) : Option (Int32 × HS) :=
  if (σ.1 1 6).toInt = 21 then
    Cl (f_X6_refuse 2 σ) fun r6 σ5 =>
    if 0 ≤ r6.toInt ∧ r6.toInt ≤ 1 then
    some (r6, σ5)
    else none
  else
    if 0 ≤ y2.toInt ∧ y2.toInt < 5 then
      Bd (hI σ (p1 + 10) y2.toInt.toNat y3) fun σ1 =>
      Bd (hI σ1 p1 4 ((σ1.1 p1 4) + (1 : Int32))) fun σ2 =>
      Cl (f_X6_take 59 σ2) fun r4 σ3 =>
      if 0 ≤ r4.toInt ∧ r4.toInt ≤ 1 then
      some (r4, σ3)
      else none
    else none
def b_X6_tellingPattern_57 (p1 : Nat) (k57 : Int32 → Int32 → HS → Option (Int32 × HS)) (y2 : Int32) (y3 : Int32) (σ : HS) : Option (Int32 × HS) :=
  if (σ.1 1 6).toInt = 21 then
    if y3.toInt < 8 then
      Cl (f_X6_takeNumber 0 9 σ) fun r2 σ1 =>
      if r2.toInt = 0 then
        some (0, σ1)
      else
        if 0 ≤ y2.toInt ∧ y2.toInt < 5 then
          if 0 ≤ y3.toInt ∧ y3.toInt < 8 then
            Bd (hI σ1 (p1 + 5 + y2.toInt.toNat) y3.toInt.toNat (σ1.1 1 7)) fun σ4 =>
            Bd (y3 + 1) fun z5 =>
            k57 y2 z5 σ4
          else none
        else none
    else
      f_X6_tellingPattern_102 p1 y2 y3 σ
  else
    f_X6_tellingPattern_102 p1 y2 y3 σ
def f_X6_tellingPattern_57 (p1 : Nat) : Nat → Int32 → Int32 → HS → Option (Int32 × HS)
  | 0 => fun _ _ _ => none
  | n + 1 => fun y2 y3 σ => b_X6_tellingPattern_57 p1 (f_X6_tellingPattern_57 p1 n) y2 y3 σ
def f_X6_tellingPattern (p1 : Nat) (σ : HS) : Option (Int32 × HS) :=
  Bd (σ.1 p1 4) fun z1 =>
  if z1.toInt < 5 then
    Cl (f_X6_take 1 σ) fun r3 σ2 =>
    if r3.toInt = 0 then
      some (0, σ2)
    else
      Cl (f_X6_takeName σ2) fun r5 σ4 =>
      if r5.toInt = 0 then
        some (0, σ4)
      else
        Cl (f_X6_takeNumber 0 9 σ4) fun r7 σ6 =>
        if r7.toInt = 0 then
          some (0, σ6)
        else
          if 0 ≤ z1.toInt ∧ z1.toInt < 5 then
            Bd (hI σ6 (p1 + 5 + z1.toInt.toNat) 0 (σ6.1 1 7)) fun σ9 =>
            f_X6_tellingPattern_57 p1 5000 z1 1 σ9
          else none
  else
    Cl (f_X6_refuse 2 σ) fun r11 σ10 =>
    if 0 ≤ r11.toInt ∧ r11.toInt ≤ 1 then
    some (r11, σ10)
    else none
def f_X6_tellingThing (p1 : Nat) (σ : HS) : Option (Int32 × HS) :=
  Bd (σ.1 p1 0) fun z1 =>
  if z1.toInt < 7 then
    Cl (f_X6_take 0 σ) fun r3 σ2 =>
    if r3.toInt = 0 then
      some (0, σ2)
    else
      Cl (f_X6_takeName σ2) fun r5 σ4 =>
      if r5.toInt = 0 then
        some (0, σ4)
      else
        Cl (f_X6_takeNumber 1 9 σ4) fun r7 σ6 =>
        if r7.toInt = 0 then
          some (0, σ6)
        else
          if 0 ≤ z1.toInt ∧ z1.toInt < 7 then
            Bd (hI σ6 (p1 + 1) z1.toInt.toNat (σ6.1 1 7)) fun σ8 =>
            Cl (f_X6_takeNumber 0 9 σ8) fun r10 σ9 =>
            if r10.toInt = 0 then
              some (0, σ9)
            else
              if 0 ≤ z1.toInt ∧ z1.toInt < 7 then
                Bd (hI σ9 (p1 + 2) z1.toInt.toNat (σ9.1 1 7)) fun σ11 =>
                Cl (f_X6_takeNumber 0 9 σ11) fun r13 σ12 =>
                if r13.toInt = 0 then
                  some (0, σ12)
                else
                  if 0 ≤ z1.toInt ∧ z1.toInt < 7 then
                    Bd (hI σ12 (p1 + 3) z1.toInt.toNat (σ12.1 1 7)) fun σ14 =>
                    Bd (hI σ14 p1 0 ((σ14.1 p1 0) + (1 : Int32))) fun σ15 =>
                    Cl (f_X6_take 59 σ15) fun r17 σ16 =>
                    if 0 ≤ r17.toInt ∧ r17.toInt ≤ 1 then
                    some (r17, σ16)
                    else none
                  else none
              else none
          else none
  else
    Cl (f_X6_refuse 2 σ) fun r19 σ18 =>
    if 0 ≤ r19.toInt ∧ r19.toInt ≤ 1 then
    some (r19, σ18)
    else none
def f_X6_telling_148 (p1 : Nat) (v0 : Int32) (σ : HS) : Option (Int32 × HS) :=
  Bd (hI σ p1 11 (σ.1 1 7)) fun σ1 =>
  if v0.toInt = 0 then
    some (0, σ1)
  else
    Cl (f_X6_take 59 σ1) fun r3 σ2 =>
    if r3.toInt = 0 then
      some (0, σ2)
    else
      some (1, σ2)
def f_X6_telling_147 (p1 : Nat) (σ : HS) : Option (Int32 × HS) :=
  f_X6_telling_148 p1 0 σ
def f_X6_telling_86 (p1 : Nat) (v0 : Int32) (σ : HS) : Option (Int32 × HS) :=
  Bd (hI σ p1 10 (σ.1 1 7)) fun σ1 =>
  if v0.toInt = 0 then
    some (0, σ1)
  else
    Cl (f_X6_take 59 σ1) fun r3 σ2 =>
    if r3.toInt = 0 then
      some (0, σ2)
    else
      some (1, σ2)
def f_X6_telling_85 (p1 : Nat) (σ : HS) : Option (Int32 × HS) :=
  f_X6_telling_86 p1 0 σ
def f_X6_telling_53 (p1 : Nat) (σ : HS) : Option (Int32 × HS) :=
  if (σ.1 1 6).toInt = 6 then
    Cl (f_X6_take 6 σ) fun r8 σ7 =>
    if r8.toInt = 0 then
      f_X6_telling_85 p1 σ7
    else
      Cl (f_X6_takeNumber 0 99 σ7) fun r10 σ9 =>
      if r10.toInt = 0 then
        f_X6_telling_85 p1 σ9
      else
        f_X6_telling_86 p1 1 σ9
  else
    if (σ.1 1 6).toInt = 7 then
      Cl (f_X6_take 7 σ) fun r4 σ3 =>
      if r4.toInt = 0 then
        f_X6_telling_147 p1 σ3
      else
        Cl (f_X6_takeNumber 0 9999 σ3) fun r6 σ5 =>
        if r6.toInt = 0 then
          f_X6_telling_147 p1 σ5
        else
          f_X6_telling_148 p1 1 σ5
    else
      Cl (f_X6_refuse 1 σ) fun r2 σ1 =>
      if 0 ≤ r2.toInt ∧ r2.toInt ≤ 1 then
      some (r2, σ1)
      else none
def f_X6_telling (p1 : Nat) (σ : HS) : Option (Int32 × HS) :=
  if (σ.1 1 6).toInt = 0 then
    Cl (f_X6_tellingThing p1 σ) fun r6 σ5 =>
    if 0 ≤ r6.toInt ∧ r6.toInt ≤ 1 then
    some (r6, σ5)
    else none
  else
    if (σ.1 1 6).toInt = 1 then
      Cl (f_X6_tellingPattern p1 σ) fun r4 σ3 =>
      if 0 ≤ r4.toInt ∧ r4.toInt ≤ 1 then
      some (r4, σ3)
      else none
    else
      if (σ.1 1 6).toInt < 2 then
        f_X6_telling_53 p1 σ
      else
        if 5 < (σ.1 1 6).toInt then
          f_X6_telling_53 p1 σ
        else
          Cl (f_X6_tellingLaw p1 (σ.1 1 6) σ) fun r2 σ1 =>
          if 0 ≤ r2.toInt ∧ r2.toInt ≤ 1 then
          some (r2, σ1)
          else none
def f_X6_readInto_120 (p1 : Nat) (σ : HS) : Option (Int32 × HS) :=
  some ((σ.1 1 2), σ)
def f_X6_readInto_90 (p1 : Nat) (σ : HS) : Option (Int32 × HS) :=
  if (σ.1 1 2).toInt = 0 then
    if (σ.1 1 3).toInt = 0 then
      f_X6_readInto_120 p1 σ
    else
      Bd (hI σ 1 2 (σ.1 1 3)) fun σ1 =>
      Bd (hI σ1 1 1 (σ1.1 1 4)) fun σ2 =>
      f_X6_readInto_120 p1 σ2
  else
    f_X6_readInto_120 p1 σ
def b_X6_readInto_58 (p1 : Nat) (k58 : Int32 → Int32 → HS → Option (Int32 × HS)) (y2 : Int32) (y3 : Int32) (σ : HS) : Option (Int32 × HS) :=
  if y2.toInt = 0 then
    f_X6_readInto_90 p1 σ
  else
    if (σ.1 1 6).toInt = 22 then
      f_X6_readInto_90 p1 σ
    else
      if 400 < y3.toInt then
        f_X6_readInto_90 p1 σ
      else
        Cl (f_X6_telling p1 σ) fun r2 σ1 =>
        Bd (y3 + 1) fun z3 =>
        k58 r2 z3 σ1
def f_X6_readInto_58 (p1 : Nat) : Nat → Int32 → Int32 → HS → Option (Int32 × HS)
  | 0 => fun _ _ _ => none
  | n + 1 => fun y2 y3 σ => b_X6_readInto_58 p1 (f_X6_readInto_58 p1 n) y2 y3 σ
def f_X6_readInto (p1 : Nat) (σ : HS) : Option (Int32 × HS) :=
  Cv (f_X10_clear p1 σ) fun σ1 =>
  Bd (hI σ1 1 9 0) fun σ3 =>
  Bd (hI σ3 1 2 0) fun σ4 =>
  Bd (hI σ4 1 1 (-1)) fun σ5 =>
  Bd (hI σ5 1 3 0) fun σ6 =>
  Bd (hI σ6 1 4 (-1)) fun σ7 =>
  Cv (f_X9_cut σ7) fun σ8 =>
  Bd (hI σ8 1 5 0) fun σ10 =>
  Bd (hI σ10 1 6 (σ10.1 4 0)) fun σ11 =>
  f_X6_readInto_58 p1 5000 1 0 σ11
def f_X7_meet (x1 : Int32) (x2 : Int32) (x3 : Int32) (σ : HS) : Option (HS) :=
  if 0 ≤ x1.toInt ∧ x1.toInt < 1024 then
    if (σ.1 19 x1.toInt.toNat).toInt = (-1) then
      if (σ.1 17 1).toInt < 1024 then
        if 0 ≤ x1.toInt ∧ x1.toInt < 1024 then
          Bd (hI σ 19 x1.toInt.toNat x2) fun σ1 =>
          if 0 ≤ x1.toInt ∧ x1.toInt < 1024 then
            Bd (hI σ1 20 x1.toInt.toNat x3) fun σ2 =>
            if 0 ≤ (σ2.1 17 1).toInt ∧ (σ2.1 17 1).toInt < 1024 then
              Bd (hI σ2 18 (σ2.1 17 1).toInt.toNat x1) fun σ3 =>
              Bd (hI σ3 17 1 ((σ3.1 17 1) + (1 : Int32))) fun σ4 =>
              some σ4
            else none
          else none
        else none
      else
        some σ
    else
      some σ
  else none
def f_X7_goOnFrom_50 (k20 : Int32 → Int32 → Int32 → HS → Option (HS)) (y1 : Int32) (y2 : Int32) (y3 : Int32) (σ : HS) : Option (HS) :=
  Bd (y3 + 1) fun z1 =>
  k20 y1 y2 z1 σ
def b_X7_goOnFrom_20 (k20 : Int32 → Int32 → Int32 → HS → Option (HS)) (y1 : Int32) (y2 : Int32) (y3 : Int32) (σ : HS) : Option (HS) :=
  if 9 < y3.toInt then
    some σ
  else
    Bd ((1 : Int32) <<< ((y3 - (1 : Int32)) &&& 31)) fun z1 =>
    if (y2 &&& z1).toInt = 0 then
      Cv (f_X7_meet (y2 ||| z1) y1 y3 σ) fun σ2 =>
      f_X7_goOnFrom_50 k20 y1 y2 y3 σ2
    else
      f_X7_goOnFrom_50 k20 y1 y2 y3 σ
def f_X7_goOnFrom_20 : Nat → Int32 → Int32 → Int32 → HS → Option (HS)
  | 0 => fun _ _ _ _ => none
  | n + 1 => fun y1 y2 y3 σ => b_X7_goOnFrom_20 (f_X7_goOnFrom_20 n) y1 y2 y3 σ
def f_X7_goOnFrom (x1 : Int32) (σ : HS) : Option (HS) :=
  Bd (x1 >>> ((1 : Int32) &&& 31)) fun z1 =>
  if (x1 &&& (1 : Int32)).toInt = 0 then
    Cv (f_X7_meet z1 x1 0 σ) fun σ2 =>
    some σ2
  else
    f_X7_goOnFrom_20 5000 x1 z1 1 σ
def b_X7_find_134 (k134 : Int32 → Int32 → HS → Option (Int32 × HS)) (y4 : Int32) (y5 : Int32) (σ : HS) : Option (Int32 × HS) :=
  if y5.toInt < 0 then
    some (1, σ)
  else
    if 0 ≤ y4.toInt ∧ y4.toInt < 1024 then
      if 0 ≤ y5.toInt ∧ y5.toInt < 12 then
        Bd (hI σ 21 y5.toInt.toNat (σ.1 20 y4.toInt.toNat)) fun σ1 =>
        if 0 ≤ y4.toInt ∧ y4.toInt < 1024 then
          Bd (σ1.1 19 y4.toInt.toNat) fun z2 =>
          Bd (y5 + (-1)) fun z3 =>
          k134 z2 z3 σ1
        else none
      else none
    else none
def f_X7_find_134 : Nat → Int32 → Int32 → HS → Option (Int32 × HS)
  | 0 => fun _ _ _ => none
  | n + 1 => fun y4 y5 σ => b_X7_find_134 (f_X7_find_134 n) y4 y5 σ
def f_X7_find_111 (y2 : Int32) (σ : HS) : Option (Int32 × HS) :=
  if 0 ≤ y2.toInt ∧ y2.toInt < 1024 then
    if (σ.1 19 y2.toInt.toNat).toInt = (-1) then
      some (0, σ)
    else
      Bd ((σ.1 17 5) - (1 : Int32)) fun z1 =>
      f_X7_find_134 5000 y2 z1 σ
  else none
def b_X7_find_76 (k51 : Int32 → Int32 → HS → Option (Int32 × HS)) (k76 : Int32 → Int32 → Int32 → HS → Option (Int32 × HS)) (y2 : Int32) (y3 : Int32) (y4 : Int32) (σ : HS) : Option (Int32 × HS) :=
  if y3.toInt < y4.toInt then
    if 0 ≤ y3.toInt ∧ y3.toInt < 1024 then
      Cv (f_X7_goOnFrom (σ.1 18 y3.toInt.toNat) σ) fun σ2 =>
      Bd (y3 + 1) fun z4 =>
      k76 y2 z4 y4 σ2
    else none
  else
    Bd (hI σ 17 5 ((σ.1 17 5) + (1 : Int32))) fun σ1 =>
    k51 y2 y3 σ1
def f_X7_find_76 (k51 : Int32 → Int32 → HS → Option (Int32 × HS)) : Nat → Int32 → Int32 → Int32 → HS → Option (Int32 × HS)
  | 0 => fun _ _ _ _ => none
  | n + 1 => fun y2 y3 y4 σ => b_X7_find_76 k51 (f_X7_find_76 k51 n) y2 y3 y4 σ
def b_X7_find_51 (k51 : Int32 → Int32 → HS → Option (Int32 × HS)) (y2 : Int32) (y3 : Int32) (σ : HS) : Option (Int32 × HS) :=
  if (σ.1 17 5).toInt < 12 then
    if 0 ≤ y2.toInt ∧ y2.toInt < 1024 then
      if (σ.1 19 y2.toInt.toNat).toInt = (-1) then
        Bd (σ.1 17 1) fun z1 =>
        f_X7_find_76 k51 5000 y2 y3 z1 σ
      else
        f_X7_find_111 y2 σ
    else none
  else
    f_X7_find_111 y2 σ
def f_X7_find_51 : Nat → Int32 → Int32 → HS → Option (Int32 × HS)
  | 0 => fun _ _ _ => none
  | n + 1 => fun y2 y3 σ => b_X7_find_51 (f_X7_find_51 n) y2 y3 σ
def f_X7_find (x1 : Int32) (x2 : Int32) (σ : HS) : Option (Int32 × HS) :=
  if x1.toInt < 0 then
    some (0, σ)
  else
    if x1.toInt < 1024 then
      if x2.toInt < 0 then
        some (0, σ)
      else
        if x2.toInt < 1024 then
          Cv (f_J7_fill_53178 19 (-1) σ) fun σ1 =>
          Bd (hI σ1 17 1 0) fun σ3 =>
          Cv (f_X7_meet x1 x1 0 σ3) fun σ4 =>
          Bd (hI σ4 17 5 0) fun σ6 =>
          f_X7_find_51 5000 x2 0 σ6
        else
          some (0, σ)
    else
      some (0, σ)
def f_X8_finish_24 (σ : HS) : Option (HS) :=
  Bd (hI σ 22 2 ((σ.1 22 2) + (1 : Int32))) fun σ1 =>
  some σ1
def f_X8_finish (σ : HS) : Option (HS) :=
  if (σ.1 22 2).toInt = 0 then
    if 0 ≤ (0 : Int) ∧ 0 ≤ (0 : Int) ∧ 0 ≤ (σ.1 22 3).toInt ∧ (0 : Int) + (σ.1 22 3).toInt ≤ 5 ∧ (0 : Int) + (σ.1 22 3).toInt ≤ 5 then
      Bd (hA σ 24 (va_cpy (σ.1 23) (σ.1 24) (0 : Int).toNat (0 : Int).toNat (σ.1 22 3).toInt.toNat)) fun σ1 =>
      f_X8_finish_24 σ1
    else none
  else
    f_X8_finish_24 σ
def f_X8_fill_78 (fE : Int32 → Int32 → Int32 → HS → Option HS) (k20 : Int32 → Int32 → Int32 → Int32 → HS → Option (HS)) (y1 : Int32) (y2 : Int32) (y3 : Int32) (y4 : Int32) (σ : HS) : Option (HS) :=
  Bd (y4 + 1) fun z1 =>
  k20 y1 y2 y3 z1 σ
def b_X8_fill_20 (fE : Int32 → Int32 → Int32 → HS → Option HS) (k20 : Int32 → Int32 → Int32 → Int32 → HS → Option (HS)) (y1 : Int32) (y2 : Int32) (y3 : Int32) (y4 : Int32) (σ : HS) : Option (HS) :=
  if (σ.1 22 4).toInt < y4.toInt then
    some σ
  else
    if y3.toInt < y4.toInt then
      some σ
    else
      if (σ.1 22 3).toInt = 0 then none else
      Bd ((1 : Int32) <<< (((y1 + y4) - (y1 + y4) / (σ.1 22 3) * (σ.1 22 3)) &&& 31)) fun z1 =>
      if (y2 &&& z1).toInt = 0 then
        if 0 ≤ y1.toInt ∧ y1.toInt < 5 then
          Bd (hI σ 23 y1.toInt.toNat y4) fun σ2 =>
          Cv (fE (y1 + (1 : Int32)) (y2 ||| z1) (y3 - y4) σ2) fun σ3 =>
          f_X8_fill_78 fE k20 y1 y2 y3 y4 σ3
        else none
      else
        f_X8_fill_78 fE k20 y1 y2 y3 y4 σ
def f_X8_fill_20 (fE : Int32 → Int32 → Int32 → HS → Option HS) : Nat → Int32 → Int32 → Int32 → Int32 → HS → Option (HS)
  | 0 => fun _ _ _ _ _ => none
  | n + 1 => fun y1 y2 y3 y4 σ => b_X8_fill_20 fE (f_X8_fill_20 fE n) y1 y2 y3 y4 σ
def g_X8_fill (fE : Int32 → Int32 → Int32 → HS → Option HS) (x1 : Int32) (x2 : Int32) (x3 : Int32) (σ : HS) : Option (HS) :=
  if x1.toInt < (σ.1 22 3).toInt then
    f_X8_fill_20 fE 5000 x1 x2 x3 0 σ
  else
    if x3.toInt = 0 then
      Cv (f_X8_finish σ) fun σ1 =>
      some σ1
    else
      some σ
def f_X8_fill : Nat → Int32 → Int32 → Int32 → HS → Option HS
  | 0 => fun _ _ _ _ => none
  | n + 1 => g_X8_fill (f_X8_fill n)
def f_X8_find (x1 : Int32) (x2 : Int32) (x3 : Int32) (σ : HS) : Option (HS) :=
  Bd (hI σ 22 3 (if (1 : Int32) < (if (5 : Int32) < x1 then 5 else x1) then (if (5 : Int32) < x1 then 5 else x1) else 1)) fun σ1 =>
  Bd (hI σ1 22 4 x2) fun σ2 =>
  Bd (hI σ2 22 2 0) fun σ3 =>
  Cv (f_X8_fill 7 0 0 ((σ3.1 22 3) * x3) σ3) fun σ4 =>
  some σ4
def f_X9_append_43 (k3 : Int32 → Int32 → HS → Option (HS)) (y1 : Int32) (y2 : Int32) (σ : HS) : Option (HS) :=
  Bd (y2 + (-8)) fun z1 =>
  k3 y1 z1 σ
def b_X9_append_3 (k3 : Int32 → Int32 → HS → Option (HS)) (y1 : Int32) (y2 : Int32) (σ : HS) : Option (HS) :=
  if y2.toInt < 0 then
    some σ
  else
    if (σ.1 2 1).toInt < 2000 then
      if 0 ≤ (σ.1 2 1).toInt ∧ (σ.1 2 1).toInt < 2000 then
        Bd (hI σ 3 (σ.1 2 1).toInt.toNat (((y1.toUInt32 >>> (y2.toUInt32 &&& Int32.toUInt32 31)).toInt32) &&& (255 : Int32))) fun σ1 =>
        Bd (hI σ1 2 1 ((σ1.1 2 1) + (1 : Int32))) fun σ2 =>
        f_X9_append_43 k3 y1 y2 σ2
      else none
    else
      f_X9_append_43 k3 y1 y2 σ
def f_X9_append_3 : Nat → Int32 → Int32 → HS → Option (HS)
  | 0 => fun _ _ _ => none
  | n + 1 => fun y1 y2 σ => b_X9_append_3 (f_X9_append_3 n) y1 y2 σ
def f_X9_append (x1 : Int32) (σ : HS) : Option (HS) :=
  f_X9_append_3 5000 x1 24 σ
def f_X10_hasThing (t : Nat) (x1 : Int32) (σ : HS) : Option (Int32 × HS) :=
  if x1.toInt < 0 then
    some (0, σ)
  else
    if x1.toInt < (σ.1 t 0).toInt then
      some (1, σ)
    else
      some (0, σ)
def f_X11_feed (x1 : Int32) (x2 : Int32) (x3 : Int32) (x4 : Int32) (x5 : Int32) (σ : HS) : Option (Int32 × HS) :=
  if 2000 < ((σ.1 2 1) + (20 : Int32)).toInt then
    some ((-1), σ)
  else
    Cv (f_X9_append x1 σ) fun σ1 =>
    Cv (f_X9_append x2 σ1) fun σ3 =>
    Cv (f_X9_append x3 σ3) fun σ5 =>
    Cv (f_X9_append x4 σ5) fun σ7 =>
    Cv (f_X9_append x5 σ7) fun σ9 =>
    some ((σ9.1 2 1), σ9)
def f_X11_back (x1 : Int32) (σ : HS) : Option (Int32 × HS) :=
  if x1.toInt < 0 then
    some ((-1), σ)
  else
    if (σ.1 2 1).toInt < x1.toInt then
      some ((-1), σ)
    else
      Bd (hI σ 2 1 ((σ.1 2 1) - x1)) fun σ1 =>
      some ((σ1.1 2 1), σ1)
def b_X11_beginAnew_46 (k46 : Int32 → HS → Option (HS)) (y2 : Int32) (σ : HS) : Option (HS) :=
  if y2.toInt < 3 then
    if 0 ≤ y2.toInt ∧ y2.toInt < 3 then
      Bd (hI σ 26 y2.toInt.toNat 0) fun σ1 =>
      Bd (y2 + 1) fun z2 =>
      k46 z2 σ1
    else none
  else
    some σ
def f_X11_beginAnew_46 : Nat → Int32 → HS → Option (HS)
  | 0 => fun _ _ => none
  | n + 1 => fun y2 σ => b_X11_beginAnew_46 (f_X11_beginAnew_46 n) y2 σ
def f_X11_beginAnew (σ : HS) : Option (HS) :=
  if (σ.2.2 1) = 30 ∨ (σ.2.2 1) = 43 then
    if (σ.2.2 0) = 30 ∨ (σ.2.2 0) = 43 then
      Bd (hR σ 1 ((σ.2.2 0))) fun σ3 =>
      Bd (hR σ3 0 ((σ.2.2 1))) fun σ4 =>
      if (σ4.2.2 0) = 30 ∨ (σ4.2.2 0) = 43 then
        Cv (f_X0_begin 56 ((σ4.2.2 0)) σ4) fun σ6 =>
        Cv (f_X5_clear σ6) fun σ8 =>
        Bd (hI σ8 14 2 0) fun σ10 =>
        f_X11_beginAnew_46 5000 0 σ10
      else none
    else none
  else none
def f_X11_read (σ : HS) : Option (Int32 × HS) :=
  if (σ.2.2 1) = 30 ∨ (σ.2.2 1) = 43 then
    Cl (f_X6_readInto ((σ.2.2 1)) σ) fun r3 σ2 =>
    Bd (hI σ2 2 1 0) fun σ4 =>
    if r3.toInt = 0 then
      Cv (f_X11_beginAnew σ4) fun σ5 =>
      some (r3, σ5)
    else
      some (r3, σ4)
  else none
def f_X11_place (σ : HS) : Option (Int32 × HS) :=
  some ((σ.1 1 1), σ)
def f_X11_thing (x1 : Int32) (x2 : Int32) (σ : HS) : Option (Int32 × HS) :=
  if (σ.2.2 0) = 30 ∨ (σ.2.2 0) = 43 then
    Cl (f_X10_hasThing ((σ.2.2 0)) x1 σ) fun r3 σ2 =>
    if r3.toInt = 0 then
      some ((-1), σ2)
    else
      if x2.toInt = 0 then
        if (σ2.2.2 0) = 30 ∨ (σ2.2.2 0) = 43 then
          if 0 ≤ x1.toInt ∧ x1.toInt < 7 then
            some ((σ2.1 ((σ2.2.2 0) + 1) x1.toInt.toNat), σ2)
          else none
        else none
      else
        if x2.toInt = 1 then
          if (σ2.2.2 0) = 30 ∨ (σ2.2.2 0) = 43 then
            if 0 ≤ x1.toInt ∧ x1.toInt < 7 then
              some ((σ2.1 ((σ2.2.2 0) + 2) x1.toInt.toNat), σ2)
            else none
          else none
        else
          if x2.toInt = 2 then
            if 0 ≤ x1.toInt ∧ x1.toInt < 7 then
              some ((σ2.1 57 x1.toInt.toNat), σ2)
            else none
          else
            if x2.toInt = 3 then
              Cl (f_X0_isUp 56 x1 σ2) fun r7 σ6 =>
              if r7.toInt = 0 then
                some ((-2), σ6)
              else
                if 0 ≤ x1.toInt ∧ x1.toInt < 7 then
                  some ((σ6.1 58 x1.toInt.toNat), σ6)
                else none
            else
              if x2.toInt = 4 then
                if 0 ≤ x1.toInt ∧ x1.toInt < 7 then
                  some ((σ2.1 59 x1.toInt.toNat), σ2)
                else none
              else
                some ((-1), σ2)
  else none
def f_X11_pattern (x1 : Int32) (x2 : Int32) (σ : HS) : Option (Int32 × HS) :=
  if (σ.2.2 0) = 30 ∨ (σ.2.2 0) = 43 then
    Cl (f_X10_hasPattern ((σ.2.2 0)) x1 σ) fun r3 σ2 =>
    if r3.toInt = 0 then
      some ((-1), σ2)
    else
      if x2.toInt = (-1) then
        if (σ2.2.2 0) = 30 ∨ (σ2.2.2 0) = 43 then
          if 0 ≤ x1.toInt ∧ x1.toInt < 5 then
            some ((σ2.1 ((σ2.2.2 0) + 10) x1.toInt.toNat), σ2)
          else none
        else none
      else
        if x2.toInt < 0 then
          some ((-1), σ2)
        else
          if (σ2.2.2 0) = 30 ∨ (σ2.2.2 0) = 43 then
            if 0 ≤ x1.toInt ∧ x1.toInt < 5 then
              if x2.toInt < (σ2.1 ((σ2.2.2 0) + 10) x1.toInt.toNat).toInt then
                if (σ2.2.2 0) = 30 ∨ (σ2.2.2 0) = 43 then
                  if 0 ≤ x1.toInt ∧ x1.toInt < 5 then
                    if 0 ≤ x2.toInt ∧ x2.toInt < 8 then
                      some ((σ2.1 ((σ2.2.2 0) + 5 + x1.toInt.toNat) x2.toInt.toNat), σ2)
                    else none
                  else none
                else none
              else
                some ((-1), σ2)
            else none
          else none
  else none
def f_X11_tells_96 (v0 : Int32) (v1 : Int32) (w2 : Nat) (σ : HS) : Option (Int32 × HS) :=
  Cl (f_X4_asks w2 v1 v0 σ) fun r2 σ1 =>
  some (r2, σ1)
def f_X11_tells_54 (y1 : Int32) (y2 : Int32) (y3 : Int32) (y4 : Int32) (σ : HS) : Option (Int32 × HS) :=
  if (σ.2.2 0) = 30 ∨ (σ.2.2 0) = 43 then
    Cl (f_X0_howManyUp 56 σ) fun r3 σ2 =>
    Cv (f_X4_lookAt ((σ.2.2 0)) 56 y1 r3 σ2) fun σ4 =>
    if (σ4.2.2 0) = 30 ∨ (σ4.2.2 0) = 43 then
      if y4.toInt = 0 then
        f_X11_tells_96 0 y3 ((σ4.2.2 0)) σ4
      else
        f_X11_tells_96 y2 y3 ((σ4.2.2 0)) σ4
    else none
  else none
def f_X11_tells_37 (y1 : Int32) (y2 : Int32) (y3 : Int32) (v0 : Int32) (σ : HS) : Option (Int32 × HS) :=
  if v0.toInt = 0 then
    f_X11_tells_54 y1 y2 y3 v0 σ
  else
    Cl (f_X11_isHeight y2 σ) fun r2 σ1 =>
    if r2.toInt = 0 then
      some ((-100), σ1)
    else
      f_X11_tells_54 y1 y2 y3 v0 σ1
def f_X11_tells_32 (y1 : Int32) (y2 : Int32) (y3 : Int32) (σ : HS) : Option (Int32 × HS) :=
  f_X11_tells_37 y1 y2 y3 1 σ
def f_X11_tells (x1 : Int32) (x2 : Int32) (x3 : Int32) (σ : HS) : Option (Int32 × HS) :=
  if (σ.2.2 0) = 30 ∨ (σ.2.2 0) = 43 then
    Cl (f_X10_hasThing ((σ.2.2 0)) x1 σ) fun r3 σ2 =>
    if r3.toInt = 0 then
      some ((-100), σ2)
    else
      if x3.toInt < 0 then
        some ((-100), σ2)
      else
        if 3 < x3.toInt then
          some ((-100), σ2)
        else
          if x3.toInt = 0 then
            f_X11_tells_32 x1 x2 x3 σ2
          else
            if x3.toInt = 1 then
              f_X11_tells_32 x1 x2 x3 σ2
            else
              f_X11_tells_37 x1 x2 x3 0 σ2
  else none
def f_X11_slotsHeld_21 (k4 : Int32 → Int32 → HS → Option (Int32 × HS)) (y1 : Int32) (y2 : Int32) (σ : HS) : Option (Int32 × HS) :=
  Bd (y2 + 1) fun z1 =>
  k4 y1 z1 σ
def b_X11_slotsHeld_4 (k4 : Int32 → Int32 → HS → Option (Int32 × HS)) (y1 : Int32) (y2 : Int32) (σ : HS) : Option (Int32 × HS) :=
  if y2.toInt < 3 then
    if 0 ≤ y2.toInt ∧ y2.toInt < 3 then
      if (σ.1 26 y2.toInt.toNat).toInt = 0 then
        f_X11_slotsHeld_21 k4 y1 y2 σ
      else
        Bd (y1 + 1) fun z1 =>
        f_X11_slotsHeld_21 k4 z1 y2 σ
    else none
  else
    some (y1, σ)
def f_X11_slotsHeld_4 : Nat → Int32 → Int32 → HS → Option (Int32 × HS)
  | 0 => fun _ _ _ => none
  | n + 1 => fun y1 y2 σ => b_X11_slotsHeld_4 (f_X11_slotsHeld_4 n) y1 y2 σ
def f_X11_slotsHeld (σ : HS) : Option (Int32 × HS) :=
  f_X11_slotsHeld_4 5000 0 0 σ
def f_X11_weightsOf_36 (k4 : Int32 → Int32 → Int32 → HS → Option (Int32 × HS)) (y1 : Int32) (y2 : Int32) (y3 : Int32) (σ : HS) : Option (Int32 × HS) :=
  Bd (y3 + 1) fun z1 =>
  k4 y1 y2 z1 σ
def b_X11_weightsOf_4 (k4 : Int32 → Int32 → Int32 → HS → Option (Int32 × HS)) (y1 : Int32) (y2 : Int32) (y3 : Int32) (σ : HS) : Option (Int32 × HS) :=
  if (σ.2.2 0) = 30 ∨ (σ.2.2 0) = 43 then
    if y3.toInt < (σ.1 ((σ.2.2 0)) 0).toInt then
      if ((y1 >>> (y3 &&& 31)) &&& (1 : Int32)).toInt = 1 then
        if (σ.2.2 0) = 30 ∨ (σ.2.2 0) = 43 then
          if 0 ≤ y3.toInt ∧ y3.toInt < 7 then
            Bd (y2 + (σ.1 ((σ.2.2 0) + 1) y3.toInt.toNat)) fun z3 =>
            f_X11_weightsOf_36 k4 y1 z3 y3 σ
          else none
        else none
      else
        f_X11_weightsOf_36 k4 y1 y2 y3 σ
    else
      some (y2, σ)
  else none
def f_X11_weightsOf_4 : Nat → Int32 → Int32 → Int32 → HS → Option (Int32 × HS)
  | 0 => fun _ _ _ _ => none
  | n + 1 => fun y1 y2 y3 σ => b_X11_weightsOf_4 (f_X11_weightsOf_4 n) y1 y2 y3 σ
def f_X11_weightsOf (x1 : Int32) (σ : HS) : Option (Int32 × HS) :=
  f_X11_weightsOf_4 5000 x1 0 0 σ
def f_X11_count (x1 : Int32) (σ : HS) : Option (Int32 × HS) :=
  if x1.toInt = 0 then
    if (σ.2.2 0) = 30 ∨ (σ.2.2 0) = 43 then
      some ((σ.1 ((σ.2.2 0)) 0), σ)
    else none
  else
    if x1.toInt = 1 then
      if (σ.2.2 0) = 30 ∨ (σ.2.2 0) = 43 then
        some ((σ.1 ((σ.2.2 0)) 4), σ)
      else none
    else
      if x1.toInt = 2 then
        some ((σ.1 56 4), σ)
      else
        if x1.toInt = 3 then
          some ((σ.1 56 5), σ)
        else
          if x1.toInt = 4 then
            Cl (f_X0_bitsOf 56 0 σ) fun r4 σ3 =>
            some (r4, σ3)
          else
            if x1.toInt = 5 then
              Cl (f_X0_bitsOf 56 2 σ) fun r6 σ5 =>
              some (r6, σ5)
            else
              if x1.toInt = 6 then
                some ((σ.1 56 6), σ)
              else
                if x1.toInt = 7 then
                  some ((σ.1 56 7), σ)
                else
                  if x1.toInt = 8 then
                    some ((σ.1 56 8), σ)
                  else
                    if x1.toInt = 9 then
                      if (σ.1 56 9).toInt = (-1) then
                        some ((-2), σ)
                      else
                        some ((σ.1 56 9), σ)
                    else
                      if x1.toInt = 10 then
                        if (σ.2.2 0) = 30 ∨ (σ.2.2 0) = 43 then
                          Cl (f_X0_heightBy 56 ((σ.2.2 0)) σ) fun r9 σ8 =>
                          some (r9, σ8)
                        else none
                      else
                        if x1.toInt = 11 then
                          some ((σ.1 2 1), σ)
                        else
                          if x1.toInt = 12 then
                            some ((σ.1 12 2), σ)
                          else
                            if x1.toInt = 13 then
                              some ((σ.1 14 2), σ)
                            else
                              if x1.toInt = 14 then
                                Cl (f_X11_slotsHeld σ) fun r11 σ10 =>
                                some (r11, σ10)
                              else
                                if x1.toInt = 15 then
                                  Cl (f_X0_bitsOf 56 0 σ) fun r13 σ12 =>
                                  Cl (f_X11_weightsOf r13 σ12) fun r15 σ14 =>
                                  some (r15, σ14)
                                else
                                  if x1.toInt = 16 then
                                    Cl (f_X0_bitsOf 56 2 σ) fun r17 σ16 =>
                                    Cl (f_X11_weightsOf r17 σ16) fun r19 σ18 =>
                                    some (r19, σ18)
                                  else
                                    if x1.toInt = 17 then
                                      Cl (f_X0_bitsOf 56 1 σ) fun r21 σ20 =>
                                      some (r21, σ20)
                                    else
                                      some ((-1), σ)
def f_X11_throwIn (x1 : Int32) (x2 : Int32) (σ : HS) : Option (Int32 × HS) :=
  if (σ.2.2 0) = 30 ∨ (σ.2.2 0) = 43 then
    Cl (f_X10_hasThing ((σ.2.2 0)) x1 σ) fun r3 σ2 =>
    if r3.toInt = 0 then
      some (0, σ2)
    else
      Cl (f_X0_isUp 56 x1 σ2) fun r5 σ4 =>
      if r5.toInt = 0 then
        Cl (f_X11_isHeight x2 σ4) fun r7 σ6 =>
        if r7.toInt = 0 then
          some (0, σ6)
        else
          Cv (f_X5_keep 56 σ6) fun σ8 =>
          Cv (f_X0_putUp 56 x1 x2 σ8) fun σ10 =>
          some (1, σ10)
      else
        some (0, σ4)
  else none
def f_X11_use (x1 : Int32) (σ : HS) : Option (Int32 × HS) :=
  if (σ.2.2 0) = 30 ∨ (σ.2.2 0) = 43 then
    Cl (f_X10_hasPattern ((σ.2.2 0)) x1 σ) fun r3 σ2 =>
    if r3.toInt = 0 then
      some (0, σ2)
    else
      Cv (f_X5_keep 56 σ2) fun σ4 =>
      Cv (f_X0_takeUp 56 x1 σ4) fun σ6 =>
      some (1, σ6)
  else none
def f_X11_set (x1 : Int32) (σ : HS) : Option (Int32 × HS) :=
  Cl (f_X11_isHeight x1 σ) fun r2 σ1 =>
  if r2.toInt = 0 then
    some (0, σ1)
  else
    if (σ1.1 56 11).toInt = x1.toInt then
      some (0, σ1)
    else
      Cv (f_X5_keep 56 σ1) fun σ3 =>
      Bd (hI σ3 56 11 x1) fun σ5 =>
      some (1, σ5)
def f_X11_beats_50 (σ : HS) : Option (Int32 × HS) :=
  some ((σ.1 56 4), σ)
def f_X11_beats (x1 : Int32) (σ : HS) : Option (Int32 × HS) :=
  if x1.toInt < 0 then
    some ((-1), σ)
  else
    if 60 < x1.toInt then
      some ((-1), σ)
    else
      if 0 < x1.toInt then
        Cv (f_X5_keep 56 σ) fun σ1 =>
        if (σ1.2.2 0) = 30 ∨ (σ1.2.2 0) = 43 then
          if (σ1.2.2 0) = 30 ∨ (σ1.2.2 0) = 43 then
            Cv (f_X4_goOn ((σ1.2.2 0)) 56 x1 (σ1.1 ((σ1.2.2 0)) 11) σ1) fun σ5 =>
            f_X11_beats_50 σ5
          else none
        else none
      else
        f_X11_beats_50 σ
def f_X11_undo (σ : HS) : Option (Int32 × HS) :=
  Cl (f_X5_giveBack 56 σ) fun r2 σ1 =>
  if 0 ≤ r2.toInt ∧ r2.toInt ≤ 1 then
  some (r2, σ1)
  else none
def f_X11_hold (x1 : Int32) (σ : HS) : Option (Int32 × HS) :=
  if x1.toInt < 0 then
    some (0, σ)
  else
    if x1.toInt < 3 then
      if 0 ≤ x1.toInt ∧ x1.toInt < 3 then
        Cv (f_X0_copy (64 + 4 * x1.toInt.toNat) 56 σ) fun σ2 =>
        if 0 ≤ x1.toInt ∧ x1.toInt < 3 then
          Bd (hI σ2 26 x1.toInt.toNat 1) fun σ4 =>
          some (1, σ4)
        else none
      else none
    else
      some (0, σ)
def f_X11_restore (x1 : Int32) (σ : HS) : Option (Int32 × HS) :=
  if x1.toInt < 0 then
    some (0, σ)
  else
    if x1.toInt < 3 then
      if 0 ≤ x1.toInt ∧ x1.toInt < 3 then
        if (σ.1 26 x1.toInt.toNat).toInt = 0 then
          some (0, σ)
        else
          if 0 ≤ x1.toInt ∧ x1.toInt < 3 then
            Cv (f_X0_copy 56 (64 + 4 * x1.toInt.toNat) σ) fun σ2 =>
            Cv (f_X5_clear σ2) fun σ4 =>
            some (1, σ4)
          else none
      else none
    else
      some (0, σ)
def f_X11_closingOf (p1 : Nat) (x2 : Int32) (x3 : Int32) (σ : HS) : Option (Int32 × HS) :=
  Cl (f_X3_close p1 x2 σ) fun r2 σ1 =>
  if x3.toInt = 0 then
    if r2.toInt = 0 then
      some (0, σ1)
    else
      some (1, σ1)
  else
    if r2.toInt = 0 then
      some ((-2), σ1)
    else
      Cl (f_X3_kept p1 x2 σ1) fun r4 σ3 =>
      some (r4, σ3)
def f_X11_closes (x1 : Int32) (x2 : Int32) (σ : HS) : Option (Int32 × HS) :=
  if (σ.2.2 0) = 30 ∨ (σ.2.2 0) = 43 then
    Cl (f_X10_hasPattern ((σ.2.2 0)) x1 σ) fun r3 σ2 =>
    if r3.toInt = 0 then
      some ((-1), σ2)
    else
      if x2.toInt < 0 then
        some ((-1), σ2)
      else
        if 1 < x2.toInt then
          some ((-1), σ2)
        else
          if (σ2.2.2 0) = 30 ∨ (σ2.2.2 0) = 43 then
            if 0 ≤ x1.toInt ∧ x1.toInt < 5 then
              if (σ2.2.2 0) = 30 ∨ (σ2.2.2 0) = 43 then
                if 0 ≤ x1.toInt ∧ x1.toInt < 5 then
                  Cl (f_X11_closingOf ((σ2.2.2 0) + 5 + x1.toInt.toNat) (σ2.1 ((σ2.2.2 0) + 10) x1.toInt.toNat) x2 σ2) fun r8 σ7 =>
                  some (r8, σ7)
                else none
              else none
            else none
          else none
  else none
def f_X11_joined (x1 : Int32) (x2 : Int32) (x3 : Int32) (σ : HS) : Option (Int32 × HS) :=
  if (σ.2.2 0) = 30 ∨ (σ.2.2 0) = 43 then
    Cl (f_X10_hasPattern ((σ.2.2 0)) x1 σ) fun r3 σ2 =>
    if r3.toInt = 0 then
      some ((-1), σ2)
    else
      if (σ2.2.2 0) = 30 ∨ (σ2.2.2 0) = 43 then
        Cl (f_X10_hasPattern ((σ2.2.2 0)) x2 σ2) fun r6 σ5 =>
        if r6.toInt = 0 then
          some ((-1), σ5)
        else
          if x3.toInt < 0 then
            some ((-1), σ5)
          else
            if 1 < x3.toInt then
              some ((-1), σ5)
            else
              if (σ5.2.2 0) = 30 ∨ (σ5.2.2 0) = 43 then
                if 0 ≤ x1.toInt ∧ x1.toInt < 5 then
                  Bd (σ5.1 ((σ5.2.2 0) + 10) x1.toInt.toNat) fun z8 =>
                  if (σ5.2.2 0) = 30 ∨ (σ5.2.2 0) = 43 then
                    if 0 ≤ x1.toInt ∧ x1.toInt < 5 then
                      if 0 ≤ (0 : Int) ∧ 0 ≤ (0 : Int) ∧ 0 ≤ z8.toInt ∧ (0 : Int) + z8.toInt ≤ 8 ∧ (0 : Int) + z8.toInt ≤ 16 then
                        Bd (hA σ5 29 (va_cpy (σ5.1 ((σ5.2.2 0) + 5 + x1.toInt.toNat)) (σ5.1 29) (0 : Int).toNat (0 : Int).toNat z8.toInt.toNat)) fun σ11 =>
                        if (σ11.2.2 0) = 30 ∨ (σ11.2.2 0) = 43 then
                          if 0 ≤ x2.toInt ∧ x2.toInt < 5 then
                            if (σ11.2.2 0) = 30 ∨ (σ11.2.2 0) = 43 then
                              if 0 ≤ x2.toInt ∧ x2.toInt < 5 then
                                if 0 ≤ (0 : Int) ∧ 0 ≤ z8.toInt ∧ 0 ≤ (σ11.1 ((σ11.2.2 0) + 10) x2.toInt.toNat).toInt ∧ (0 : Int) + (σ11.1 ((σ11.2.2 0) + 10) x2.toInt.toNat).toInt ≤ 8 ∧ z8.toInt + (σ11.1 ((σ11.2.2 0) + 10) x2.toInt.toNat).toInt ≤ 16 then
                                  Bd (hA σ11 29 (va_cpy (σ11.1 ((σ11.2.2 0) + 5 + x2.toInt.toNat)) (σ11.1 29) (0 : Int).toNat z8.toInt.toNat (σ11.1 ((σ11.2.2 0) + 10) x2.toInt.toNat).toInt.toNat)) fun σ15 =>
                                  if (σ15.2.2 0) = 30 ∨ (σ15.2.2 0) = 43 then
                                    if 0 ≤ x2.toInt ∧ x2.toInt < 5 then
                                      Cl (f_X11_closingOf 29 (z8 + (σ15.1 ((σ15.2.2 0) + 10) x2.toInt.toNat)) x3 σ15) fun r18 σ17 =>
                                      some (r18, σ17)
                                    else none
                                  else none
                                else none
                              else none
                            else none
                          else none
                        else none
                      else none
                    else none
                  else none
                else none
              else none
      else none
  else none
def f_X11_turned (x1 : Int32) (x2 : Int32) (σ : HS) : Option (Int32 × HS) :=
  if (σ.2.2 0) = 30 ∨ (σ.2.2 0) = 43 then
    Cl (f_X10_hasPattern ((σ.2.2 0)) x1 σ) fun r3 σ2 =>
    if r3.toInt = 0 then
      some ((-1), σ2)
    else
      if (σ2.2.2 0) = 30 ∨ (σ2.2.2 0) = 43 then
        Cl (f_X10_hasPattern ((σ2.2.2 0)) x2 σ2) fun r6 σ5 =>
        if r6.toInt = 0 then
          some ((-1), σ5)
        else
          if (σ5.2.2 0) = 30 ∨ (σ5.2.2 0) = 43 then
            if 0 ≤ x1.toInt ∧ x1.toInt < 5 then
              Bd (σ5.1 ((σ5.2.2 0) + 10) x1.toInt.toNat) fun z8 =>
              if (σ5.2.2 0) = 30 ∨ (σ5.2.2 0) = 43 then
                if 0 ≤ x2.toInt ∧ x2.toInt < 5 then
                  if z8.toInt = (σ5.1 ((σ5.2.2 0) + 10) x2.toInt.toNat).toInt then
                    if (σ5.2.2 0) = 30 ∨ (σ5.2.2 0) = 43 then
                      if 0 ≤ x1.toInt ∧ x1.toInt < 5 then
                        if (σ5.2.2 0) = 30 ∨ (σ5.2.2 0) = 43 then
                          if 0 ≤ x2.toInt ∧ x2.toInt < 5 then
                            Cl (f_X3_turns ((σ5.2.2 0) + 5 + x1.toInt.toNat) ((σ5.2.2 0) + 5 + x2.toInt.toNat) z8 σ5) fun r15 σ14 =>
                            some (r15, σ14)
                          else none
                        else none
                      else none
                    else none
                  else
                    some ((-2), σ5)
                else none
              else none
            else none
          else none
      else none
  else none
def f_X11_span (x1 : Int32) (σ : HS) : Option (Int32 × HS) :=
  if (σ.2.2 0) = 30 ∨ (σ.2.2 0) = 43 then
    Cl (f_X10_hasPattern ((σ.2.2 0)) x1 σ) fun r3 σ2 =>
    if r3.toInt = 0 then
      some ((-1), σ2)
    else
      if (σ2.2.2 0) = 30 ∨ (σ2.2.2 0) = 43 then
        if 0 ≤ x1.toInt ∧ x1.toInt < 5 then
          if (σ2.2.2 0) = 30 ∨ (σ2.2.2 0) = 43 then
            if 0 ≤ x1.toInt ∧ x1.toInt < 5 then
              Cl (f_X3_highest ((σ2.2.2 0) + 5 + x1.toInt.toNat) (σ2.1 ((σ2.2.2 0) + 10) x1.toInt.toNat) σ2) fun r8 σ7 =>
              some (r8, σ7)
            else none
          else none
        else none
      else none
  else none
def f_X11_orbits (x1 : Int32) (σ : HS) : Option (Int32 × HS) :=
  if (σ.2.2 0) = 30 ∨ (σ.2.2 0) = 43 then
    Cl (f_X10_hasPattern ((σ.2.2 0)) x1 σ) fun r3 σ2 =>
    if r3.toInt = 0 then
      some ((-1), σ2)
    else
      if (σ2.2.2 0) = 30 ∨ (σ2.2.2 0) = 43 then
        if 0 ≤ x1.toInt ∧ x1.toInt < 5 then
          if (σ2.2.2 0) = 30 ∨ (σ2.2.2 0) = 43 then
            if 0 ≤ x1.toInt ∧ x1.toInt < 5 then
              Bd (σ2.1 ((σ2.2.2 0) + 10) x1.toInt.toNat) fun z7 =>
              Cl (f_X3_close ((σ2.2.2 0) + 5 + x1.toInt.toNat) z7 σ2) fun r9 σ8 =>
              if r9.toInt = 0 then
                some ((-2), σ8)
              else
                Cl (f_X3_rounds ((σ2.2.2 0) + 5 + x1.toInt.toNat) z7 σ8) fun r11 σ10 =>
                some (r11, σ10)
            else none
          else none
        else none
      else none
  else none
def f_X11_swaps (x1 : Int32) (σ : HS) : Option (Int32 × HS) :=
  if (σ.2.2 0) = 30 ∨ (σ.2.2 0) = 43 then
    Cl (f_X10_hasPattern ((σ.2.2 0)) x1 σ) fun r3 σ2 =>
    if r3.toInt = 0 then
      some ((-1), σ2)
    else
      if (σ2.2.2 0) = 30 ∨ (σ2.2.2 0) = 43 then
        if 0 ≤ x1.toInt ∧ x1.toInt < 5 then
          if (σ2.2.2 0) = 30 ∨ (σ2.2.2 0) = 43 then
            if 0 ≤ x1.toInt ∧ x1.toInt < 5 then
              Cl (f_X3_pairsToSwap ((σ2.2.2 0) + 5 + x1.toInt.toNat) (σ2.1 ((σ2.2.2 0) + 10) x1.toInt.toNat) σ2) fun r8 σ7 =>
              some (r8, σ7)
            else none
          else none
        else none
      else none
  else none
def f_X11_ways (x1 : Int32) (x2 : Int32) (x3 : Int32) (x4 : Int32) (σ : HS) : Option (Int32 × HS) :=
  if x1.toInt < 1 then
    some ((-1), σ)
  else
    if 5 < x1.toInt then
      some ((-1), σ)
    else
      if x2.toInt < 1 then
        some ((-1), σ)
      else
        if 7 < x2.toInt then
          some ((-1), σ)
        else
          if x3.toInt < 0 then
            some ((-1), σ)
          else
            if 7 < x3.toInt then
              some ((-1), σ)
            else
              if x4.toInt < (-1) then
                some ((-1), σ)
              else
                if x4.toInt < x1.toInt then
                  Cv (f_X8_find x1 x2 x3 σ) fun σ1 =>
                  if x4.toInt = (-1) then
                    some ((σ1.1 22 2), σ1)
                  else
                    if (σ1.1 22 2).toInt = 0 then
                      some ((-2), σ1)
                    else
                      if 0 ≤ x4.toInt ∧ x4.toInt < 5 then
                        some ((σ1.1 24 x4.toInt.toNat), σ1)
                      else none
                else
                  some ((-1), σ)
def f_X11_lands (σ : HS) : Option (Int32 × HS) :=
  Cl (f_X0_landingBits 56 σ) fun r2 σ1 =>
  some (r2, σ1)
def b_X11_findHands_13 (k13 : Int32 → Int32 → HS → Option (HS)) (y1 : Int32) (y2 : Int32) (σ : HS) : Option (HS) :=
  if y2.toInt < y1.toInt then
    if y2.toInt < 61 then
      Cl (f_X0_firstLanding 60 σ) fun r2 σ1 =>
      if 0 ≤ y2.toInt ∧ y2.toInt < 61 then
        Bd (hI σ1 27 y2.toInt.toNat r2) fun σ3 =>
        if (σ3.2.2 0) = 30 ∨ (σ3.2.2 0) = 43 then
          Cv (f_X4_goOnSafely ((σ3.2.2 0)) 60 σ3) fun σ5 =>
          Bd (y2 + 1) fun z7 =>
          k13 y1 z7 σ5
        else none
      else none
    else
      some σ
  else
    some σ
def f_X11_findHands_13 : Nat → Int32 → Int32 → HS → Option (HS)
  | 0 => fun _ _ _ => none
  | n + 1 => fun y1 y2 σ => b_X11_findHands_13 (f_X11_findHands_13 n) y1 y2 σ
def f_X11_findHands (x1 : Int32) (σ : HS) : Option (HS) :=
  Cv (f_X0_copy 60 56 σ) fun σ1 =>
  f_X11_findHands_13 5000 x1 0 σ1
def f_X11_inHand (x1 : Int32) (σ : HS) : Option (Int32 × HS) :=
  if x1.toInt < 0 then
    some ((-1), σ)
  else
    if 60 < x1.toInt then
      some ((-1), σ)
    else
      Cv (f_X11_findHands (x1 + (1 : Int32)) σ) fun σ1 =>
      if 0 ≤ x1.toInt ∧ x1.toInt < 61 then
        if (σ1.1 27 x1.toInt.toNat).toInt = (-1) then
          some ((-2), σ1)
        else
          if 0 ≤ x1.toInt ∧ x1.toInt < 61 then
            some ((σ1.1 27 x1.toInt.toNat), σ1)
          else none
      else none
def b_X11_firstClash_2 (k2 : Int32 → Int32 → HS → Option (Int32 × HS)) (y1 : Int32) (y2 : Int32) (σ : HS) : Option (Int32 × HS) :=
  if y1.toInt < y2.toInt then
    some ((-2), σ)
  else
    Cl (f_X0_howManyLand 60 σ) fun r2 σ1 =>
    if 1 < r2.toInt then
      some (y2, σ1)
    else
      if (σ1.2.2 0) = 30 ∨ (σ1.2.2 0) = 43 then
        Cv (f_X4_goOnSafely ((σ1.2.2 0)) 60 σ1) fun σ4 =>
        Bd (y2 + 1) fun z6 =>
        k2 y1 z6 σ4
      else none
def f_X11_firstClash_2 : Nat → Int32 → Int32 → HS → Option (Int32 × HS)
  | 0 => fun _ _ _ => none
  | n + 1 => fun y1 y2 σ => b_X11_firstClash_2 (f_X11_firstClash_2 n) y1 y2 σ
def f_X11_firstClash (x1 : Int32) (σ : HS) : Option (Int32 × HS) :=
  f_X11_firstClash_2 5000 x1 0 σ
def f_X11_clash (σ : HS) : Option (Int32 × HS) :=
  Cv (f_X0_copy 60 56 σ) fun σ1 =>
  Cl (f_X11_firstClash 60 σ1) fun r4 σ3 =>
  some (r4, σ3)
def b_X11_gap_13 (k13 : Int32 → HS → Option (Int32 × HS)) (y1 : Int32) (σ : HS) : Option (Int32 × HS) :=
  if 60 < y1.toInt then
    some ((-2), σ)
  else
    Cl (f_X0_howManyLand 60 σ) fun r2 σ1 =>
    if r2.toInt = 0 then
      some (y1, σ1)
    else
      if (σ1.2.2 0) = 30 ∨ (σ1.2.2 0) = 43 then
        Cv (f_X4_goOnSafely ((σ1.2.2 0)) 60 σ1) fun σ4 =>
        Bd (y1 + 1) fun z6 =>
        k13 z6 σ4
      else none
def f_X11_gap_13 : Nat → Int32 → HS → Option (Int32 × HS)
  | 0 => fun _ _ => none
  | n + 1 => fun y1 σ => b_X11_gap_13 (f_X11_gap_13 n) y1 σ
def f_X11_gap (σ : HS) : Option (Int32 × HS) :=
  Cv (f_X0_copy 60 56 σ) fun σ1 =>
  f_X11_gap_13 5000 0 σ1
def b_X11_room_26 (k26 : Int32 → Int32 → HS → Option (Int32 × HS)) (y1 : Int32) (y2 : Int32) (σ : HS) : Option (Int32 × HS) :=
  if 9 < y2.toInt then
    some ((-2), σ)
  else
    Cv (f_X0_copy 60 56 σ) fun σ1 =>
    Cv (f_X0_putUp 60 y1 y2 σ1) fun σ3 =>
    Cl (f_X11_firstClash 59 σ3) fun r6 σ5 =>
    if r6.toInt = (-2) then
      some (y2, σ5)
    else
      Bd (y2 + 1) fun z7 =>
      k26 y1 z7 σ5
def f_X11_room_26 : Nat → Int32 → Int32 → HS → Option (Int32 × HS)
  | 0 => fun _ _ _ => none
  | n + 1 => fun y1 y2 σ => b_X11_room_26 (f_X11_room_26 n) y1 y2 σ
def f_X11_room (x1 : Int32) (σ : HS) : Option (Int32 × HS) :=
  if (σ.2.2 0) = 30 ∨ (σ.2.2 0) = 43 then
    Cl (f_X10_hasThing ((σ.2.2 0)) x1 σ) fun r3 σ2 =>
    if r3.toInt = 0 then
      some ((-1), σ2)
    else
      Cl (f_X0_isUp 56 x1 σ2) fun r5 σ4 =>
      if r5.toInt = 0 then
        f_X11_room_26 5000 x1 0 σ4
      else
        some ((-1), σ4)
  else none
def f_X11_into_88 (y2 : Int32) (v0 : Int32) (σ : HS) : Option (Int32 × HS) :=
  if v0.toInt = 0 then
    if y2.toInt = (-1) then
      some ((-2), σ)
    else
      some ((-3), σ)
  else
    if y2.toInt = (-1) then
      some ((σ.1 17 5), σ)
    else
      if y2.toInt < (σ.1 17 5).toInt then
        if 0 ≤ y2.toInt ∧ y2.toInt < 12 then
          some ((σ.1 21 y2.toInt.toNat), σ)
        else none
      else
        some ((-1), σ)
def f_X11_into_87 (y2 : Int32) (σ : HS) : Option (Int32 × HS) :=
  f_X11_into_88 y2 0 σ
def f_X11_into (x1 : Int32) (x2 : Int32) (σ : HS) : Option (Int32 × HS) :=
  if (σ.2.2 0) = 30 ∨ (σ.2.2 0) = 43 then
    Cl (f_X10_hasPattern ((σ.2.2 0)) x1 σ) fun r3 σ2 =>
    if r3.toInt = 0 then
      some ((-1), σ2)
    else
      if x2.toInt < (-1) then
        some ((-1), σ2)
      else
        if (σ2.2.2 0) = 30 ∨ (σ2.2.2 0) = 43 then
          if 0 ≤ x1.toInt ∧ x1.toInt < 5 then
            if (σ2.2.2 0) = 30 ∨ (σ2.2.2 0) = 43 then
              if 0 ≤ x1.toInt ∧ x1.toInt < 5 then
                Bd (σ2.1 ((σ2.2.2 0) + 10) x1.toInt.toNat) fun z7 =>
                Cl (f_X3_close ((σ2.2.2 0) + 5 + x1.toInt.toNat) z7 σ2) fun r9 σ8 =>
                if r9.toInt = 0 then
                  some ((-1), σ8)
                else
                  Cl (f_X0_twoLandAlike 56 σ8) fun r11 σ10 =>
                  if r11.toInt = 0 then
                    Cl (f_X0_landingBits 56 σ10) fun r13 σ12 =>
                    Cl (f_X3_landingBits ((σ2.2.2 0) + 5 + x1.toInt.toNat) z7 σ12) fun r15 σ14 =>
                    Cl (f_X7_find r13 r15 σ14) fun r17 σ16 =>
                    if r17.toInt = 0 then
                      f_X11_into_87 x2 σ16
                    else
                      f_X11_into_88 x2 1 σ16
                  else
                    f_X11_into_87 x2 σ10
              else none
            else none
          else none
        else none
  else none
def f_X11_isSpan (x1 : Int32) (σ : HS) : Option (Int32 × HS) :=
  if x1.toInt < 1 then
    some (0, σ)
  else
    if 60 < x1.toInt then
      some (0, σ)
    else
      some (1, σ)
def f_X11_busiest_106 (k80 : Int32 → Int32 → Int32 → HS → Option (Int32 × HS)) (y2 : Int32) (y3 : Int32) (y4 : Int32) (σ : HS) : Option (Int32 × HS) :=
  Bd (y4 + 1) fun z1 =>
  k80 y2 y3 z1 σ
def b_X11_busiest_80 (k80 : Int32 → Int32 → Int32 → HS → Option (Int32 × HS)) (y2 : Int32) (y3 : Int32) (y4 : Int32) (σ : HS) : Option (Int32 × HS) :=
  if y4.toInt < 7 then
    if 0 ≤ y4.toInt ∧ y4.toInt < 7 then
      if 0 ≤ y3.toInt ∧ y3.toInt < 7 then
        if (σ.1 28 y3.toInt.toNat).toInt < (σ.1 28 y4.toInt.toNat).toInt then
          f_X11_busiest_106 k80 y2 y4 y4 σ
        else
          f_X11_busiest_106 k80 y2 y3 y4 σ
      else none
    else none
  else
    if 0 ≤ y3.toInt ∧ y3.toInt < 7 then
      if (σ.1 28 y3.toInt.toNat).toInt = 0 then
        some ((-2), σ)
      else
        if y2.toInt = 0 then
          some (y3, σ)
        else
          if 0 ≤ y3.toInt ∧ y3.toInt < 7 then
            some ((σ.1 28 y3.toInt.toNat), σ)
          else none
    else none
def f_X11_busiest_80 : Nat → Int32 → Int32 → Int32 → HS → Option (Int32 × HS)
  | 0 => fun _ _ _ _ => none
  | n + 1 => fun y2 y3 y4 σ => b_X11_busiest_80 (f_X11_busiest_80 n) y2 y3 y4 σ
def f_X11_busiest_69 (k33 : Int32 → Int32 → Int32 → HS → Option (Int32 × HS)) (y1 : Int32) (y2 : Int32) (y3 : Int32) (σ : HS) : Option (Int32 × HS) :=
  Bd (y3 + 1) fun z1 =>
  k33 y1 y2 z1 σ
def b_X11_busiest_33 (k33 : Int32 → Int32 → Int32 → HS → Option (Int32 × HS)) (y1 : Int32) (y2 : Int32) (y3 : Int32) (σ : HS) : Option (Int32 × HS) :=
  if y3.toInt < y1.toInt then
    if (σ.2.2 0) = 30 ∨ (σ.2.2 0) = 43 then
      if 0 ≤ y3.toInt ∧ y3.toInt < 61 then
        Cl (f_X10_hasThing ((σ.2.2 0)) (σ.1 27 y3.toInt.toNat) σ) fun r3 σ2 =>
        if r3.toInt = 0 then
          f_X11_busiest_69 k33 y1 y2 y3 σ2
        else
          if 0 ≤ y3.toInt ∧ y3.toInt < 61 then
            if 0 ≤ (σ2.1 27 y3.toInt.toNat).toInt ∧ (σ2.1 27 y3.toInt.toNat).toInt < 7 then
              if 0 ≤ (σ2.1 27 y3.toInt.toNat).toInt ∧ (σ2.1 27 y3.toInt.toNat).toInt < 7 then
                Bd (hI σ2 28 (σ2.1 27 y3.toInt.toNat).toInt.toNat ((σ2.1 28 (σ2.1 27 y3.toInt.toNat).toInt.toNat) + (1 : Int32))) fun σ4 =>
                f_X11_busiest_69 k33 y1 y2 y3 σ4
              else none
            else none
          else none
      else none
    else none
  else
    f_X11_busiest_80 5000 y2 0 1 σ
def f_X11_busiest_33 : Nat → Int32 → Int32 → Int32 → HS → Option (Int32 × HS)
  | 0 => fun _ _ _ _ => none
  | n + 1 => fun y1 y2 y3 σ => b_X11_busiest_33 (f_X11_busiest_33 n) y1 y2 y3 σ
def f_X11_busiest (x1 : Int32) (x2 : Int32) (σ : HS) : Option (Int32 × HS) :=
  Cl (f_X11_isSpan x1 σ) fun r2 σ1 =>
  if r2.toInt = 0 then
    some ((-1), σ1)
  else
    if x2.toInt < 0 then
      some ((-1), σ1)
    else
      if 1 < x2.toInt then
        some ((-1), σ1)
      else
        Cv (f_X11_findHands x1 σ1) fun σ3 =>
        Cv (f_J7_fill_53178 28 0 σ3) fun σ5 =>
        f_X11_busiest_33 5000 x1 x2 0 σ5
def f_X11_load_56 (k18 : Int32 → Int32 → Int32 → HS → Option (Int32 × HS)) (y1 : Int32) (y2 : Int32) (y3 : Int32) (σ : HS) : Option (Int32 × HS) :=
  Bd (y3 + 1) fun z1 =>
  k18 y1 y2 z1 σ
def b_X11_load_18 (k18 : Int32 → Int32 → Int32 → HS → Option (Int32 × HS)) (y1 : Int32) (y2 : Int32) (y3 : Int32) (σ : HS) : Option (Int32 × HS) :=
  if y3.toInt < y1.toInt then
    if (σ.2.2 0) = 30 ∨ (σ.2.2 0) = 43 then
      if 0 ≤ y3.toInt ∧ y3.toInt < 61 then
        Cl (f_X10_hasThing ((σ.2.2 0)) (σ.1 27 y3.toInt.toNat) σ) fun r3 σ2 =>
        if r3.toInt = 0 then
          f_X11_load_56 k18 y1 y2 y3 σ2
        else
          if (σ2.2.2 0) = 30 ∨ (σ2.2.2 0) = 43 then
            if 0 ≤ y3.toInt ∧ y3.toInt < 61 then
              if 0 ≤ (σ2.1 27 y3.toInt.toNat).toInt ∧ (σ2.1 27 y3.toInt.toNat).toInt < 7 then
                Bd (y2 + (σ2.1 ((σ2.2.2 0) + 1) (σ2.1 27 y3.toInt.toNat).toInt.toNat)) fun z5 =>
                f_X11_load_56 k18 y1 z5 y3 σ2
              else none
            else none
          else none
      else none
    else none
  else
    some (y2, σ)
def f_X11_load_18 : Nat → Int32 → Int32 → Int32 → HS → Option (Int32 × HS)
  | 0 => fun _ _ _ _ => none
  | n + 1 => fun y1 y2 y3 σ => b_X11_load_18 (f_X11_load_18 n) y1 y2 y3 σ
def f_X11_load (x1 : Int32) (σ : HS) : Option (Int32 × HS) :=
  Cl (f_X11_isSpan x1 σ) fun r2 σ1 =>
  if r2.toInt = 0 then
    some ((-1), σ1)
  else
    Cv (f_X11_findHands x1 σ1) fun σ3 =>
    f_X11_load_18 5000 x1 0 0 σ3
def b_X11_rule_26 (k26 : Int32 → Int32 → Int32 → HS → Option (Int32 × HS)) (y1 : Int32) (y2 : Int32) (y3 : Int32) (σ : HS) : Option (Int32 × HS) :=
  if y3.toInt < y1.toInt then
    if (σ.2.2 0) = 30 ∨ (σ.2.2 0) = 43 then
      Cl (f_X4_inForce ((σ.2.2 0)) 60 σ) fun r3 σ2 =>
      Bd (y2 + r3) fun z4 =>
      if (σ2.2.2 0) = 30 ∨ (σ2.2.2 0) = 43 then
        Cv (f_X4_goOnSafely ((σ2.2.2 0)) 60 σ2) fun σ6 =>
        Bd (y3 + 1) fun z8 =>
        k26 y1 z4 z8 σ6
      else none
    else none
  else
    some (y2, σ)
def f_X11_rule_26 : Nat → Int32 → Int32 → Int32 → HS → Option (Int32 × HS)
  | 0 => fun _ _ _ _ => none
  | n + 1 => fun y1 y2 y3 σ => b_X11_rule_26 (f_X11_rule_26 n) y1 y2 y3 σ
def f_X11_rule (x1 : Int32) (σ : HS) : Option (Int32 × HS) :=
  Cl (f_X11_isSpan x1 σ) fun r2 σ1 =>
  if r2.toInt = 0 then
    some ((-100000), σ1)
  else
    Cv (f_X0_copy 60 56 σ1) fun σ3 =>
    f_X11_rule_26 5000 x1 0 0 σ3
def f_X11_order_74 (k16 : Int32 → Int32 → Int32 → HS → Option (Int32 × HS)) (k25 : Int32 → Int32 → Int32 → Int32 → HS → Option (Int32 × HS)) (y1 : Int32) (y2 : Int32) (y3 : Int32) (y4 : Int32) (σ : HS) : Option (Int32 × HS) :=
  Bd (y4 + 1) fun z1 =>
  k25 y1 y2 y3 z1 σ
def b_X11_order_25 (k16 : Int32 → Int32 → Int32 → HS → Option (Int32 × HS)) (k25 : Int32 → Int32 → Int32 → Int32 → HS → Option (Int32 × HS)) (y1 : Int32) (y2 : Int32) (y3 : Int32) (y4 : Int32) (σ : HS) : Option (Int32 × HS) :=
  if y4.toInt < (σ.1 56 0).toInt then
    Cl (f_X0_isUp 56 y4 σ) fun r3 σ2 =>
    if r3.toInt = 0 then
      f_X11_order_74 k16 k25 y1 y2 y3 y4 σ2
    else
      if 0 ≤ y4.toInt ∧ y4.toInt < 7 then
        if (σ2.1 58 y4.toInt.toNat).toInt = y3.toInt then
          if y2.toInt = y1.toInt then
            some (y4, σ2)
          else
            Bd (y2 + 1) fun z4 =>
            f_X11_order_74 k16 k25 y1 z4 y3 y4 σ2
        else
          f_X11_order_74 k16 k25 y1 y2 y3 y4 σ2
      else none
  else
    Bd (y3 + 1) fun z1 =>
    k16 y1 y2 z1 σ
def f_X11_order_25 (k16 : Int32 → Int32 → Int32 → HS → Option (Int32 × HS)) : Nat → Int32 → Int32 → Int32 → Int32 → HS → Option (Int32 × HS)
  | 0 => fun _ _ _ _ _ => none
  | n + 1 => fun y1 y2 y3 y4 σ => b_X11_order_25 k16 (f_X11_order_25 k16 n) y1 y2 y3 y4 σ
def b_X11_order_16 (k16 : Int32 → Int32 → Int32 → HS → Option (Int32 × HS)) (y1 : Int32) (y2 : Int32) (y3 : Int32) (σ : HS) : Option (Int32 × HS) :=
  if 9 < y3.toInt then
    some ((-1), σ)
  else
    f_X11_order_25 k16 5000 y1 y2 y3 0 σ
def f_X11_order_16 : Nat → Int32 → Int32 → Int32 → HS → Option (Int32 × HS)
  | 0 => fun _ _ _ _ => none
  | n + 1 => fun y1 y2 y3 σ => b_X11_order_16 (f_X11_order_16 n) y1 y2 y3 σ
def f_X11_order (x1 : Int32) (σ : HS) : Option (Int32 × HS) :=
  if x1.toInt < 0 then
    some ((-1), σ)
  else
    if x1.toInt < 7 then
      f_X11_order_16 5000 x1 0 0 σ
    else
      some ((-1), σ)
def f_X11_handover_55 (k22 : Int32 → Int32 → HS → Option (Int32 × HS)) (y1 : Int32) (y2 : Int32) (σ : HS) : Option (Int32 × HS) :=
  if (σ.2.2 0) = 30 ∨ (σ.2.2 0) = 43 then
    if (σ.2.2 0) = 30 ∨ (σ.2.2 0) = 43 then
      Cv (f_X4_goOn ((σ.2.2 0)) 60 1 (σ.1 ((σ.2.2 0)) 11) σ) fun σ3 =>
      Bd (y2 + 1) fun z5 =>
      k22 y1 z5 σ3
    else none
  else none
def b_X11_handover_22 (k22 : Int32 → Int32 → HS → Option (Int32 × HS)) (y1 : Int32) (y2 : Int32) (σ : HS) : Option (Int32 × HS) :=
  if 60 < y2.toInt then
    some ((-2), σ)
  else
    if y1.toInt = 0 then
      some (y2, σ)
    else
      Cl (f_X0_firstLanding 60 σ) fun r2 σ1 =>
      if r2.toInt = (-1) then
        f_X11_handover_55 k22 y1 y2 σ1
      else
        Bd (y1 &&& (((1 : Int32) <<< (r2 &&& 31)) ^^^ ((-1) : Int32))) fun z3 =>
        f_X11_handover_55 k22 z3 y2 σ1
def f_X11_handover_22 : Nat → Int32 → Int32 → HS → Option (Int32 × HS)
  | 0 => fun _ _ _ => none
  | n + 1 => fun y1 y2 σ => b_X11_handover_22 (f_X11_handover_22 n) y1 y2 σ
def f_X11_handover (σ : HS) : Option (Int32 × HS) :=
  Cv (f_X0_copy 60 56 σ) fun σ1 =>
  Cl (f_X0_bitsOf 56 0 σ1) fun r4 σ3 =>
  f_X11_handover_22 5000 r4 0 σ3
def b_X11_limit_26 (k26 : Int32 → Int32 → HS → Option (Int32 × HS)) (y1 : Int32) (y2 : Int32) (σ : HS) : Option (Int32 × HS) :=
  if 200 < y2.toInt then
    some ((-2), σ)
  else
    if (σ.1 60 5).toInt < y1.toInt then
      if (σ.2.2 0) = 30 ∨ (σ.2.2 0) = 43 then
        if (σ.2.2 0) = 30 ∨ (σ.2.2 0) = 43 then
          Cv (f_X4_goOn ((σ.2.2 0)) 60 1 (σ.1 ((σ.2.2 0)) 11) σ) fun σ3 =>
          Bd (y2 + 1) fun z5 =>
          k26 y1 z5 σ3
        else none
      else none
    else
      some (y2, σ)
def f_X11_limit_26 : Nat → Int32 → Int32 → HS → Option (Int32 × HS)
  | 0 => fun _ _ _ => none
  | n + 1 => fun y1 y2 σ => b_X11_limit_26 (f_X11_limit_26 n) y1 y2 σ
def f_X11_limit (x1 : Int32) (σ : HS) : Option (Int32 × HS) :=
  if x1.toInt < 0 then
    some ((-1), σ)
  else
    if 999 < x1.toInt then
      some ((-1), σ)
    else
      Cv (f_X0_copy 60 56 σ) fun σ1 =>
      f_X11_limit_26 5000 x1 0 σ1
def b_X11_down_13 (k13 : Int32 → HS → Option (Int32 × HS)) (y1 : Int32) (σ : HS) : Option (Int32 × HS) :=
  if 200 < y1.toInt then
    some ((-2), σ)
  else
    Cl (f_X0_howManyUp 60 σ) fun r2 σ1 =>
    if r2.toInt = 0 then
      some (y1, σ1)
    else
      if (σ1.2.2 0) = 30 ∨ (σ1.2.2 0) = 43 then
        if (σ1.2.2 0) = 30 ∨ (σ1.2.2 0) = 43 then
          Cv (f_X4_goOn ((σ1.2.2 0)) 60 1 (σ1.1 ((σ1.2.2 0)) 11) σ1) fun σ5 =>
          Bd (y1 + 1) fun z7 =>
          k13 z7 σ5
        else none
      else none
def f_X11_down_13 : Nat → Int32 → HS → Option (Int32 × HS)
  | 0 => fun _ _ => none
  | n + 1 => fun y1 σ => b_X11_down_13 (f_X11_down_13 n) y1 σ
def f_X11_down (σ : HS) : Option (Int32 × HS) :=
  Cv (f_X0_copy 60 56 σ) fun σ1 =>
  f_X11_down_13 5000 0 σ1
def f_X11_light_147 (k28 : Int32 → Int32 → Int32 → Int32 → Int32 → HS → Option (Int32 × HS)) (y1 : Int32) (y2 : Int32) (y3 : Int32) (y4 : Int32) (y5 : Int32) (σ : HS) : Option (Int32 × HS) :=
  Bd (y5 + 1) fun z1 =>
  k28 y1 y2 y3 y4 z1 σ
def f_X11_light_135 (k28 : Int32 → Int32 → Int32 → Int32 → Int32 → HS → Option (Int32 × HS)) (y1 : Int32) (y2 : Int32) (y5 : Int32) (σ : HS) : Option (Int32 × HS) :=
  Bd (σ.1 60 5) fun z1 =>
  f_X11_light_147 k28 y1 y2 y5 z1 y5 σ
def b_X11_light_28 (k28 : Int32 → Int32 → Int32 → Int32 → Int32 → HS → Option (Int32 × HS)) (y1 : Int32) (y2 : Int32) (y3 : Int32) (y4 : Int32) (y5 : Int32) (σ : HS) : Option (Int32 × HS) :=
  if (σ.2.2 0) = 30 ∨ (σ.2.2 0) = 43 then
    if y5.toInt < (σ.1 ((σ.2.2 0)) 4).toInt then
      if (σ.2.2 0) = 30 ∨ (σ.2.2 0) = 43 then
        if 0 ≤ y5.toInt ∧ y5.toInt < 5 then
          if (σ.2.2 0) = 30 ∨ (σ.2.2 0) = 43 then
            if 0 ≤ y5.toInt ∧ y5.toInt < 5 then
              Cl (f_X11_closingOf ((σ.2.2 0) + 5 + y5.toInt.toNat) (σ.1 ((σ.2.2 0) + 10) y5.toInt.toNat) 1 σ) fun r6 σ5 =>
              Cl (f_X0_howManyUp 56 σ5) fun r8 σ7 =>
              if r6.toInt = r8.toInt then
                Cv (f_X0_copy 60 56 σ7) fun σ9 =>
                Cv (f_X0_takeUp 60 y5 σ9) fun σ11 =>
                if (σ11.2.2 0) = 30 ∨ (σ11.2.2 0) = 43 then
                  if (σ11.2.2 0) = 30 ∨ (σ11.2.2 0) = 43 then
                    Cv (f_X4_goOn ((σ11.2.2 0)) 60 y1 (σ11.1 ((σ11.2.2 0)) 11) σ11) fun σ15 =>
                    if y3.toInt = (-2) then
                      f_X11_light_135 k28 y1 y2 y5 σ15
                    else
                      if (σ15.1 60 5).toInt < y4.toInt then
                        f_X11_light_135 k28 y1 y2 y5 σ15
                      else
                        f_X11_light_147 k28 y1 y2 y3 y4 y5 σ15
                  else none
                else none
              else
                f_X11_light_147 k28 y1 y2 y3 y4 y5 σ7
            else none
          else none
        else none
      else none
    else
      if y2.toInt = 0 then
        some (y3, σ)
      else
        some (y4, σ)
  else none
def f_X11_light_28 : Nat → Int32 → Int32 → Int32 → Int32 → Int32 → HS → Option (Int32 × HS)
  | 0 => fun _ _ _ _ _ _ => none
  | n + 1 => fun y1 y2 y3 y4 y5 σ => b_X11_light_28 (f_X11_light_28 n) y1 y2 y3 y4 y5 σ
def f_X11_light (x1 : Int32) (x2 : Int32) (σ : HS) : Option (Int32 × HS) :=
  Cl (f_X11_isSpan x1 σ) fun r2 σ1 =>
  if r2.toInt = 0 then
    some ((-1), σ1)
  else
    if x2.toInt < 0 then
      some ((-1), σ1)
    else
      if 1 < x2.toInt then
        some ((-1), σ1)
      else
        f_X11_light_28 5000 x1 x2 (-2) (-2) 0 σ1
def f_X11_then (x1 : Int32) (x2 : Int32) (σ : HS) : Option (Int32 × HS) :=
  if x1.toInt < 0 then
    some ((-1), σ)
  else
    if 60 < x1.toInt then
      some ((-1), σ)
    else
      if x2.toInt < 0 then
        some ((-1), σ)
      else
        if 3 < x2.toInt then
          some ((-1), σ)
        else
          Cv (f_X0_copy 60 56 σ) fun σ1 =>
          if (σ1.2.2 0) = 30 ∨ (σ1.2.2 0) = 43 then
            if (σ1.2.2 0) = 30 ∨ (σ1.2.2 0) = 43 then
              Cv (f_X4_goOn ((σ1.2.2 0)) 60 x1 (σ1.1 ((σ1.2.2 0)) 11) σ1) fun σ5 =>
              if x2.toInt = 0 then
                some ((σ5.1 60 5), σ5)
              else
                if x2.toInt = 1 then
                  Cl (f_X0_howManyUp 60 σ5) fun r8 σ7 =>
                  some (r8, σ7)
                else
                  if x2.toInt = 2 then
                    some (((σ5.1 60 6) - (σ5.1 56 6)), σ5)
                  else
                    some (((σ5.1 60 8) - (σ5.1 56 8)), σ5)
            else none
          else none
def f_X11_year_91 (k28 : Int32 → Int32 → Int32 → Int32 → HS → Option (Int32 × HS)) (y1 : Int32) (y2 : Int32) (y3 : Int32) (y4 : Int32) (σ : HS) : Option (Int32 × HS) :=
  Bd (y4 + 1) fun z1 =>
  k28 y1 y2 y3 z1 σ
def b_X11_year_28 (k28 : Int32 → Int32 → Int32 → Int32 → HS → Option (Int32 × HS)) (y1 : Int32) (y2 : Int32) (y3 : Int32) (y4 : Int32) (σ : HS) : Option (Int32 × HS) :=
  if y4.toInt < y2.toInt then
    Cv (f_X0_copy 60 56 σ) fun σ1 =>
    if (σ1.2.2 0) = 30 ∨ (σ1.2.2 0) = 43 then
      if (σ1.2.2 0) = 30 ∨ (σ1.2.2 0) = 43 then
        Cv (f_X4_goOn ((σ1.2.2 0)) 60 y1 ((σ1.1 ((σ1.2.2 0)) 11) + y4) σ1) fun σ5 =>
        if (σ5.1 60 6).toInt = (σ5.1 56 6).toInt then
          Bd (y3 + 1) fun z7 =>
          f_X11_year_91 k28 y1 y2 z7 y4 σ5
        else
          f_X11_year_91 k28 y1 y2 y3 y4 σ5
      else none
    else none
  else
    some (y3, σ)
def f_X11_year_28 : Nat → Int32 → Int32 → Int32 → Int32 → HS → Option (Int32 × HS)
  | 0 => fun _ _ _ _ _ => none
  | n + 1 => fun y1 y2 y3 y4 σ => b_X11_year_28 (f_X11_year_28 n) y1 y2 y3 y4 σ
def f_X11_year (x1 : Int32) (x2 : Int32) (σ : HS) : Option (Int32 × HS) :=
  if x1.toInt < 0 then
    some ((-1), σ)
  else
    if 60 < x1.toInt then
      some ((-1), σ)
    else
      if x2.toInt < 1 then
        some ((-1), σ)
      else
        if 20 < x2.toInt then
          some ((-1), σ)
        else
          f_X11_year_28 5000 x1 x2 0 0 σ
def f_X11_tell (x1 : Int32) (x2 : Int32) (σ : HS) : Option (Int32 × HS) :=
  if x1.toInt < 0 then
    some ((-1), σ)
  else
    if 40 < x1.toInt then
      some ((-1), σ)
    else
      Cl (f_X2_add x1 x2 σ) fun r2 σ1 =>
      some (r2, σ1)
def f_X11_forget (σ : HS) : Option (Int32 × HS) :=
  Bd (σ.1 14 2) fun z1 =>
  Bd (hI σ 14 2 0) fun σ2 =>
  some (z1, σ2)
def f_X11_glitters (x1 : Int32) (x2 : Int32) (σ : HS) : Option (Int32 × HS) :=
  if x1.toInt < 0 then
    some ((-1), σ)
  else
    if (σ.1 14 2).toInt < x1.toInt then
      some ((-1), σ)
    else
      if x2.toInt < 0 then
        some ((-1), σ)
      else
        if 1 < x2.toInt then
          some ((-1), σ)
        else
          Cv (f_X11_findHands 41 σ) fun σ1 =>
          Cl (f_X0_bitsOf 56 0 σ1) fun r4 σ3 =>
          Cl (f_X2_agreeing 27 r4 x1 σ3) fun r6 σ5 =>
          if x2.toInt = 0 then
            Cl (f_J6_bitCount_0f7a4 r6 σ5) fun r8 σ7 =>
            some (r8, σ7)
          else
            some (r6, σ5)
def f_X11_watch_128 (k60 : Int32 → Int32 → Int32 → Int32 → HS → Option (Int32 × HS)) (y2 : Int32) (y3 : Int32) (y4 : Int32) (y5 : Int32) (σ : HS) : Option (Int32 × HS) :=
  Bd (y5 + 1) fun z1 =>
  k60 y2 y3 y4 z1 σ
def f_X11_watch_91 (k60 : Int32 → Int32 → Int32 → Int32 → HS → Option (Int32 × HS)) (y2 : Int32) (y3 : Int32) (y4 : Int32) (y5 : Int32) (v0 : Int32) (σ : HS) : Option (Int32 × HS) :=
  Cl (f_J6_bitCount_0f7a4 (y2 &&& v0) σ) fun r2 σ1 =>
  Cl (f_J6_bitCount_0f7a4 (y2 &&& (v0 ^^^ ((-1) : Int32))) σ1) fun r4 σ3 =>
  Bd (if r2 < r4 then r4 else r2) fun z5 =>
  if z5.toInt < y4.toInt then
    f_X11_watch_128 k60 y2 y5 z5 y5 σ3
  else
    f_X11_watch_128 k60 y2 y3 y4 y5 σ3
def b_X11_watch_60 (k60 : Int32 → Int32 → Int32 → Int32 → HS → Option (Int32 × HS)) (y2 : Int32) (y3 : Int32) (y4 : Int32) (y5 : Int32) (σ : HS) : Option (Int32 × HS) :=
  if 40 < y5.toInt then
    some (y3, σ)
  else
    if 0 ≤ y5.toInt ∧ y5.toInt < 61 then
      if (σ.1 27 y5.toInt.toNat).toInt = (-1) then
        f_X11_watch_91 k60 y2 y3 y4 y5 0 σ
      else
        if 0 ≤ y5.toInt ∧ y5.toInt < 61 then
          f_X11_watch_91 k60 y2 y3 y4 y5 ((1 : Int32) <<< ((σ.1 27 y5.toInt.toNat) &&& 31)) σ
        else none
    else none
def f_X11_watch_60 : Nat → Int32 → Int32 → Int32 → Int32 → HS → Option (Int32 × HS)
  | 0 => fun _ _ _ _ _ => none
  | n + 1 => fun y2 y3 y4 y5 σ => b_X11_watch_60 (f_X11_watch_60 n) y2 y3 y4 y5 σ
def f_X11_watch (x1 : Int32) (σ : HS) : Option (Int32 × HS) :=
  if x1.toInt < 0 then
    some ((-1), σ)
  else
    if (σ.1 14 2).toInt < x1.toInt then
      some ((-1), σ)
    else
      Cv (f_X11_findHands 41 σ) fun σ1 =>
      Cl (f_X0_bitsOf 56 0 σ1) fun r4 σ3 =>
      Cl (f_X2_agreeing 27 r4 x1 σ3) fun r6 σ5 =>
      if r6.toInt = 0 then
        some ((-2), σ5)
      else
        f_X11_watch_60 5000 r6 0 8 0 σ5
def b_X12_put_3 (k3 : Int32 → Int32 → HS → Option (HS)) (y1 : Int32) (y2 : Int32) (σ : HS) : Option (HS) :=
  if y2.toInt < 0 then
    some σ
  else
    if 0 ≤ (σ.1 236 2).toInt ∧ (σ.1 236 2).toInt < 2000 then
      Bd (hI σ 237 (σ.1 236 2).toInt.toNat (vp_nar .byte ((y1 >>> (y2 &&& 31)).toInt8.toInt32))) fun σ1 =>
      Bd (hI σ1 236 2 ((σ1.1 236 2) + (1 : Int32))) fun σ2 =>
      Bd (y2 + (-8)) fun z3 =>
      k3 y1 z3 σ2
    else none
def f_X12_put_3 : Nat → Int32 → Int32 → HS → Option (HS)
  | 0 => fun _ _ _ => none
  | n + 1 => fun y1 y2 σ => b_X12_put_3 (f_X12_put_3 n) y1 y2 σ
def f_X12_put (x1 : Int32) (σ : HS) : Option (HS) :=
  f_X12_put_3 5000 x1 24 σ
def f_X12_feed (x1 : Int32) (x2 : Int32) (x3 : Int32) (x4 : Int32) (x5 : Int32) (σ : HS) : Option (Int32 × HS) :=
  if 2000 < ((σ.1 236 2) + (20 : Int32)).toInt then
    some ((-1), σ)
  else
    Cv (f_X12_put x1 σ) fun σ1 =>
    Cv (f_X12_put x2 σ1) fun σ3 =>
    Cv (f_X12_put x3 σ3) fun σ5 =>
    Cv (f_X12_put x4 σ5) fun σ7 =>
    Cv (f_X12_put x5 σ7) fun σ9 =>
    some ((σ9.1 236 2), σ9)
def f_X12_back (x1 : Int32) (σ : HS) : Option (Int32 × HS) :=
  if x1.toInt < 0 then
    some ((-1), σ)
  else
    if (σ.1 236 2).toInt < x1.toInt then
      some ((-1), σ)
    else
      Bd (hI σ 236 2 ((σ.1 236 2) - x1)) fun σ1 =>
      some ((σ1.1 236 2), σ1)
def f_X12_byteAt (x1 : Int32) (σ : HS) : Option (Int32 × HS) :=
  if x1.toInt < (σ.1 236 4).toInt then
    if 0 ≤ x1.toInt ∧ x1.toInt < 2000 then
      some (((σ.1 238 x1.toInt.toNat) &&& (255 : Int32)), σ)
    else none
  else
    some (0, σ)
def f_X12_isDigit (x1 : Int32) (σ : HS) : Option (Int32 × HS) :=
  if x1.toInt < 48 then
    some (0, σ)
  else
    if 57 < x1.toInt then
      some (0, σ)
    else
      some (1, σ)
def f_X12_isLetter (x1 : Int32) (σ : HS) : Option (Int32 × HS) :=
  if x1.toInt < 97 then
    some (0, σ)
  else
    if 122 < x1.toInt then
      some (0, σ)
    else
      some (1, σ)
def f_X12_token (x1 : Int32) (x2 : Int32) (x3 : Int32) (x4 : Int64) (σ : HS) : Option (HS) :=
  if 0 ≤ (σ.1 236 10).toInt ∧ (σ.1 236 10).toInt < 403 then
    Bd (hI σ 239 (σ.1 236 10).toInt.toNat x1) fun σ1 =>
    if 0 ≤ (σ1.1 236 10).toInt ∧ (σ1.1 236 10).toInt < 403 then
      Bd (hI σ1 240 (σ1.1 236 10).toInt.toNat x2) fun σ2 =>
      if 0 ≤ (σ2.1 236 10).toInt ∧ (σ2.1 236 10).toInt < 403 then
        Bd (hI σ2 241 (σ2.1 236 10).toInt.toNat x3) fun σ3 =>
        if 0 ≤ (σ3.1 236 10).toInt ∧ (σ3.1 236 10).toInt < 403 then
          Bd (hL σ3 242 (σ3.1 236 10).toInt.toNat x4) fun σ4 =>
          Bd (hI σ4 236 10 ((σ4.1 236 10) + (1 : Int32))) fun σ5 =>
          some σ5
        else none
      else none
    else none
  else none
def f_X12_sign_95 (y1 : Int32) (y4 : Int32) (σ : HS) : Option (Int32 × HS) :=
  Cv (f_X12_token y4 y1 0 0 σ) fun σ1 =>
  some (1, σ1)
def f_X12_sign_85 (y1 : Int32) (y2 : Int32) (y4 : Int32) (σ : HS) : Option (Int32 × HS) :=
  if y2.toInt = 60 then
    f_X12_sign_95 y1 13 σ
  else
    f_X12_sign_95 y1 y4 σ
def f_X12_sign_75 (y1 : Int32) (y2 : Int32) (y4 : Int32) (σ : HS) : Option (Int32 × HS) :=
  if y2.toInt = 47 then
    f_X12_sign_85 y1 y2 15 σ
  else
    f_X12_sign_85 y1 y2 y4 σ
def f_X12_sign_65 (y1 : Int32) (y2 : Int32) (y4 : Int32) (σ : HS) : Option (Int32 × HS) :=
  if y2.toInt = 42 then
    f_X12_sign_75 y1 y2 10 σ
  else
    f_X12_sign_75 y1 y2 y4 σ
def f_X12_sign_55 (y1 : Int32) (y2 : Int32) (y4 : Int32) (σ : HS) : Option (Int32 × HS) :=
  if y2.toInt = 45 then
    f_X12_sign_65 y1 y2 9 σ
  else
    f_X12_sign_65 y1 y2 y4 σ
def f_X12_sign_43 (y1 : Int32) (y2 : Int32) (v0 : Int32) (σ : HS) : Option (Int32 × HS) :=
  if y2.toInt = 43 then
    f_X12_sign_55 y1 y2 8 σ
  else
    f_X12_sign_55 y1 y2 v0 σ
def f_X12_sign (x1 : Int32) (x2 : Int32) (x3 : Int32) (σ : HS) : Option (Int32 × HS) :=
  if x2.toInt = 59 then
    f_X12_sign_43 x1 x2 4 σ
  else
    if x2.toInt = 61 then
      f_X12_sign_43 x1 x2 5 σ
    else
      if x2.toInt = 40 then
        f_X12_sign_43 x1 x2 6 σ
      else
        if x2.toInt = 41 then
          f_X12_sign_43 x1 x2 7 σ
        else
          f_X12_sign_43 x1 x2 3 σ
def f_X12_appends_21 (v0 : Int64) (σ : HS) : Option (Int64 × HS) :=
  some (v0, σ)
def f_X12_appends (x1 : Int64) (x2 : Int32) (σ : HS) : Option (Int64 × HS) :=
  if x2.toInt = 0 then
    f_X12_appends_21 x1 σ
  else
    f_X12_appends_21 ((27 * x1) + (((x2 - (97 : Int32)) + (1 : Int32)).toInt64)) σ
def f_X12_cut_291 (k7 : Int32 → HS → Option (HS)) (y1 : Int32) (σ : HS) : Option (HS) :=
  k7 y1 σ
def f_X12_cut_67 (k7 : Int32 → HS → Option (HS)) (y1 : Int32) (σ : HS) : Option (HS) :=
  Bd (y1 + 1) fun z1 =>
  f_X12_cut_291 k7 z1 σ
def f_X12_cut_261 (k7 : Int32 → HS → Option (HS)) (y1 : Int32) (y3 : Int32) (y4 : Int32) (v0 : Int32) (σ : HS) : Option (HS) :=
  Cv (f_X12_token v0 y1 y4 0 σ) fun σ1 =>
  Bd (y1 + y3) fun z3 =>
  f_X12_cut_291 k7 z3 σ1
def f_X12_cut_244 (k7 : Int32 → HS → Option (HS)) (k208 : Int32 → Int32 → Int32 → HS → Option (HS)) (y1 : Int32) (y3 : Int32) (y4 : Int32) (σ : HS) : Option (HS) :=
  Bd (y3 + 1) fun z1 =>
  k208 y1 z1 y4 σ
def b_X12_cut_208 (k7 : Int32 → HS → Option (HS)) (k208 : Int32 → Int32 → Int32 → HS → Option (HS)) (y1 : Int32) (y3 : Int32) (y4 : Int32) (σ : HS) : Option (HS) :=
  Cl (f_X12_byteAt (y1 + y3) σ) fun r2 σ1 =>
  Cl (f_X12_isDigit r2 σ1) fun r4 σ3 =>
  if r4.toInt = 0 then
    if 4 < y3.toInt then
      f_X12_cut_261 k7 y1 y3 y4 3 σ3
    else
      f_X12_cut_261 k7 y1 y3 y4 2 σ3
  else
    if y3.toInt < 4 then
      Cl (f_X12_byteAt (y1 + y3) σ3) fun r6 σ5 =>
      Bd ((((10 : Int32) * y4) + r6) - (48 : Int32)) fun z7 =>
      f_X12_cut_244 k7 k208 y1 y3 z7 σ5
    else
      f_X12_cut_244 k7 k208 y1 y3 y4 σ3
def f_X12_cut_208 (k7 : Int32 → HS → Option (HS)) : Nat → Int32 → Int32 → Int32 → HS → Option (HS)
  | 0 => fun _ _ _ _ => none
  | n + 1 => fun y1 y3 y4 σ => b_X12_cut_208 k7 (f_X12_cut_208 k7 n) y1 y3 y4 σ
def f_X12_cut_179 (k7 : Int32 → HS → Option (HS)) (y1 : Int32) (y3 : Int32) (y4 : Int64) (y6 : Int32) (σ : HS) : Option (HS) :=
  Cv (f_X12_token y6 y1 0 y4 σ) fun σ1 =>
  Bd (y1 + y3) fun z3 =>
  f_X12_cut_291 k7 z3 σ1
def f_X12_cut_173 (k7 : Int32 → HS → Option (HS)) (k146 : Int32 → Int32 → Int64 → Int32 → Int32 → HS → Option (HS)) (y1 : Int32) (y3 : Int32) (y4 : Int64) (y6 : Int32) (y7 : Int32) (σ : HS) : Option (HS) :=
  Bd (y7 + 1) fun z1 =>
  k146 y1 y3 y4 y6 z1 σ
def b_X12_cut_146 (k7 : Int32 → HS → Option (HS)) (k146 : Int32 → Int32 → Int64 → Int32 → Int32 → HS → Option (HS)) (y1 : Int32) (y3 : Int32) (y4 : Int64) (y6 : Int32) (y7 : Int32) (σ : HS) : Option (HS) :=
  if y7.toInt < 20 then
    if 0 ≤ y7.toInt ∧ y7.toInt < 20 then
      if (lg_cmp (σ.2.1 243 y7.toInt.toNat) y4).toInt = 0 then
        Bd ((20 : Int32) + y7) fun z1 =>
        f_X12_cut_173 k7 k146 y1 y3 y4 z1 y7 σ
      else
        f_X12_cut_173 k7 k146 y1 y3 y4 y6 y7 σ
    else none
  else
    f_X12_cut_179 k7 y1 y3 y4 y6 σ
def f_X12_cut_146 (k7 : Int32 → HS → Option (HS)) : Nat → Int32 → Int32 → Int64 → Int32 → Int32 → HS → Option (HS)
  | 0 => fun _ _ _ _ _ _ => none
  | n + 1 => fun y1 y3 y4 y6 y7 σ => b_X12_cut_146 k7 (f_X12_cut_146 k7 n) y1 y3 y4 y6 y7 σ
def f_X12_cut_135 (k7 : Int32 → HS → Option (HS)) (y1 : Int32) (y3 : Int32) (y4 : Int64) (v0 : Int32) (σ : HS) : Option (HS) :=
  if 8 < y3.toInt then
    f_X12_cut_179 k7 y1 y3 y4 v0 σ
  else
    f_X12_cut_146 k7 5000 y1 y3 y4 v0 0 σ
def f_X12_cut_118 (k7 : Int32 → HS → Option (HS)) (k85 : Int32 → Int32 → Int64 → HS → Option (HS)) (y1 : Int32) (y3 : Int32) (y4 : Int64) (σ : HS) : Option (HS) :=
  Bd (y3 + 1) fun z1 =>
  k85 y1 z1 y4 σ
def b_X12_cut_85 (k7 : Int32 → HS → Option (HS)) (k85 : Int32 → Int32 → Int64 → HS → Option (HS)) (y1 : Int32) (y3 : Int32) (y4 : Int64) (σ : HS) : Option (HS) :=
  Cl (f_X12_byteAt (y1 + y3) σ) fun r2 σ1 =>
  Cl (f_X12_isLetter r2 σ1) fun r4 σ3 =>
  if r4.toInt = 0 then
    if 8 < y3.toInt then
      f_X12_cut_135 k7 y1 y3 y4 3 σ3
    else
      f_X12_cut_135 k7 y1 y3 y4 1 σ3
  else
    if y3.toInt < 8 then
      Cl (f_X12_byteAt (y1 + y3) σ3) fun r6 σ5 =>
      Cl (f_X12_appends y4 r6 σ5) fun r8 σ7 =>
      f_X12_cut_118 k7 k85 y1 y3 r8 σ7
    else
      f_X12_cut_118 k7 k85 y1 y3 y4 σ3
def f_X12_cut_85 (k7 : Int32 → HS → Option (HS)) : Nat → Int32 → Int32 → Int64 → HS → Option (HS)
  | 0 => fun _ _ _ _ => none
  | n + 1 => fun y1 y3 y4 σ => b_X12_cut_85 k7 (f_X12_cut_85 k7 n) y1 y3 y4 σ
def b_X12_cut_7 (k7 : Int32 → HS → Option (HS)) (y1 : Int32) (σ : HS) : Option (HS) :=
  if 400 < (σ.1 236 10).toInt then
    some σ
  else
    Cl (f_X12_byteAt y1 σ) fun r2 σ1 =>
    if y1.toInt < (σ1.1 236 4).toInt then
      if r2.toInt = 9 then
        f_X12_cut_67 k7 y1 σ1
      else
        if r2.toInt = 10 then
          f_X12_cut_67 k7 y1 σ1
        else
          if r2.toInt = 13 then
            f_X12_cut_67 k7 y1 σ1
          else
            if r2.toInt = 32 then
              f_X12_cut_67 k7 y1 σ1
            else
              Cl (f_X12_isLetter r2 σ1) fun r4 σ3 =>
              if r4.toInt = 0 then
                Cl (f_X12_isDigit r2 σ3) fun r6 σ5 =>
                if r6.toInt = 0 then
                  Cl (f_X12_byteAt (y1 + (1 : Int32)) σ5) fun r8 σ7 =>
                  Cl (f_X12_sign y1 r2 r8 σ7) fun r10 σ9 =>
                  Bd (y1 + r10) fun z11 =>
                  f_X12_cut_291 k7 z11 σ9
                else
                  f_X12_cut_208 k7 5000 y1 0 0 σ5
              else
                f_X12_cut_85 k7 5000 y1 0 0 σ3
    else
      Cv (f_X12_token 0 (σ1.1 236 4) 0 0 σ1) fun σ12 =>
      some σ12
def f_X12_cut_7 : Nat → Int32 → HS → Option (HS)
  | 0 => fun _ _ => none
  | n + 1 => fun y1 σ => b_X12_cut_7 (f_X12_cut_7 n) y1 σ
def f_X12_cut (σ : HS) : Option (HS) :=
  Bd (hI σ 236 10 0) fun σ1 =>
  f_X12_cut_7 5000 0 σ1
def f_X12_is (x1 : Int32) (σ : HS) : Option (Int32 × HS) :=
  if (σ.1 236 13).toInt = 0 then
    if 0 ≤ (σ.1 236 11).toInt ∧ (σ.1 236 11).toInt < 403 then
      if (σ.1 239 (σ.1 236 11).toInt.toNat).toInt = x1.toInt then
        some (1, σ)
      else
        some (0, σ)
    else none
  else
    some (0, σ)
def f_X12_fail (x1 : Int32) (σ : HS) : Option (HS) :=
  if 0 < (σ.1 236 13).toInt then
    some σ
  else
    Bd (hI σ 236 13 x1) fun σ1 =>
    if 0 ≤ (σ1.1 236 11).toInt ∧ (σ1.1 236 11).toInt < 403 then
      Bd (hI σ1 236 14 (σ1.1 240 (σ1.1 236 11).toInt.toNat)) fun σ2 =>
      some σ2
    else none
def f_X12_wrong_46 (y1 : Int32) (y3 : Int32) (σ : HS) : Option (HS) :=
  Bd (hI σ 236 15 y1) fun σ1 =>
  Bd (hI σ1 236 16 y3) fun σ2 =>
  some σ2
def f_X12_wrong (x1 : Int32) (x2 : Int32) (σ : HS) : Option (HS) :=
  if 0 ≤ x2.toInt ∧ x2.toInt < 403 then
    Bd (σ.1 240 x2.toInt.toNat) fun z1 =>
    if 0 < (σ.1 236 13).toInt then
      some σ
    else
      if (σ.1 236 15).toInt = 0 then
        f_X12_wrong_46 x1 z1 σ
      else
        if (σ.1 236 16).toInt < z1.toInt then
          some σ
        else
          if z1.toInt = (σ.1 236 16).toInt then
            if x1.toInt < (σ.1 236 15).toInt then
              f_X12_wrong_46 x1 z1 σ
            else
              some σ
          else
            f_X12_wrong_46 x1 z1 σ
  else none
def f_X12_goesOn (σ : HS) : Option (HS) :=
  if (σ.1 236 11).toInt = 400 then
    Cv (f_X12_fail 2 σ) fun σ2 =>
    some σ2
  else
    Bd (hI σ 236 11 ((σ.1 236 11) + (1 : Int32))) fun σ1 =>
    some σ1
def f_X12_must (x1 : Int32) (σ : HS) : Option (HS) :=
  Cl (f_X12_is x1 σ) fun r2 σ1 =>
  if r2.toInt = 0 then
    Cv (f_X12_fail 1 σ1) fun σ3 =>
    some σ3
  else
    Cv (f_X12_goesOn σ1) fun σ5 =>
    some σ5
def b_X12_plain_30 (k30 : Int32 → Int32 → HS → Option (HS)) (y1 : Int32) (y2 : Int32) (σ : HS) : Option (HS) :=
  if y2.toInt < 4 then
    if 0 ≤ (((4 : Int32) * y1) + y2).toInt ∧ (((4 : Int32) * y1) + y2).toInt < 8 then
      Bd (hI σ 254 (((4 : Int32) * y1) + y2).toInt.toNat 0) fun σ1 =>
      if 0 ≤ (((4 : Int32) * y1) + y2).toInt ∧ (((4 : Int32) * y1) + y2).toInt < 8 then
        Bd (hI σ1 255 (((4 : Int32) * y1) + y2).toInt.toNat 0) fun σ2 =>
        Bd (y2 + 1) fun z3 =>
        k30 y1 z3 σ2
      else none
    else none
  else
    some σ
def f_X12_plain_30 : Nat → Int32 → Int32 → HS → Option (HS)
  | 0 => fun _ _ _ => none
  | n + 1 => fun y1 y2 σ => b_X12_plain_30 (f_X12_plain_30 n) y1 y2 σ
def f_X12_plain (x1 : Int32) (σ : HS) : Option (HS) :=
  if 0 ≤ x1.toInt ∧ x1.toInt < 2 then
    Bd (hI σ 245 x1.toInt.toNat 0) fun σ1 =>
    if 0 ≤ x1.toInt ∧ x1.toInt < 2 then
      Bd (hI σ1 249 x1.toInt.toNat 0) fun σ2 =>
      if 0 ≤ x1.toInt ∧ x1.toInt < 2 then
        Bd (hI σ2 252 x1.toInt.toNat 1) fun σ3 =>
        if 0 ≤ x1.toInt ∧ x1.toInt < 2 then
          Bd (hI σ3 253 x1.toInt.toNat 0) fun σ4 =>
          f_X12_plain_30 5000 x1 0 σ4
        else none
      else none
    else none
  else none
def f_X12_begins_89 (v0 : Int32) (v1 : Int32) (σ : HS) : Option (HS) :=
  if 0 ≤ v1.toInt ∧ v1.toInt < 29 then
    Bd (hI σ 267 v1.toInt.toNat v0) fun σ1 =>
    Bd (hI σ1 267 28 (-1)) fun σ2 =>
    if 0 ≤ (σ2.1 236 18).toInt ∧ (σ2.1 236 18).toInt < 2 then
      Bd (hI σ2 236 49 (σ2.1 253 (σ2.1 236 18).toInt.toNat)) fun σ3 =>
      Bd (hI σ3 236 50 0) fun σ4 =>
      some σ4
    else none
  else none
def b_X12_begins_23 (k23 : Int32 → HS → Option (HS)) (y1 : Int32) (σ : HS) : Option (HS) :=
  if 0 ≤ (σ.1 236 18).toInt ∧ (σ.1 236 18).toInt < 2 then
    if y1.toInt < (σ.1 245 (σ.1 236 18).toInt.toNat).toInt then
      if 0 ≤ (((7 : Int32) * (σ.1 236 18)) + y1).toInt ∧ (((7 : Int32) * (σ.1 236 18)) + y1).toInt < 14 then
        if 0 ≤ ((7 : Int32) + y1).toInt ∧ ((7 : Int32) + y1).toInt < 29 then
          Bd (hI σ 267 ((7 : Int32) + y1).toInt.toNat (σ.1 248 (((7 : Int32) * (σ.1 236 18)) + y1).toInt.toNat)) fun σ1 =>
          Bd (y1 + 1) fun z2 =>
          k23 z2 σ1
        else none
      else none
    else
      if 0 ≤ (σ.1 236 18).toInt ∧ (σ.1 236 18).toInt < 2 then
        if 0 < (σ.1 249 (σ.1 236 18).toInt.toNat).toInt then
          f_X12_begins_89 0 26 σ
        else
          f_X12_begins_89 (-2) 26 σ
      else none
  else none
def f_X12_begins_23 : Nat → Int32 → HS → Option (HS)
  | 0 => fun _ _ => none
  | n + 1 => fun y1 σ => b_X12_begins_23 (f_X12_begins_23 n) y1 σ
def b_X12_begins_2 (k2 : Int32 → HS → Option (HS)) (y1 : Int32) (σ : HS) : Option (HS) :=
  if y1.toInt < 29 then
    if 0 ≤ y1.toInt ∧ y1.toInt < 29 then
      Bd (hI σ 267 y1.toInt.toNat 0) fun σ1 =>
      Bd (y1 + 1) fun z2 =>
      k2 z2 σ1
    else none
  else
    f_X12_begins_23 5000 0 σ
def f_X12_begins_2 : Nat → Int32 → HS → Option (HS)
  | 0 => fun _ _ => none
  | n + 1 => fun y1 σ => b_X12_begins_2 (f_X12_begins_2 n) y1 σ
def f_X12_begins (σ : HS) : Option (HS) :=
  f_X12_begins_2 5000 0 σ
def b_X12_keepsRow_2 (k2 : Int32 → HS → Option (HS)) (y1 : Int32) (σ : HS) : Option (HS) :=
  if y1.toInt < 29 then
    if 0 ≤ y1.toInt ∧ y1.toInt < 29 then
      if 0 ≤ y1.toInt ∧ y1.toInt < 29 then
        Bd (hI σ 266 y1.toInt.toNat (σ.1 267 y1.toInt.toNat)) fun σ1 =>
        Bd (y1 + 1) fun z2 =>
        k2 z2 σ1
      else none
    else none
  else
    some σ
def f_X12_keepsRow_2 : Nat → Int32 → HS → Option (HS)
  | 0 => fun _ _ => none
  | n + 1 => fun y1 σ => b_X12_keepsRow_2 (f_X12_keepsRow_2 n) y1 σ
def f_X12_keepsRow (σ : HS) : Option (HS) :=
  f_X12_keepsRow_2 5000 0 σ
def f_X12_roomFor_10 (σ : HS) : Option (HS) :=
  if (σ.1 236 13).toInt = 0 then
    Cv (f_X12_goesOn σ) fun σ1 =>
    some σ1
  else
    some σ
def f_X12_roomFor (x1 : Int32) (x2 : Int32) (σ : HS) : Option (HS) :=
  if x1.toInt = x2.toInt then
    Cv (f_X12_fail 2 σ) fun σ1 =>
    f_X12_roomFor_10 σ1
  else
    f_X12_roomFor_10 σ
def f_X12_named_49 (k12 : Int32 → Int32 → HS → Option (Int32 × HS)) (y1 : Int32) (y2 : Int32) (σ : HS) : Option (Int32 × HS) :=
  Bd (y2 + 1) fun z1 =>
  k12 y1 z1 σ
def b_X12_named_12 (k12 : Int32 → Int32 → HS → Option (Int32 × HS)) (y1 : Int32) (y2 : Int32) (σ : HS) : Option (Int32 × HS) :=
  if y2.toInt < (σ.1 236 20).toInt then
    if (σ.1 236 13).toInt = 0 then
      if 0 ≤ y2.toInt ∧ y2.toInt < 12 then
        if 0 ≤ y1.toInt ∧ y1.toInt < 403 then
          if (lg_cmp (σ.2.1 244 y2.toInt.toNat) (σ.2.1 242 y1.toInt.toNat)).toInt = 0 then
            Cv (f_X12_wrong 3 y1 σ) fun σ1 =>
            f_X12_named_49 k12 y1 y2 σ1
          else
            f_X12_named_49 k12 y1 y2 σ
        else none
      else none
    else
      some (y1, σ)
  else
    some (y1, σ)
def f_X12_named_12 : Nat → Int32 → Int32 → HS → Option (Int32 × HS)
  | 0 => fun _ _ _ => none
  | n + 1 => fun y1 y2 σ => b_X12_named_12 (f_X12_named_12 n) y1 y2 σ
def f_X12_named (σ : HS) : Option (Int32 × HS) :=
  Bd (σ.1 236 11) fun z1 =>
  Cv (f_X12_must 1 σ) fun σ2 =>
  f_X12_named_12 5000 z1 0 σ2
def f_X12_bounded_15 (y1 : Int32) (σ : HS) : Option (Int32 × HS) :=
  Cv (f_X12_fail 1 σ) fun σ1 =>
  some (y1, σ1)
def f_X12_bounded_51 (y3 : Int32) (σ : HS) : Option (Int32 × HS) :=
  Cv (f_X12_goesOn σ) fun σ1 =>
  some (y3, σ1)
def f_X12_bounded_42 (y3 : Int32) (σ : HS) : Option (Int32 × HS) :=
  Cv (f_X12_wrong 5 (σ.1 236 11) σ) fun σ1 =>
  f_X12_bounded_51 y3 σ1
def f_X12_bounded (x1 : Int32) (x2 : Int32) (σ : HS) : Option (Int32 × HS) :=
  if 0 < (σ.1 236 13).toInt then
    f_X12_bounded_15 x1 σ
  else
    Cl (f_X12_is 2 σ) fun r2 σ1 =>
    if r2.toInt = 0 then
      f_X12_bounded_15 x1 σ1
    else
      if 0 ≤ (σ1.1 236 11).toInt ∧ (σ1.1 236 11).toInt < 403 then
        Bd (σ1.1 241 (σ1.1 236 11).toInt.toNat) fun z3 =>
        if z3.toInt < x1.toInt then
          f_X12_bounded_42 z3 σ1
        else
          if x2.toInt < z3.toInt then
            f_X12_bounded_42 z3 σ1
          else
            f_X12_bounded_51 z3 σ1
      else none
def f_X12_ends (x1 : Int32) (σ : HS) : Option (HS) :=
  Cv (f_X12_must 4 σ) fun σ1 =>
  if 0 < (σ1.1 236 13).toInt then
    some σ1
  else
    if 0 ≤ x1.toInt ∧ x1.toInt < 403 then
      if 0 ≤ (σ1.1 236 20).toInt ∧ (σ1.1 236 20).toInt < 12 then
        Bd (hL σ1 244 (σ1.1 236 20).toInt.toNat (σ1.2.1 242 x1.toInt.toNat)) fun σ3 =>
        Bd (hI σ3 236 20 ((σ3.1 236 20) + (1 : Int32))) fun σ4 =>
        some σ4
      else none
    else none
def f_X12_tellThing (σ : HS) : Option (HS) :=
  if 0 ≤ (σ.1 236 19).toInt ∧ (σ.1 236 19).toInt < 2 then
    Bd (((7 : Int32) * (σ.1 236 19)) + (σ.1 245 (σ.1 236 19).toInt.toNat)) fun z1 =>
    Cl (f_X12_named σ) fun r3 σ2 =>
    Cl (f_X12_bounded 1 9 σ2) fun r5 σ4 =>
    if 0 ≤ z1.toInt ∧ z1.toInt < 14 then
      Bd (hI σ4 246 z1.toInt.toNat r5) fun σ6 =>
      Cl (f_X12_bounded 0 9 σ6) fun r8 σ7 =>
      if 0 ≤ z1.toInt ∧ z1.toInt < 14 then
        Bd (hI σ7 247 z1.toInt.toNat r8) fun σ9 =>
        Cl (f_X12_bounded 0 9 σ9) fun r11 σ10 =>
        if 0 ≤ z1.toInt ∧ z1.toInt < 14 then
          Bd (hI σ10 248 z1.toInt.toNat r11) fun σ12 =>
          Cv (f_X12_ends r3 σ12) fun σ13 =>
          if (σ13.1 236 13).toInt = 0 then
            if 0 ≤ (σ13.1 236 19).toInt ∧ (σ13.1 236 19).toInt < 2 then
              if 0 ≤ (σ13.1 236 19).toInt ∧ (σ13.1 236 19).toInt < 2 then
                Bd (hI σ13 245 (σ13.1 236 19).toInt.toNat ((σ13.1 245 (σ13.1 236 19).toInt.toNat) + (1 : Int32))) fun σ15 =>
                some σ15
              else none
            else none
          else
            some σ13
        else none
      else none
    else none
  else none
def f_X12_tellPattern_120 (y2 : Int32) (σ : HS) : Option (HS) :=
  Cv (f_X12_ends y2 σ) fun σ1 =>
  if (σ1.1 236 13).toInt = 0 then
    if 0 ≤ (σ1.1 236 19).toInt ∧ (σ1.1 236 19).toInt < 2 then
      if 0 ≤ (σ1.1 236 19).toInt ∧ (σ1.1 236 19).toInt < 2 then
        Bd (hI σ1 249 (σ1.1 236 19).toInt.toNat ((σ1.1 249 (σ1.1 236 19).toInt.toNat) + (1 : Int32))) fun σ3 =>
        some σ3
      else none
    else none
  else
    some σ1
def f_X12_tellPattern_76 (k45 : Int32 → Int32 → HS → Option (HS)) (y1 : Int32) (y2 : Int32) (σ : HS) : Option (HS) :=
  if 0 < (σ.1 236 13).toInt then
    some σ
  else
    if 0 ≤ y1.toInt ∧ y1.toInt < 10 then
      Cl (f_X12_bounded 0 9 σ) fun r2 σ1 =>
      if 0 ≤ (((8 : Int32) * y1) + (σ.1 250 y1.toInt.toNat)).toInt ∧ (((8 : Int32) * y1) + (σ.1 250 y1.toInt.toNat)).toInt < 80 then
        Bd (hI σ1 251 (((8 : Int32) * y1) + (σ.1 250 y1.toInt.toNat)).toInt.toNat r2) fun σ3 =>
        if 0 ≤ y1.toInt ∧ y1.toInt < 10 then
          if 0 ≤ y1.toInt ∧ y1.toInt < 10 then
            Bd (hI σ3 250 y1.toInt.toNat ((σ3.1 250 y1.toInt.toNat) + (1 : Int32))) fun σ4 =>
            k45 y1 y2 σ4
          else none
        else none
      else none
    else none
def b_X12_tellPattern_45 (k45 : Int32 → Int32 → HS → Option (HS)) (y1 : Int32) (y2 : Int32) (σ : HS) : Option (HS) :=
  if (σ.1 236 13).toInt = 0 then
    Cl (f_X12_is 2 σ) fun r2 σ1 =>
    if r2.toInt = 0 then
      f_X12_tellPattern_120 y2 σ1
    else
      if 0 ≤ y1.toInt ∧ y1.toInt < 10 then
        if (σ1.1 250 y1.toInt.toNat).toInt = 8 then
          Cv (f_X12_fail 2 σ1) fun σ3 =>
          f_X12_tellPattern_76 k45 y1 y2 σ3
        else
          f_X12_tellPattern_76 k45 y1 y2 σ1
      else none
  else
    f_X12_tellPattern_120 y2 σ
def f_X12_tellPattern_45 : Nat → Int32 → Int32 → HS → Option (HS)
  | 0 => fun _ _ _ => none
  | n + 1 => fun y1 y2 σ => b_X12_tellPattern_45 (f_X12_tellPattern_45 n) y1 y2 σ
def f_X12_tellPattern (σ : HS) : Option (HS) :=
  if 0 ≤ (σ.1 236 19).toInt ∧ (σ.1 236 19).toInt < 2 then
    Bd (((5 : Int32) * (σ.1 236 19)) + (σ.1 249 (σ.1 236 19).toInt.toNat)) fun z1 =>
    Cl (f_X12_named σ) fun r3 σ2 =>
    Cl (f_X12_bounded 0 9 σ2) fun r5 σ4 =>
    if 0 ≤ ((8 : Int32) * z1).toInt ∧ ((8 : Int32) * z1).toInt < 80 then
      Bd (hI σ4 251 ((8 : Int32) * z1).toInt.toNat r5) fun σ6 =>
      if 0 ≤ z1.toInt ∧ z1.toInt < 10 then
        Bd (hI σ6 250 z1.toInt.toNat 1) fun σ7 =>
        f_X12_tellPattern_45 5000 z1 r3 σ7
      else none
    else none
  else none
def f_X12_toldInt (x1 : Int32) (x2 : Int32) (σ : HS) : Option (Int32 × HS) :=
  Cv (f_X12_goesOn σ) fun σ1 =>
  Cl (f_X12_bounded x1 x2 σ1) fun r4 σ3 =>
  Cv (f_X12_must 4 σ3) fun σ5 =>
  some (r4, σ5)
def f_X12_emit (x1 : Int32) (x2 : Int32) (σ : HS) : Option (HS) :=
  if 0 ≤ (σ.1 236 39).toInt ∧ (σ.1 236 39).toInt < 840 then
    Bd (hI σ 261 (σ.1 236 39).toInt.toNat x1) fun σ1 =>
    if 0 ≤ (σ1.1 236 39).toInt ∧ (σ1.1 236 39).toInt < 840 then
      Bd (hI σ1 262 (σ1.1 236 39).toInt.toNat x2) fun σ2 =>
      Bd (hI σ2 236 39 ((σ2.1 236 39) + (1 : Int32))) fun σ3 =>
      some σ3
    else none
  else none
def f_X12_unit_88 (σ : HS) : Option (HS) :=
  Cv (f_X12_fail 1 σ) fun σ1 =>
  some σ1
def f_X12_unit (σ : HS) : Option (HS) :=
  Cl (f_X12_is 2 σ) fun r2 σ1 =>
  if r2.toInt = 0 then
    if (σ1.1 236 13).toInt = 0 then
      if 0 ≤ (σ1.1 236 11).toInt ∧ (σ1.1 236 11).toInt < 403 then
        if (σ1.1 239 (σ1.1 236 11).toInt.toNat).toInt < 31 then
          f_X12_unit_88 σ1
        else
          if 0 ≤ (σ1.1 236 11).toInt ∧ (σ1.1 236 11).toInt < 403 then
            if 39 < (σ1.1 239 (σ1.1 236 11).toInt.toNat).toInt then
              f_X12_unit_88 σ1
            else
              if 0 ≤ (σ1.1 236 11).toInt ∧ (σ1.1 236 11).toInt < 403 then
                Cv (f_X12_emit 1 ((σ1.1 239 (σ1.1 236 11).toInt.toNat) - (31 : Int32)) σ1) fun σ3 =>
                Cv (f_X12_goesOn σ3) fun σ5 =>
                some σ5
              else none
          else none
      else none
    else
      f_X12_unit_88 σ1
  else
    if 0 ≤ (σ1.1 236 11).toInt ∧ (σ1.1 236 11).toInt < 403 then
      Cv (f_X12_emit 0 (σ1.1 241 (σ1.1 236 11).toInt.toNat) σ1) fun σ7 =>
      Cv (f_X12_goesOn σ7) fun σ9 =>
      some σ9
    else none
def f_X12_comesOut_84 (k0 : Int32 → HS → Option (HS)) (y1 : Int32) (v0 : Int32) (σ : HS) : Option (HS) :=
  Cv (f_X12_emit v0 0 σ) fun σ1 =>
  k0 y1 σ1
def f_X12_comesOut_42 (k0 : Int32 → HS → Option (HS)) (y1 : Int32) (y2 : Int32) (σ : HS) : Option (HS) :=
  Bd (hI σ 236 43 ((σ.1 236 43) - (1 : Int32))) fun σ1 =>
  if y2.toInt = 8 then
    f_X12_comesOut_84 k0 y1 2 σ1
  else
    if y2.toInt = 9 then
      f_X12_comesOut_84 k0 y1 3 σ1
    else
      if y2.toInt = 10 then
        f_X12_comesOut_84 k0 y1 4 σ1
      else
        f_X12_comesOut_84 k0 y1 5 σ1
def b_X12_comesOut_0 (k0 : Int32 → HS → Option (HS)) (y1 : Int32) (σ : HS) : Option (HS) :=
  if 0 < (σ.1 236 43).toInt then
    if 0 ≤ ((σ.1 236 43) - (1 : Int32)).toInt ∧ ((σ.1 236 43) - (1 : Int32)).toInt < 64 then
      Bd (σ.1 263 ((σ.1 236 43) - (1 : Int32)).toInt.toNat) fun z1 =>
      if z1.toInt = 6 then
        some σ
      else
        if y1.toInt = 0 then
          f_X12_comesOut_42 k0 y1 z1 σ
        else
          if z1.toInt = 8 then
            some σ
          else
            if z1.toInt = 9 then
              some σ
            else
              f_X12_comesOut_42 k0 y1 z1 σ
    else none
  else
    some σ
def f_X12_comesOut_0 : Nat → Int32 → HS → Option (HS)
  | 0 => fun _ _ => none
  | n + 1 => fun y1 σ => b_X12_comesOut_0 (f_X12_comesOut_0 n) y1 σ
def f_X12_comesOut (x1 : Int32) (σ : HS) : Option (HS) :=
  f_X12_comesOut_0 5000 x1 σ
def f_X12_expression_234 (k12 : Int32 → Int32 → HS → Option (HS)) (y1 : Int32) (y2 : Int32) (v0 : Int32) (σ : HS) : Option (HS) :=
  Cv (f_X12_comesOut v0 σ) fun σ1 =>
  if 0 ≤ (σ1.1 236 11).toInt ∧ (σ1.1 236 11).toInt < 403 then
    if 0 ≤ (σ1.1 236 43).toInt ∧ (σ1.1 236 43).toInt < 64 then
      Bd (hI σ1 263 (σ1.1 236 43).toInt.toNat (σ1.1 239 (σ1.1 236 11).toInt.toNat)) fun σ3 =>
      Bd (hI σ3 236 43 ((σ3.1 236 43) + (1 : Int32))) fun σ4 =>
      Cv (f_X12_goesOn σ4) fun σ5 =>
      k12 y1 y2 σ5
    else none
  else none
def f_X12_expression_229 (k12 : Int32 → Int32 → HS → Option (HS)) (y1 : Int32) (y2 : Int32) (σ : HS) : Option (HS) :=
  f_X12_expression_234 k12 y1 y2 1 σ
def f_X12_expression_204 (σ : HS) : Option (HS) :=
  Cv (f_X12_comesOut 0 σ) fun σ1 =>
  some σ1
def f_X12_expression_186 (k12 : Int32 → Int32 → HS → Option (HS)) (y1 : Int32) (v0 : Int32) (σ : HS) : Option (HS) :=
  if v0.toInt = 0 then
    if y1.toInt < (σ.1 236 12).toInt then
      Cv (f_X12_fail 1 σ) fun σ5 =>
      f_X12_expression_204 σ5
    else
      f_X12_expression_204 σ
  else
    Cl (f_X12_is 10 σ) fun r2 σ1 =>
    if r2.toInt = 0 then
      Cl (f_X12_is 15 σ1) fun r4 σ3 =>
      if r4.toInt = 0 then
        f_X12_expression_234 k12 y1 v0 0 σ3
      else
        f_X12_expression_229 k12 y1 v0 σ3
    else
      f_X12_expression_229 k12 y1 v0 σ1
def f_X12_expression_181 (k12 : Int32 → Int32 → HS → Option (HS)) (y1 : Int32) (σ : HS) : Option (HS) :=
  f_X12_expression_186 k12 y1 1 σ
def f_X12_expression_145 (k12 : Int32 → Int32 → HS → Option (HS)) (y1 : Int32) (σ : HS) : Option (HS) :=
  Cl (f_X12_is 8 σ) fun r2 σ1 =>
  if r2.toInt = 0 then
    Cl (f_X12_is 9 σ1) fun r4 σ3 =>
    if r4.toInt = 0 then
      Cl (f_X12_is 10 σ3) fun r6 σ5 =>
      if r6.toInt = 0 then
        Cl (f_X12_is 15 σ5) fun r8 σ7 =>
        if r8.toInt = 0 then
          f_X12_expression_186 k12 y1 0 σ7
        else
          f_X12_expression_181 k12 y1 σ7
      else
        f_X12_expression_181 k12 y1 σ5
    else
      f_X12_expression_181 k12 y1 σ3
  else
    f_X12_expression_181 k12 y1 σ1
def b_X12_expression_96 (k12 : Int32 → Int32 → HS → Option (HS)) (k96 : Int32 → HS → Option (HS)) (y1 : Int32) (σ : HS) : Option (HS) :=
  Cl (f_X12_is 7 σ) fun r2 σ1 =>
  if r2.toInt = 0 then
    f_X12_expression_145 k12 y1 σ1
  else
    if y1.toInt < (σ1.1 236 12).toInt then
      Cv (f_X12_comesOut 0 σ1) fun σ3 =>
      Bd (hI σ3 236 43 ((σ3.1 236 43) - (1 : Int32))) fun σ5 =>
      Bd (hI σ5 236 12 ((σ5.1 236 12) - (1 : Int32))) fun σ6 =>
      Cv (f_X12_goesOn σ6) fun σ7 =>
      k96 y1 σ7
    else
      f_X12_expression_145 k12 y1 σ1
def f_X12_expression_96 (k12 : Int32 → Int32 → HS → Option (HS)) : Nat → Int32 → HS → Option (HS)
  | 0 => fun _ _ => none
  | n + 1 => fun y1 σ => b_X12_expression_96 k12 (f_X12_expression_96 k12 n) y1 σ
def f_X12_expression_46 (k12 : Int32 → Int32 → HS → Option (HS)) (k23 : Int32 → HS → Option (HS)) (y1 : Int32) (σ : HS) : Option (HS) :=
  Bd (hI σ 236 12 ((σ.1 236 12) + (1 : Int32))) fun σ1 =>
  Cv (f_X12_goesOn σ1) fun σ2 =>
  if 0 ≤ (σ2.1 236 43).toInt ∧ (σ2.1 236 43).toInt < 64 then
    Bd (hI σ2 263 (σ2.1 236 43).toInt.toNat 6) fun σ4 =>
    Bd (hI σ4 236 43 ((σ4.1 236 43) + (1 : Int32))) fun σ5 =>
    k23 y1 σ5
  else none
def b_X12_expression_23 (k12 : Int32 → Int32 → HS → Option (HS)) (k23 : Int32 → HS → Option (HS)) (y1 : Int32) (σ : HS) : Option (HS) :=
  Cl (f_X12_is 6 σ) fun r2 σ1 =>
  if r2.toInt = 0 then
    Cv (f_X12_unit σ1) fun σ3 =>
    if 0 < (σ3.1 236 13).toInt then
      some σ3
    else
      f_X12_expression_96 k12 5000 y1 σ3
  else
    if (σ1.1 236 12).toInt = 6 then
      Cv (f_X12_fail 2 σ1) fun σ5 =>
      f_X12_expression_46 k12 k23 y1 σ5
    else
      f_X12_expression_46 k12 k23 y1 σ1
def f_X12_expression_23 (k12 : Int32 → Int32 → HS → Option (HS)) : Nat → Int32 → HS → Option (HS)
  | 0 => fun _ _ => none
  | n + 1 => fun y1 σ => b_X12_expression_23 k12 (f_X12_expression_23 k12 n) y1 σ
def b_X12_expression_12 (k12 : Int32 → Int32 → HS → Option (HS)) (y1 : Int32) (y2 : Int32) (σ : HS) : Option (HS) :=
  if y2.toInt = 0 then
    some σ
  else
    if (σ.1 236 13).toInt = 0 then
      f_X12_expression_23 k12 5000 y1 σ
    else
      some σ
def f_X12_expression_12 : Nat → Int32 → Int32 → HS → Option (HS)
  | 0 => fun _ _ _ => none
  | n + 1 => fun y1 y2 σ => b_X12_expression_12 (f_X12_expression_12 n) y1 y2 σ
def f_X12_expression (σ : HS) : Option (HS) :=
  Bd (hI σ 236 43 0) fun σ1 =>
  Bd (σ1.1 236 12) fun z2 =>
  f_X12_expression_12 5000 z2 1 σ1
def f_X12_term_24 (σ : HS) : Option (HS) :=
  if 0 ≤ (σ.1 236 33).toInt ∧ (σ.1 236 33).toInt < 260 then
    Bd (hI σ 260 (σ.1 236 33).toInt.toNat (σ.1 236 39)) fun σ1 =>
    Bd (hI σ1 236 33 ((σ1.1 236 33) + (1 : Int32))) fun σ2 =>
    some σ2
  else none
def f_X12_term (σ : HS) : Option (HS) :=
  if 0 ≤ (σ.1 236 33).toInt ∧ (σ.1 236 33).toInt < 260 then
    Bd (hI σ 259 (σ.1 236 33).toInt.toNat (σ.1 236 39)) fun σ1 =>
    if (σ1.1 236 13).toInt = 0 then
      Cv (f_X12_expression σ1) fun σ2 =>
      f_X12_term_24 σ2
    else
      f_X12_term_24 σ1
  else none
def f_X12_tellLaw_129 (y1 : Int32) (y2 : Int32) (σ : HS) : Option (HS) :=
  if 0 ≤ (σ.1 236 33).toInt ∧ (σ.1 236 33).toInt < 260 then
    Bd (hI σ 256 (σ.1 236 33).toInt.toNat 0) fun σ1 =>
    Cv (f_X12_term σ1) fun σ2 =>
    Cv (f_X12_must 4 σ2) fun σ4 =>
    if 0 < (σ4.1 236 13).toInt then
      some σ4
    else
      if 0 ≤ (((4 : Int32) * (σ4.1 236 19)) + y1).toInt ∧ (((4 : Int32) * (σ4.1 236 19)) + y1).toInt < 8 then
        Bd (hI σ4 254 (((4 : Int32) * (σ4.1 236 19)) + y1).toInt.toNat y2) fun σ6 =>
        if 0 ≤ (((4 : Int32) * (σ6.1 236 19)) + y1).toInt ∧ (((4 : Int32) * (σ6.1 236 19)) + y1).toInt < 8 then
          Bd (hI σ6 255 (((4 : Int32) * (σ6.1 236 19)) + y1).toInt.toNat (σ6.1 236 33)) fun σ7 =>
          some σ7
        else none
      else none
  else none
def f_X12_tellLaw_110 (k12 : Int32 → Int32 → Int32 → HS → Option (HS)) (y1 : Int32) (y2 : Int32) (y3 : Int32) (σ : HS) : Option (HS) :=
  Cv (f_X12_must 29 σ) fun σ1 =>
  Cv (f_X12_term σ1) fun σ3 =>
  Cv (f_X12_must 30 σ3) fun σ5 =>
  k12 y1 y2 y3 σ5
def f_X12_tellLaw_38 (k12 : Int32 → Int32 → Int32 → HS → Option (HS)) (y1 : Int32) (y2 : Int32) (y3 : Int32) (σ : HS) : Option (HS) :=
  if 0 < (σ.1 236 13).toInt then
    some σ
  else
    Bd (y3 + 1) fun z1 =>
    Cv (f_X12_goesOn σ) fun σ2 =>
    if 0 ≤ (σ2.1 236 33).toInt ∧ (σ2.1 236 33).toInt < 260 then
      Bd (hI σ2 256 (σ2.1 236 33).toInt.toNat 1) fun σ4 =>
      if 0 ≤ (σ4.1 236 33).toInt ∧ (σ4.1 236 33).toInt < 260 then
        Bd (hI σ4 257 (σ4.1 236 33).toInt.toNat (σ4.1 236 39)) fun σ5 =>
        Cv (f_X12_expression σ5) fun σ6 =>
        Cv (f_X12_must 13 σ6) fun σ8 =>
        if 0 ≤ (σ8.1 236 33).toInt ∧ (σ8.1 236 33).toInt < 260 then
          Bd (hI σ8 258 (σ8.1 236 33).toInt.toNat (σ8.1 236 39)) fun σ10 =>
          if (σ10.1 236 13).toInt = 0 then
            Cv (f_X12_expression σ10) fun σ11 =>
            f_X12_tellLaw_110 k12 y1 y2 z1 σ11
          else
            f_X12_tellLaw_110 k12 y1 y2 z1 σ10
        else none
      else none
    else none
def b_X12_tellLaw_12 (k12 : Int32 → Int32 → Int32 → HS → Option (HS)) (y1 : Int32) (y2 : Int32) (y3 : Int32) (σ : HS) : Option (HS) :=
  if (σ.1 236 13).toInt = 0 then
    Cl (f_X12_is 28 σ) fun r2 σ1 =>
    if r2.toInt = 0 then
      f_X12_tellLaw_129 y1 y2 σ1
    else
      if y3.toInt = 4 then
        Cv (f_X12_fail 2 σ1) fun σ3 =>
        f_X12_tellLaw_38 k12 y1 y2 y3 σ3
      else
        f_X12_tellLaw_38 k12 y1 y2 y3 σ1
  else
    f_X12_tellLaw_129 y1 y2 σ
def f_X12_tellLaw_12 : Nat → Int32 → Int32 → Int32 → HS → Option (HS)
  | 0 => fun _ _ _ _ => none
  | n + 1 => fun y1 y2 y3 σ => b_X12_tellLaw_12 (f_X12_tellLaw_12 n) y1 y2 y3 σ
def f_X12_tellLaw (x1 : Int32) (σ : HS) : Option (HS) :=
  Cv (f_X12_must 5 σ) fun σ1 =>
  Bd (σ1.1 236 33) fun z3 =>
  f_X12_tellLaw_12 5000 x1 z3 0 σ1
def f_X12_tellOne_188 (y1 : Int32) (σ : HS) : Option (HS) :=
  if 0 < (σ.1 236 13).toInt then
    some σ
  else
    Cv (f_X12_goesOn σ) fun σ1 =>
    Cv (f_X12_tellLaw y1 σ1) fun σ3 =>
    some σ3
def f_X12_tellOne_183 (y1 : Int32) (σ : HS) : Option (HS) :=
  Cv (f_X12_fail 1 σ) fun σ1 =>
  f_X12_tellOne_188 y1 σ1
def f_X12_tellOne (σ : HS) : Option (HS) :=
  if 0 ≤ (σ.1 236 11).toInt ∧ (σ.1 236 11).toInt < 403 then
    if (σ.1 239 (σ.1 236 11).toInt.toNat).toInt = 20 then
      if 0 ≤ (σ.1 236 19).toInt ∧ (σ.1 236 19).toInt < 2 then
        Cv (f_X12_roomFor (σ.1 245 (σ.1 236 19).toInt.toNat) 7 σ) fun σ1 =>
        if (σ1.1 236 13).toInt = 0 then
          Cv (f_X12_tellThing σ1) fun σ3 =>
          some σ3
        else
          some σ1
      else none
    else
      if (σ.1 239 (σ.1 236 11).toInt.toNat).toInt = 21 then
        if 0 ≤ (σ.1 236 19).toInt ∧ (σ.1 236 19).toInt < 2 then
          Cv (f_X12_roomFor (σ.1 249 (σ.1 236 19).toInt.toNat) 5 σ) fun σ5 =>
          if (σ5.1 236 13).toInt = 0 then
            Cv (f_X12_tellPattern σ5) fun σ7 =>
            some σ7
          else
            some σ5
        else none
      else
        if (σ.1 239 (σ.1 236 11).toInt.toNat).toInt = 26 then
          Cl (f_X12_toldInt 0 99 σ) fun r10 σ9 =>
          if 0 ≤ (σ.1 236 19).toInt ∧ (σ.1 236 19).toInt < 2 then
            Bd (hI σ9 252 (σ.1 236 19).toInt.toNat r10) fun σ11 =>
            some σ11
          else none
        else
          if (σ.1 239 (σ.1 236 11).toInt.toNat).toInt = 27 then
            Cl (f_X12_toldInt 0 9999 σ) fun r13 σ12 =>
            if 0 ≤ (σ.1 236 19).toInt ∧ (σ.1 236 19).toInt < 2 then
              Bd (hI σ12 253 (σ.1 236 19).toInt.toNat r13) fun σ14 =>
              some σ14
            else none
          else
            if 0 ≤ (σ.1 236 11).toInt ∧ (σ.1 236 11).toInt < 403 then
              Bd ((σ.1 239 (σ.1 236 11).toInt.toNat) - (22 : Int32)) fun z15 =>
              if z15.toInt < 0 then
                f_X12_tellOne_183 z15 σ
              else
                if 0 ≤ (σ.1 236 11).toInt ∧ (σ.1 236 11).toInt < 403 then
                  if 25 < (σ.1 239 (σ.1 236 11).toInt.toNat).toInt then
                    f_X12_tellOne_183 z15 σ
                  else
                    f_X12_tellOne_188 z15 σ
                else none
            else none
  else none
def b_X12_read_219 (k219 : Int32 → HS → Option (Int32 × HS)) (y1 : Int32) (σ : HS) : Option (Int32 × HS) :=
  if y1.toInt < 3 then
    if 0 ≤ y1.toInt ∧ y1.toInt < 3 then
      Bd (hI σ 275 y1.toInt.toNat 0) fun σ1 =>
      Bd (y1 + 1) fun z2 =>
      k219 z2 σ1
    else none
  else
    some (0, σ)
def f_X12_read_219 : Nat → Int32 → HS → Option (Int32 × HS)
  | 0 => fun _ _ => none
  | n + 1 => fun y1 σ => b_X12_read_219 (f_X12_read_219 n) y1 σ
def f_X12_read_164 (v0 : Int32) (σ : HS) : Option (Int32 × HS) :=
  Bd (hI σ 236 17 v0) fun σ1 =>
  if 0 < (σ1.1 236 13).toInt then
    some ((σ1.1 236 13), σ1)
  else
    if 0 < (σ1.1 236 15).toInt then
      some ((σ1.1 236 15), σ1)
    else
      Bd (hI σ1 236 18 (σ1.1 236 19)) fun σ2 =>
      Cv (f_X12_begins σ2) fun σ3 =>
      Cv (f_X12_keepsRow σ3) fun σ5 =>
      Bd (hI σ5 236 54 0) fun σ7 =>
      Bd (hI σ7 236 60 0) fun σ8 =>
      f_X12_read_219 5000 0 σ8
def f_X12_read_134 (σ : HS) : Option (Int32 × HS) :=
  if 0 < (σ.1 236 13).toInt then
    f_X12_read_164 (σ.1 236 14) σ
  else
    if 0 < (σ.1 236 15).toInt then
      f_X12_read_164 (σ.1 236 16) σ
    else
      f_X12_read_164 (-1) σ
def b_X12_read_112 (k112 : HS → Option (Int32 × HS)) (σ : HS) : Option (Int32 × HS) :=
  if (σ.1 236 13).toInt = 0 then
    Cl (f_X12_is 0 σ) fun r2 σ1 =>
    if r2.toInt = 0 then
      Cv (f_X12_tellOne σ1) fun σ3 =>
      k112 σ3
    else
      f_X12_read_134 σ1
  else
    f_X12_read_134 σ
def f_X12_read_112 : Nat → HS → Option (Int32 × HS)
  | 0 => fun  _ => none
  | n + 1 => fun σ => b_X12_read_112 (f_X12_read_112 n) σ
def b_X12_read_10 (k10 : Int32 → HS → Option (Int32 × HS)) (y1 : Int32) (σ : HS) : Option (Int32 × HS) :=
  if y1.toInt < (σ.1 236 4).toInt then
    if 0 ≤ y1.toInt ∧ y1.toInt < 2000 then
      if 0 ≤ y1.toInt ∧ y1.toInt < 2000 then
        Bd (hI σ 238 y1.toInt.toNat (vp_nar .byte (σ.1 237 y1.toInt.toNat))) fun σ14 =>
        Bd (y1 + 1) fun z15 =>
        k10 z15 σ14
      else none
    else none
  else
    Bd (hI σ 236 2 0) fun σ1 =>
    Cv (f_X12_cut σ1) fun σ2 =>
    Bd (hI σ2 236 11 0) fun σ4 =>
    Bd (hI σ4 236 12 0) fun σ5 =>
    Bd (hI σ5 236 13 0) fun σ6 =>
    Bd (hI σ6 236 15 0) fun σ7 =>
    Bd (hI σ7 236 19 ((1 : Int32) - (σ7.1 236 18))) fun σ8 =>
    Bd (hI σ8 236 20 0) fun σ9 =>
    Cv (f_X12_plain (σ9.1 236 19) σ9) fun σ10 =>
    Bd (hI σ10 236 33 ((130 : Int32) * (σ10.1 236 19))) fun σ12 =>
    Bd (hI σ12 236 39 ((420 : Int32) * (σ12.1 236 19))) fun σ13 =>
    f_X12_read_112 5000 σ13
def f_X12_read_10 : Nat → Int32 → HS → Option (Int32 × HS)
  | 0 => fun _ _ => none
  | n + 1 => fun y1 σ => b_X12_read_10 (f_X12_read_10 n) y1 σ
def f_X12_read (σ : HS) : Option (Int32 × HS) :=
  Bd (hI σ 236 4 (σ.1 236 2)) fun σ1 =>
  f_X12_read_10 5000 0 σ1
def f_X12_place (σ : HS) : Option (Int32 × HS) :=
  some ((σ.1 236 17), σ)
def f_X12_termOf_159 (k5 : Int32 → Int32 → Int32 → HS → Option (Int32 × HS)) (y2 : Int32) (y3 : Int32) (y4 : Int32) (σ : HS) : Option (Int32 × HS) :=
  Bd (y4 + 1) fun z1 =>
  k5 y2 y3 z1 σ
def f_X12_termOf_158 (k5 : Int32 → Int32 → Int32 → HS → Option (Int32 × HS)) (y2 : Int32) (y3 : Int32) (y4 : Int32) (v0 : Int32) (v1 : Int32) (σ : HS) : Option (Int32 × HS) :=
  if 0 ≤ v1.toInt ∧ v1.toInt < 400 then
    Bd (hI σ 265 v1.toInt.toNat v0) fun σ1 =>
    f_X12_termOf_159 k5 y2 y3 y4 σ1
  else none
def f_X12_termOf_104 (k5 : Int32 → Int32 → Int32 → HS → Option (Int32 × HS)) (y2 : Int32) (y3 : Int32) (y4 : Int32) (y5 : Int32) (y6 : Int32) (y7 : Int32) (σ : HS) : Option (Int32 × HS) :=
  if y5.toInt = 2 then
    f_X12_termOf_158 k5 y2 y3 y4 (y6 + y7) (y3 - (1 : Int32)) σ
  else
    if y5.toInt = 3 then
      f_X12_termOf_158 k5 y2 y3 y4 (y6 - y7) (y3 - (1 : Int32)) σ
    else
      if y5.toInt = 4 then
        f_X12_termOf_158 k5 y2 y3 y4 (y6 * y7) (y3 - (1 : Int32)) σ
      else
        if y7.toInt = 0 then none else
        f_X12_termOf_158 k5 y2 y3 y4 (y6 / y7) (y3 - (1 : Int32)) σ
def f_X12_termOf_58 (k5 : Int32 → Int32 → Int32 → HS → Option (Int32 × HS)) (y2 : Int32) (y3 : Int32) (y4 : Int32) (v0 : Int32) (v1 : Int32) (σ : HS) : Option (Int32 × HS) :=
  if 0 ≤ v1.toInt ∧ v1.toInt < 400 then
    Bd (hI σ 265 v1.toInt.toNat v0) fun σ1 =>
    Bd (y3 + 1) fun z2 =>
    f_X12_termOf_159 k5 y2 z2 y4 σ1
  else none
def b_X12_termOf_5 (k5 : Int32 → Int32 → Int32 → HS → Option (Int32 × HS)) (y2 : Int32) (y3 : Int32) (y4 : Int32) (σ : HS) : Option (Int32 × HS) :=
  if y4.toInt < y2.toInt then
    if 0 ≤ y4.toInt ∧ y4.toInt < 840 then
      Bd (σ.1 261 y4.toInt.toNat) fun z1 =>
      if z1.toInt < 2 then
        if z1.toInt = 0 then
          if 0 ≤ y4.toInt ∧ y4.toInt < 840 then
            f_X12_termOf_58 k5 y2 y3 y4 (σ.1 262 y4.toInt.toNat) y3 σ
          else none
        else
          if 0 ≤ y4.toInt ∧ y4.toInt < 840 then
            if 0 ≤ (σ.1 262 y4.toInt.toNat).toInt ∧ (σ.1 262 y4.toInt.toNat).toInt < 9 then
              f_X12_termOf_58 k5 y2 y3 y4 (σ.1 264 (σ.1 262 y4.toInt.toNat).toInt.toNat) y3 σ
            else none
          else none
      else
        Bd (y3 + (-1)) fun z2 =>
        if 0 ≤ (z2 - (1 : Int32)).toInt ∧ (z2 - (1 : Int32)).toInt < 400 then
          Bd (σ.1 265 (z2 - (1 : Int32)).toInt.toNat) fun z3 =>
          if 0 ≤ z2.toInt ∧ z2.toInt < 400 then
            Bd (σ.1 265 z2.toInt.toNat) fun z4 =>
            if z1.toInt = 5 then
              if z4.toInt = 0 then
                Bd (hI σ 236 46 1) fun σ5 =>
                some (0, σ5)
              else
                f_X12_termOf_104 k5 y2 z2 y4 z1 z3 z4 σ
            else
              f_X12_termOf_104 k5 y2 z2 y4 z1 z3 z4 σ
          else none
        else none
    else none
  else
    some ((σ.1 265 0), σ)
def f_X12_termOf_5 : Nat → Int32 → Int32 → Int32 → HS → Option (Int32 × HS)
  | 0 => fun _ _ _ _ => none
  | n + 1 => fun y2 y3 y4 σ => b_X12_termOf_5 (f_X12_termOf_5 n) y2 y3 y4 σ
def f_X12_termOf (x1 : Int32) (x2 : Int32) (σ : HS) : Option (Int32 × HS) :=
  f_X12_termOf_5 5000 x2 0 x1 σ
def f_X12_in (x1 : Int32) (x2 : Int32) (x3 : Int32) (σ : HS) : Option (Int32 × HS) :=
  if x1.toInt < x2.toInt then
    some (0, σ)
  else
    if x3.toInt < x1.toInt then
      some (0, σ)
    else
      some (1, σ)
def f_X12_held (x1 : Int32) (x2 : Int32) (x3 : Int32) (σ : HS) : Option (Int32 × HS) :=
  if x1.toInt < x2.toInt then
    some (x2, σ)
  else
    if x3.toInt < x1.toInt then
      some (x3, σ)
    else
      some (x1, σ)
def b_X12_bits_4 (k4 : Int32 → Int32 → Int32 → HS → Option (Int32 × HS)) (y0 : Int32) (y1 : Int32) (y2 : Int32) (σ : HS) : Option (Int32 × HS) :=
  if y2.toInt < 10 then
    Bd (y1 + ((y0 >>> (y2 &&& 31)) &&& (1 : Int32))) fun z1 =>
    Bd (y2 + 1) fun z2 =>
    k4 y0 z1 z2 σ
  else
    some (y1, σ)
def f_X12_bits_4 : Nat → Int32 → Int32 → Int32 → HS → Option (Int32 × HS)
  | 0 => fun _ _ _ _ => none
  | n + 1 => fun y0 y1 y2 σ => b_X12_bits_4 (f_X12_bits_4 n) y0 y1 y2 σ
def f_X12_bits (x1 : Int32) (σ : HS) : Option (Int32 × HS) :=
  f_X12_bits_4 5000 x1 0 0 σ
def f_X12_isThing (x1 : Int32) (σ : HS) : Option (Int32 × HS) :=
  if 0 ≤ (σ.1 236 18).toInt ∧ (σ.1 236 18).toInt < 2 then
    Cl (f_X12_in x1 0 ((σ.1 245 (σ.1 236 18).toInt.toNat) - (1 : Int32)) σ) fun r2 σ1 =>
    if 0 ≤ r2.toInt ∧ r2.toInt ≤ 1 then
    some (r2, σ1)
    else none
  else none
def f_X12_isPattern (x1 : Int32) (σ : HS) : Option (Int32 × HS) :=
  if 0 ≤ (σ.1 236 18).toInt ∧ (σ.1 236 18).toInt < 2 then
    Cl (f_X12_in x1 0 ((σ.1 249 (σ.1 236 18).toInt.toNat) - (1 : Int32)) σ) fun r2 σ1 =>
    if 0 ≤ r2.toInt ∧ r2.toInt ≤ 1 then
    some (r2, σ1)
    else none
  else none
def b_X12_copies_2 (k2 : Int32 → HS → Option (HS)) (y1 : Int32) (σ : HS) : Option (HS) :=
  if y1.toInt < 29 then
    if 0 ≤ y1.toInt ∧ y1.toInt < 29 then
      if 0 ≤ y1.toInt ∧ y1.toInt < 29 then
        Bd (hI σ 267 y1.toInt.toNat (σ.1 266 y1.toInt.toNat)) fun σ3 =>
        Bd (y1 + 1) fun z4 =>
        k2 z4 σ3
      else none
    else none
  else
    if 0 ≤ (σ.1 236 18).toInt ∧ (σ.1 236 18).toInt < 2 then
      Bd (hI σ 236 49 (σ.1 253 (σ.1 236 18).toInt.toNat)) fun σ1 =>
      Bd (hI σ1 236 50 0) fun σ2 =>
      some σ2
    else none
def f_X12_copies_2 : Nat → Int32 → HS → Option (HS)
  | 0 => fun _ _ => none
  | n + 1 => fun y1 σ => b_X12_copies_2 (f_X12_copies_2 n) y1 σ
def f_X12_copies (σ : HS) : Option (HS) :=
  f_X12_copies_2 5000 0 σ
def f_X12_copiesStill (σ : HS) : Option (HS) :=
  Cv (f_X12_copies σ) fun σ1 =>
  Bd (hI σ1 236 50 1) fun σ3 =>
  some σ3
def f_X12_mixed (x1 : Int32) (x2 : Int32) (σ : HS) : Option (Int32 × HS) :=
  Bd (((x1 ^^^ x2) * (1103515245 : Int32)) + (12345 : Int32)) fun z1 =>
  some ((z1 ^^^ ((z1.toUInt32 >>> ((15 : Int32).toUInt32 &&& Int32.toUInt32 31)).toInt32)), σ)
def f_X12_lotNow (σ : HS) : Option (Int32 × HS) :=
  Cl (f_X12_mixed (σ.1 236 49) 125 σ) fun r2 σ1 =>
  Cl (f_X12_mixed r2 ((4 : Int32) * (σ1.1 267 21)) σ1) fun r4 σ3 =>
  some ((((r4.toUInt32 >>> ((1 : Int32).toUInt32 &&& Int32.toUInt32 31)).toInt32) - ((r4.toUInt32 >>> ((1 : Int32).toUInt32 &&& Int32.toUInt32 31)).toInt32) / (100 : Int32) * (100 : Int32)), σ3)
def f_X12_lengthOf (x1 : Int32) (σ : HS) : Option (Int32 × HS) :=
  if 0 ≤ (((5 : Int32) * (σ.1 236 18)) + x1).toInt ∧ (((5 : Int32) * (σ.1 236 18)) + x1).toInt < 10 then
    some ((σ.1 250 (((5 : Int32) * (σ.1 236 18)) + x1).toInt.toNat), σ)
  else none
def f_X12_heightAt (x1 : Int32) (x2 : Int32) (σ : HS) : Option (Int32 × HS) :=
  Cl (f_X12_lengthOf x1 σ) fun r2 σ1 =>
  if r2.toInt = 0 then none else
  if 0 ≤ (((8 : Int32) * (((5 : Int32) * (σ.1 236 18)) + x1)) + (x2 - x2 / r2 * r2)).toInt ∧ (((8 : Int32) * (((5 : Int32) * (σ.1 236 18)) + x1)) + (x2 - x2 / r2 * r2)).toInt < 80 then
    some ((σ1.1 251 (((8 : Int32) * (((5 : Int32) * (σ.1 236 18)) + x1)) + (x2 - x2 / r2 * r2)).toInt.toNat), σ1)
  else none
def f_X12_heightNow (σ : HS) : Option (Int32 × HS) :=
  if (σ.1 267 28).toInt < 0 then
    if (σ.1 267 26).toInt < 0 then
      some (3, σ)
    else
      Cl (f_X12_heightAt (σ.1 267 26) ((σ.1 267 21) - (σ.1 267 27)) σ) fun r2 σ1 =>
      some (r2, σ1)
  else
    some ((σ.1 267 28), σ)
def f_X12_thingsSo_33 (k4 : Int32 → Int32 → Int32 → HS → Option (Int32 × HS)) (y1 : Int32) (y2 : Int32) (y3 : Int32) (σ : HS) : Option (Int32 × HS) :=
  Bd (y3 + 1) fun z1 =>
  k4 y1 y2 z1 σ
def b_X12_thingsSo_4 (k4 : Int32 → Int32 → Int32 → HS → Option (Int32 × HS)) (y1 : Int32) (y2 : Int32) (y3 : Int32) (σ : HS) : Option (Int32 × HS) :=
  if 0 ≤ (σ.1 236 18).toInt ∧ (σ.1 236 18).toInt < 2 then
    if y3.toInt < (σ.1 245 (σ.1 236 18).toInt.toNat).toInt then
      if 0 ≤ y3.toInt ∧ y3.toInt < 29 then
        if (σ.1 267 y3.toInt.toNat).toInt = y1.toInt then
          Bd (y2 ||| ((1 : Int32) <<< (y3 &&& 31))) fun z1 =>
          f_X12_thingsSo_33 k4 y1 z1 y3 σ
        else
          f_X12_thingsSo_33 k4 y1 y2 y3 σ
      else none
    else
      some (y2, σ)
  else none
def f_X12_thingsSo_4 : Nat → Int32 → Int32 → Int32 → HS → Option (Int32 × HS)
  | 0 => fun _ _ _ _ => none
  | n + 1 => fun y1 y2 y3 σ => b_X12_thingsSo_4 (f_X12_thingsSo_4 n) y1 y2 y3 σ
def f_X12_thingsSo (x1 : Int32) (σ : HS) : Option (Int32 × HS) :=
  f_X12_thingsSo_4 5000 x1 0 0 σ
def f_X12_doesLand (x1 : Int32) (x2 : Int32) (σ : HS) : Option (Int32 × HS) :=
  if 0 ≤ x1.toInt ∧ x1.toInt < 29 then
    if (σ.1 267 x1.toInt.toNat).toInt = 0 then
      if 0 ≤ ((7 : Int32) + x1).toInt ∧ ((7 : Int32) + x1).toInt < 29 then
        if (σ.1 267 ((7 : Int32) + x1).toInt.toNat).toInt = x2.toInt then
          some (1, σ)
        else
          some (0, σ)
      else none
    else
      some (0, σ)
  else none
def f_X12_landsAt_29 (k4 : Int32 → Int32 → Int32 → HS → Option (Int32 × HS)) (y1 : Int32) (y2 : Int32) (y3 : Int32) (σ : HS) : Option (Int32 × HS) :=
  Bd (y3 + 1) fun z1 =>
  k4 y1 y2 z1 σ
def b_X12_landsAt_4 (k4 : Int32 → Int32 → Int32 → HS → Option (Int32 × HS)) (y1 : Int32) (y2 : Int32) (y3 : Int32) (σ : HS) : Option (Int32 × HS) :=
  if 0 ≤ (σ.1 236 18).toInt ∧ (σ.1 236 18).toInt < 2 then
    if y3.toInt < (σ.1 245 (σ.1 236 18).toInt.toNat).toInt then
      Cl (f_X12_doesLand y3 y1 σ) fun r2 σ1 =>
      if r2.toInt = 0 then
        f_X12_landsAt_29 k4 y1 y2 y3 σ1
      else
        Bd (y2 + 1) fun z3 =>
        f_X12_landsAt_29 k4 y1 z3 y3 σ1
    else
      some (y2, σ)
  else none
def f_X12_landsAt_4 : Nat → Int32 → Int32 → Int32 → HS → Option (Int32 × HS)
  | 0 => fun _ _ _ _ => none
  | n + 1 => fun y1 y2 y3 σ => b_X12_landsAt_4 (f_X12_landsAt_4 n) y1 y2 y3 σ
def f_X12_landsAt (x1 : Int32) (σ : HS) : Option (Int32 × HS) :=
  f_X12_landsAt_4 5000 x1 0 0 σ
def b_X12_catchesNow_2 (k2 : Int32 → HS → Option (Int32 × HS)) (y1 : Int32) (σ : HS) : Option (Int32 × HS) :=
  if 0 ≤ (σ.1 236 18).toInt ∧ (σ.1 236 18).toInt < 2 then
    if y1.toInt < (σ.1 245 (σ.1 236 18).toInt.toNat).toInt then
      Cl (f_X12_doesLand y1 0 σ) fun r2 σ1 =>
      if r2.toInt = 0 then
        Bd (y1 + 1) fun z3 =>
        k2 z3 σ1
      else
        some (y1, σ1)
    else
      some ((-2), σ)
  else none
def f_X12_catchesNow_2 : Nat → Int32 → HS → Option (Int32 × HS)
  | 0 => fun _ _ => none
  | n + 1 => fun y1 σ => b_X12_catchesNow_2 (f_X12_catchesNow_2 n) y1 σ
def f_X12_catchesNow (σ : HS) : Option (Int32 × HS) :=
  f_X12_catchesNow_2 5000 0 σ
def f_X12_looksAt (x1 : Int32) (x2 : Int32) (x3 : Int32) (σ : HS) : Option (HS) :=
  if 0 ≤ (((7 : Int32) * (σ.1 236 18)) + x1).toInt ∧ (((7 : Int32) * (σ.1 236 18)) + x1).toInt < 14 then
    Bd (hI σ 264 0 (σ.1 246 (((7 : Int32) * (σ.1 236 18)) + x1).toInt.toNat)) fun σ1 =>
    if 0 ≤ (((7 : Int32) * (σ1.1 236 18)) + x1).toInt ∧ (((7 : Int32) * (σ1.1 236 18)) + x1).toInt < 14 then
      Bd (hI σ1 264 1 (σ1.1 247 (((7 : Int32) * (σ1.1 236 18)) + x1).toInt.toNat)) fun σ2 =>
      Bd (hI σ2 264 2 x2) fun σ3 =>
      Bd (hI σ3 264 3 (σ3.1 267 21)) fun σ4 =>
      Bd (hI σ4 264 4 (σ4.1 267 22)) fun σ5 =>
      Bd (hI σ5 264 5 x3) fun σ6 =>
      Bd (hI σ6 264 6 x1) fun σ7 =>
      Bd (hI σ7 264 7 (σ7.1 267 24)) fun σ8 =>
      Bd (hI σ8 264 8 ((σ8.1 267 21) - (σ8.1 267 21) / (2 : Int32) * (2 : Int32))) fun σ9 =>
      some σ9
    else none
  else none
def f_X12_lawTells_119 (y4 : Int32) (σ : HS) : Option (Int32 × HS) :=
  if 0 ≤ y4.toInt ∧ y4.toInt < 260 then
    if 0 ≤ y4.toInt ∧ y4.toInt < 260 then
      Cl (f_X12_termOf (σ.1 259 y4.toInt.toNat) (σ.1 260 y4.toInt.toNat) σ) fun r2 σ1 =>
      if (σ1.1 236 46).toInt = 0 then
        some (r2, σ1)
      else
        some (0, σ1)
    else none
  else none
def b_X12_lawTells_39 (k39 : Int32 → Int32 → HS → Option (Int32 × HS)) (y3 : Int32) (y4 : Int32) (σ : HS) : Option (Int32 × HS) :=
  if 0 ≤ y3.toInt ∧ y3.toInt < 8 then
    if y4.toInt < (σ.1 255 y3.toInt.toNat).toInt then
      if 0 ≤ y4.toInt ∧ y4.toInt < 260 then
        if (σ.1 256 y4.toInt.toNat).toInt = 0 then
          f_X12_lawTells_119 y4 σ
        else
          if 0 ≤ y4.toInt ∧ y4.toInt < 260 then
            if 0 ≤ y4.toInt ∧ y4.toInt < 260 then
              Cl (f_X12_termOf (σ.1 257 y4.toInt.toNat) (σ.1 258 y4.toInt.toNat) σ) fun r2 σ1 =>
              if 0 ≤ y4.toInt ∧ y4.toInt < 260 then
                if 0 ≤ y4.toInt ∧ y4.toInt < 260 then
                  Cl (f_X12_termOf (σ1.1 258 y4.toInt.toNat) (σ1.1 259 y4.toInt.toNat) σ1) fun r4 σ3 =>
                  if (σ3.1 236 46).toInt = 0 then
                    if r2.toInt < r4.toInt then
                      f_X12_lawTells_119 y4 σ3
                    else
                      Bd (y4 + 1) fun z5 =>
                      k39 y3 z5 σ3
                  else
                    some (0, σ3)
                else none
              else none
            else none
          else none
      else none
    else
      some (0, σ)
  else none
def f_X12_lawTells_39 : Nat → Int32 → Int32 → HS → Option (Int32 × HS)
  | 0 => fun _ _ _ => none
  | n + 1 => fun y3 y4 σ => b_X12_lawTells_39 (f_X12_lawTells_39 n) y3 y4 σ
def f_X12_lawTells (x1 : Int32) (x2 : Int32) (σ : HS) : Option (Int32 × HS) :=
  Bd (((4 : Int32) * (σ.1 236 18)) + x1) fun z1 =>
  if 0 ≤ z1.toInt ∧ z1.toInt < 8 then
    if 0 ≤ z1.toInt ∧ z1.toInt < 8 then
      if (σ.1 254 z1.toInt.toNat).toInt = (σ.1 255 z1.toInt.toNat).toInt then
        some (x2, σ)
      else
        Bd (hI σ 236 46 0) fun σ2 =>
        if 0 ≤ z1.toInt ∧ z1.toInt < 8 then
          Bd (σ2.1 254 z1.toInt.toNat) fun z3 =>
          f_X12_lawTells_39 5000 z1 z3 σ2
        else none
    else none
  else none
def f_X12_tiresBy (x1 : Int32) (x2 : Int32) (x3 : Int32) (σ : HS) : Option (Int32 × HS) :=
  Cv (f_X12_looksAt x1 x2 x3 σ) fun σ1 =>
  Cl (f_X12_lawTells 0 0 σ1) fun r4 σ3 =>
  Cl (f_X12_held r4 0 99 σ3) fun r6 σ5 =>
  some (r6, σ5)
def f_X12_dropsBy (x1 : Int32) (x2 : Int32) (x3 : Int32) (σ : HS) : Option (Int32 × HS) :=
  Cv (f_X12_looksAt x1 x2 x3 σ) fun σ1 =>
  Cl (f_X12_lawTells 1 0 σ1) fun r4 σ3 =>
  Cl (f_X12_held r4 0 100 σ3) fun r6 σ5 =>
  some (r6, σ5)
def f_X12_forceOf (x1 : Int32) (x2 : Int32) (σ : HS) : Option (Int32 × HS) :=
  Cv (f_X12_looksAt x1 0 x2 σ) fun σ1 =>
  Cl (f_X12_lawTells 2 (σ1.1 264 1) σ1) fun r4 σ3 =>
  Cl (f_X12_held r4 (-99) 99 σ3) fun r6 σ5 =>
  some (r6, σ5)
def f_X12_paysOf (x1 : Int32) (x2 : Int32) (σ : HS) : Option (Int32 × HS) :=
  Cv (f_X12_looksAt x1 0 x2 σ) fun σ1 =>
  Cl (f_X12_lawTells 3 0 σ1) fun r4 σ3 =>
  Cl (f_X12_held r4 0 99 σ3) fun r6 σ5 =>
  some (r6, σ5)
def f_X12_dropsOthers_58 (k2 : Int32 → HS → Option (HS)) (y1 : Int32) (σ : HS) : Option (HS) :=
  Bd (y1 + 1) fun z1 =>
  k2 z1 σ
def b_X12_dropsOthers_2 (k2 : Int32 → HS → Option (HS)) (y1 : Int32) (σ : HS) : Option (HS) :=
  if 0 ≤ (σ.1 236 18).toInt ∧ (σ.1 236 18).toInt < 2 then
    if y1.toInt < (σ.1 245 (σ.1 236 18).toInt.toNat).toInt then
      if y1.toInt = (σ.1 236 51).toInt then
        f_X12_dropsOthers_58 k2 y1 σ
      else
        Cl (f_X12_doesLand y1 0 σ) fun r2 σ1 =>
        if r2.toInt = 0 then
          f_X12_dropsOthers_58 k2 y1 σ1
        else
          if 0 ≤ y1.toInt ∧ y1.toInt < 29 then
            Bd (hI σ1 267 y1.toInt.toNat 2) fun σ3 =>
            Bd (hI σ3 267 23 ((σ3.1 267 23) + (1 : Int32))) fun σ4 =>
            Bd (hI σ4 236 52 1) fun σ5 =>
            f_X12_dropsOthers_58 k2 y1 σ5
          else none
    else
      some σ
  else none
def f_X12_dropsOthers_2 : Nat → Int32 → HS → Option (HS)
  | 0 => fun _ _ => none
  | n + 1 => fun y1 σ => b_X12_dropsOthers_2 (f_X12_dropsOthers_2 n) y1 σ
def f_X12_dropsOthers (σ : HS) : Option (HS) :=
  f_X12_dropsOthers_2 5000 0 σ
def f_X12_isThrown_70 (y1 : Int32) (y2 : Int32) (σ : HS) : Option (HS) :=
  if 0 ≤ ((7 : Int32) + y1).toInt ∧ ((7 : Int32) + y1).toInt < 29 then
    Bd (hI σ 267 ((7 : Int32) + y1).toInt.toNat y2) fun σ1 =>
    some σ1
  else none
def f_X12_isThrown (x1 : Int32) (x2 : Int32) (x3 : Int32) (x4 : Int32) (σ : HS) : Option (HS) :=
  Bd (hI σ 267 25 ((σ.1 267 25) + x4)) fun σ1 =>
  Bd (hI σ1 267 24 ((σ1.1 267 24) + (1 : Int32))) fun σ2 =>
  if 0 ≤ ((14 : Int32) + x1).toInt ∧ ((14 : Int32) + x1).toInt < 29 then
    if 0 ≤ ((14 : Int32) + x1).toInt ∧ ((14 : Int32) + x1).toInt < 29 then
      Bd (hI σ2 267 ((14 : Int32) + x1).toInt.toNat ((σ2.1 267 ((14 : Int32) + x1).toInt.toNat) + (1 : Int32))) fun σ3 =>
      Cl (f_X12_held ((σ3.1 267 22) + x3) 0 999 σ3) fun r5 σ4 =>
      Bd (hI σ4 267 22 r5) fun σ6 =>
      if x2.toInt = 0 then
        if 0 ≤ x1.toInt ∧ x1.toInt < 29 then
          Bd (hI σ6 267 x1.toInt.toNat 1) fun σ7 =>
          f_X12_isThrown_70 x1 x2 σ7
        else none
      else
        f_X12_isThrown_70 x1 x2 σ6
    else none
  else none
def f_X12_catches_81 (y1 : Int32) (y2 : Int32) (y4 : Int32) (y5 : Int32) (σ : HS) : Option (HS) :=
  Cv (f_X12_isThrown y1 y2 y4 y5 σ) fun σ1 =>
  some σ1
def f_X12_catches (x1 : Int32) (σ : HS) : Option (HS) :=
  Cl (f_X12_heightNow σ) fun r2 σ1 =>
  Cl (f_X12_thingsSo 0 σ1) fun r4 σ3 =>
  Cl (f_X12_bits r4 σ3) fun r6 σ5 =>
  Cl (f_X12_tiresBy x1 r2 r6 σ5) fun r8 σ7 =>
  Cl (f_X12_paysOf x1 r6 σ7) fun r10 σ9 =>
  Cl (f_X12_forceOf x1 r6 σ9) fun r12 σ11 =>
  Bd (hI σ11 236 53 r12) fun σ13 =>
  if (σ13.1 236 50).toInt = 0 then
    Cl (f_X12_lotNow σ13) fun r15 σ14 =>
    Cl (f_X12_dropsBy x1 r2 r6 σ14) fun r17 σ16 =>
    if r15.toInt < r17.toInt then
      if 0 ≤ x1.toInt ∧ x1.toInt < 29 then
        Bd (hI σ16 267 x1.toInt.toNat 2) fun σ18 =>
        Bd (hI σ18 267 23 ((σ18.1 267 23) + (1 : Int32))) fun σ19 =>
        some σ19
      else none
    else
      f_X12_catches_81 x1 r2 r8 r10 σ16
  else
    f_X12_catches_81 x1 r2 r8 r10 σ13
def f_X12_beatGoes_108 (k73 : Int32 → HS → Option (HS)) (y1 : Int32) (σ : HS) : Option (HS) :=
  Bd (y1 + 1) fun z1 =>
  k73 z1 σ
def b_X12_beatGoes_73 (k73 : Int32 → HS → Option (HS)) (y1 : Int32) (σ : HS) : Option (HS) :=
  if 0 ≤ (σ.1 236 18).toInt ∧ (σ.1 236 18).toInt < 2 then
    if y1.toInt < (σ.1 245 (σ.1 236 18).toInt.toNat).toInt then
      if 0 ≤ y1.toInt ∧ y1.toInt < 29 then
        if (σ.1 267 y1.toInt.toNat).toInt = 0 then
          if 0 ≤ ((7 : Int32) + y1).toInt ∧ ((7 : Int32) + y1).toInt < 29 then
            if 0 ≤ ((7 : Int32) + y1).toInt ∧ ((7 : Int32) + y1).toInt < 29 then
              Bd (hI σ 267 ((7 : Int32) + y1).toInt.toNat ((σ.1 267 ((7 : Int32) + y1).toInt.toNat) - (1 : Int32))) fun σ3 =>
              f_X12_beatGoes_108 k73 y1 σ3
            else none
          else none
        else
          f_X12_beatGoes_108 k73 y1 σ
      else none
    else
      Bd (hI σ 267 21 ((σ.1 267 21) + (1 : Int32))) fun σ1 =>
      Bd (hI σ1 267 28 (-1)) fun σ2 =>
      some σ2
  else none
def f_X12_beatGoes_73 : Nat → Int32 → HS → Option (HS)
  | 0 => fun _ _ => none
  | n + 1 => fun y1 σ => b_X12_beatGoes_73 (f_X12_beatGoes_73 n) y1 σ
def f_X12_beatGoes_71 (σ : HS) : Option (HS) :=
  f_X12_beatGoes_73 5000 0 σ
def f_X12_beatGoes (σ : HS) : Option (HS) :=
  Cl (f_X12_catchesNow σ) fun r2 σ1 =>
  Bd (hI σ1 236 51 r2) fun σ3 =>
  Bd (hI σ3 236 52 0) fun σ4 =>
  Bd (hI σ4 236 53 0) fun σ5 =>
  if (σ5.1 236 51).toInt < 0 then
    if 0 ≤ (σ5.1 236 18).toInt ∧ (σ5.1 236 18).toInt < 2 then
      Cl (f_X12_held ((σ5.1 267 22) - (σ5.1 252 (σ5.1 236 18).toInt.toNat)) 0 999 σ5) fun r11 σ10 =>
      Bd (hI σ10 267 22 r11) fun σ12 =>
      f_X12_beatGoes_71 σ12
    else none
  else
    Cv (f_X12_dropsOthers σ5) fun σ6 =>
    Cv (f_X12_catches (σ6.1 236 51) σ6) fun σ8 =>
    f_X12_beatGoes_71 σ8
def b_X12_goes_2 (k2 : Int32 → Int32 → HS → Option (HS)) (y1 : Int32) (y2 : Int32) (σ : HS) : Option (HS) :=
  if y2.toInt < y1.toInt then
    Cv (f_X12_beatGoes σ) fun σ1 =>
    Bd (y2 + 1) fun z3 =>
    k2 y1 z3 σ1
  else
    some σ
def f_X12_goes_2 : Nat → Int32 → Int32 → HS → Option (HS)
  | 0 => fun _ _ _ => none
  | n + 1 => fun y1 y2 σ => b_X12_goes_2 (f_X12_goes_2 n) y1 y2 σ
def f_X12_goes (x1 : Int32) (σ : HS) : Option (HS) :=
  f_X12_goes_2 5000 x1 0 σ
def f_X12_thing (x1 : Int32) (x2 : Int32) (σ : HS) : Option (Int32 × HS) :=
  Cl (f_X12_isThing x1 σ) fun r2 σ1 =>
  if r2.toInt = 0 then
    some ((-1), σ1)
  else
    if x2.toInt = 0 then
      if 0 ≤ (((7 : Int32) * (σ1.1 236 18)) + x1).toInt ∧ (((7 : Int32) * (σ1.1 236 18)) + x1).toInt < 14 then
        some ((σ1.1 246 (((7 : Int32) * (σ1.1 236 18)) + x1).toInt.toNat), σ1)
      else none
    else
      if x2.toInt = 1 then
        if 0 ≤ (((7 : Int32) * (σ1.1 236 18)) + x1).toInt ∧ (((7 : Int32) * (σ1.1 236 18)) + x1).toInt < 14 then
          some ((σ1.1 247 (((7 : Int32) * (σ1.1 236 18)) + x1).toInt.toNat), σ1)
        else none
      else
        if x2.toInt = 2 then
          if 0 ≤ x1.toInt ∧ x1.toInt < 29 then
            some ((σ1.1 266 x1.toInt.toNat), σ1)
          else none
        else
          if x2.toInt = 3 then
            if 0 ≤ x1.toInt ∧ x1.toInt < 29 then
              if (σ1.1 266 x1.toInt.toNat).toInt = 0 then
                if 0 ≤ ((7 : Int32) + x1).toInt ∧ ((7 : Int32) + x1).toInt < 29 then
                  some ((σ1.1 266 ((7 : Int32) + x1).toInt.toNat), σ1)
                else none
              else
                some ((-2), σ1)
            else none
          else
            if x2.toInt = 4 then
              if 0 ≤ ((14 : Int32) + x1).toInt ∧ ((14 : Int32) + x1).toInt < 29 then
                some ((σ1.1 266 ((14 : Int32) + x1).toInt.toNat), σ1)
              else none
            else
              some ((-1), σ1)
def f_X12_pattern (x1 : Int32) (x2 : Int32) (σ : HS) : Option (Int32 × HS) :=
  Cl (f_X12_isPattern x1 σ) fun r2 σ1 =>
  if r2.toInt = 0 then
    some ((-1), σ1)
  else
    Cl (f_X12_lengthOf x1 σ1) fun r4 σ3 =>
    Cl (f_X12_in x2 (-1) (r4 - (1 : Int32)) σ3) fun r6 σ5 =>
    if r6.toInt = 0 then
      some ((-1), σ5)
    else
      if x2.toInt = (-1) then
        Cl (f_X12_lengthOf x1 σ5) fun r10 σ9 =>
        some (r10, σ9)
      else
        Cl (f_X12_heightAt x1 x2 σ5) fun r8 σ7 =>
        some (r8, σ7)
def f_X12_tells_35 (y1 : Int32) (y2 : Int32) (y3 : Int32) (σ : HS) : Option (Int32 × HS) :=
  Cv (f_X12_copies σ) fun σ1 =>
  Cl (f_X12_thingsSo 0 σ1) fun r4 σ3 =>
  Cl (f_X12_bits r4 σ3) fun r6 σ5 =>
  if y3.toInt = 0 then
    Cl (f_X12_tiresBy y1 y2 r6 σ5) fun r14 σ13 =>
    some (r14, σ13)
  else
    if y3.toInt = 1 then
      Cl (f_X12_dropsBy y1 y2 r6 σ5) fun r12 σ11 =>
      some (r12, σ11)
    else
      if y3.toInt = 2 then
        Cl (f_X12_forceOf y1 r6 σ5) fun r10 σ9 =>
        some (r10, σ9)
      else
        Cl (f_X12_paysOf y1 r6 σ5) fun r8 σ7 =>
        some (r8, σ7)
def f_X12_tells (x1 : Int32) (x2 : Int32) (x3 : Int32) (σ : HS) : Option (Int32 × HS) :=
  Cl (f_X12_isThing x1 σ) fun r2 σ1 =>
  if r2.toInt = 0 then
    some ((-100), σ1)
  else
    Cl (f_X12_in x3 0 3 σ1) fun r4 σ3 =>
    if r4.toInt = 0 then
      some ((-100), σ3)
    else
      if x3.toInt < 2 then
        Cl (f_X12_in x2 0 9 σ3) fun r6 σ5 =>
        if r6.toInt = 0 then
          some ((-100), σ5)
        else
          f_X12_tells_35 x1 x2 x3 σ5
      else
        f_X12_tells_35 x1 x2 x3 σ3
def b_X12_records_51 (k51 : Int32 → HS → Option (HS)) (y1 : Int32) (σ : HS) : Option (HS) :=
  if y1.toInt < 29 then
    if 0 ≤ y1.toInt ∧ y1.toInt < 29 then
      if 0 ≤ (((29 : Int32) * (σ.1 236 54)) + y1).toInt ∧ (((29 : Int32) * (σ.1 236 54)) + y1).toInt < 1160 then
        Bd (hI σ 268 (((29 : Int32) * (σ.1 236 54)) + y1).toInt.toNat (σ.1 266 y1.toInt.toNat)) fun σ4 =>
        Bd (y1 + 1) fun z5 =>
        k51 z5 σ4
      else none
    else none
  else
    Bd (hI σ 236 54 ((σ.1 236 54) + (1 : Int32))) fun σ1 =>
    Cv (f_X12_keepsRow σ1) fun σ2 =>
    some σ2
def f_X12_records_51 : Nat → Int32 → HS → Option (HS)
  | 0 => fun _ _ => none
  | n + 1 => fun y1 σ => b_X12_records_51 (f_X12_records_51 n) y1 σ
def f_X12_records_49 (σ : HS) : Option (HS) :=
  f_X12_records_51 5000 0 σ
def b_X12_records_11 (k11 : Int32 → HS → Option (HS)) (y1 : Int32) (σ : HS) : Option (HS) :=
  if y1.toInt < 1131 then
    if 0 ≤ (y1 + (29 : Int32)).toInt ∧ (y1 + (29 : Int32)).toInt < 1160 then
      if 0 ≤ y1.toInt ∧ y1.toInt < 1160 then
        Bd (hI σ 268 y1.toInt.toNat (σ.1 268 (y1 + (29 : Int32)).toInt.toNat)) fun σ2 =>
        Bd (y1 + 1) fun z3 =>
        k11 z3 σ2
      else none
    else none
  else
    Bd (hI σ 236 54 ((σ.1 236 54) - (1 : Int32))) fun σ1 =>
    f_X12_records_49 σ1
def f_X12_records_11 : Nat → Int32 → HS → Option (HS)
  | 0 => fun _ _ => none
  | n + 1 => fun y1 σ => b_X12_records_11 (f_X12_records_11 n) y1 σ
def f_X12_records (σ : HS) : Option (HS) :=
  if (σ.1 236 54).toInt = 40 then
    f_X12_records_11 5000 0 σ
  else
    f_X12_records_49 σ
def f_X12_throwIn (x1 : Int32) (x2 : Int32) (σ : HS) : Option (Int32 × HS) :=
  Cl (f_X12_isThing x1 σ) fun r2 σ1 =>
  if r2.toInt = 0 then
    some (0, σ1)
  else
    if 0 ≤ x1.toInt ∧ x1.toInt < 29 then
      if (σ1.1 266 x1.toInt.toNat).toInt = 0 then
        some (0, σ1)
      else
        Cl (f_X12_in x2 0 9 σ1) fun r4 σ3 =>
        if r4.toInt = 0 then
          some (0, σ3)
        else
          Cv (f_X12_copies σ3) fun σ5 =>
          if 0 ≤ x1.toInt ∧ x1.toInt < 29 then
            Bd (hI σ5 267 x1.toInt.toNat 0) fun σ7 =>
            if 0 ≤ ((7 : Int32) + x1).toInt ∧ ((7 : Int32) + x1).toInt < 29 then
              Bd (hI σ7 267 ((7 : Int32) + x1).toInt.toNat x2) fun σ8 =>
              Cv (f_X12_records σ8) fun σ9 =>
              some (1, σ9)
            else none
          else none
    else none
def f_X12_uses (x1 : Int32) (σ : HS) : Option (HS) :=
  Bd (hI σ 267 26 x1) fun σ1 =>
  Bd (hI σ1 267 27 (σ1.1 267 21)) fun σ2 =>
  some σ2
def f_X12_use (x1 : Int32) (σ : HS) : Option (Int32 × HS) :=
  Cl (f_X12_isPattern x1 σ) fun r2 σ1 =>
  if r2.toInt = 0 then
    some (0, σ1)
  else
    Cv (f_X12_copies σ1) fun σ3 =>
    Cv (f_X12_uses x1 σ3) fun σ5 =>
    Cv (f_X12_records σ5) fun σ7 =>
    some (1, σ7)
def f_X12_set (x1 : Int32) (σ : HS) : Option (Int32 × HS) :=
  Cl (f_X12_in x1 0 9 σ) fun r2 σ1 =>
  if r2.toInt = 0 then
    some (0, σ1)
  else
    if (σ1.1 266 28).toInt = x1.toInt then
      some (0, σ1)
    else
      Cv (f_X12_copies σ1) fun σ3 =>
      Bd (hI σ3 267 28 x1) fun σ5 =>
      Cv (f_X12_records σ5) fun σ6 =>
      some (1, σ6)
def f_X12_isLong (x1 : Int32) (σ : HS) : Option (Int32 × HS) :=
  Cl (f_X12_in x1 0 60 σ) fun r2 σ1 =>
  if 0 ≤ r2.toInt ∧ r2.toInt ≤ 1 then
  some (r2, σ1)
  else none
def f_X12_beats (x1 : Int32) (σ : HS) : Option (Int32 × HS) :=
  Cl (f_X12_isLong x1 σ) fun r2 σ1 =>
  if r2.toInt = 0 then
    some ((-1), σ1)
  else
    if x1.toInt = 0 then
      some ((σ1.1 266 21), σ1)
    else
      Cv (f_X12_copies σ1) fun σ3 =>
      Cv (f_X12_goes x1 σ3) fun σ5 =>
      Cv (f_X12_records σ5) fun σ7 =>
      some ((σ7.1 266 21), σ7)
def b_X12_undo_21 (k21 : Int32 → HS → Option (Int32 × HS)) (y1 : Int32) (σ : HS) : Option (Int32 × HS) :=
  if y1.toInt < 29 then
    if 0 ≤ (((29 : Int32) * (σ.1 236 54)) + y1).toInt ∧ (((29 : Int32) * (σ.1 236 54)) + y1).toInt < 1160 then
      if 0 ≤ y1.toInt ∧ y1.toInt < 29 then
        Bd (hI σ 266 y1.toInt.toNat (σ.1 268 (((29 : Int32) * (σ.1 236 54)) + y1).toInt.toNat)) fun σ1 =>
        Bd (y1 + 1) fun z2 =>
        k21 z2 σ1
      else none
    else none
  else
    some (1, σ)
def f_X12_undo_21 : Nat → Int32 → HS → Option (Int32 × HS)
  | 0 => fun _ _ => none
  | n + 1 => fun y1 σ => b_X12_undo_21 (f_X12_undo_21 n) y1 σ
def f_X12_undo (σ : HS) : Option (Int32 × HS) :=
  if (σ.1 236 54).toInt = 0 then
    some (0, σ)
  else
    Bd (hI σ 236 54 ((σ.1 236 54) - (1 : Int32))) fun σ1 =>
    f_X12_undo_21 5000 0 σ1
def b_X12_takesPattern_2 (k2 : Int32 → Int32 → Int32 → HS → Option (HS)) (y1 : Int32) (y2 : Int32) (y3 : Int32) (σ : HS) : Option (HS) :=
  Cl (f_X12_lengthOf y1 σ) fun r2 σ1 =>
  if y3.toInt < r2.toInt then
    Cl (f_X12_heightAt y1 y3 σ1) fun r7 σ6 =>
    if 0 ≤ (y2 + y3).toInt ∧ (y2 + y3).toInt < 16 then
      Bd (hI σ6 269 (y2 + y3).toInt.toNat r7) fun σ8 =>
      Bd (y3 + 1) fun z9 =>
      k2 y1 y2 z9 σ8
    else none
  else
    Cl (f_X12_lengthOf y1 σ1) fun r4 σ3 =>
    Bd (hI σ3 236 57 (y2 + r4)) fun σ5 =>
    some σ5
def f_X12_takesPattern_2 : Nat → Int32 → Int32 → Int32 → HS → Option (HS)
  | 0 => fun _ _ _ _ => none
  | n + 1 => fun y1 y2 y3 σ => b_X12_takesPattern_2 (f_X12_takesPattern_2 n) y1 y2 y3 σ
def f_X12_takesPattern (x1 : Int32) (x2 : Int32) (σ : HS) : Option (HS) :=
  f_X12_takesPattern_2 5000 x1 x2 0 σ
def b_X12_keeps_6 (k6 : Int32 → Int32 → Int32 → HS → Option (Int32 × HS)) (y1 : Int32) (y2 : Int32) (y3 : Int32) (σ : HS) : Option (Int32 × HS) :=
  if y3.toInt < (σ.1 236 57).toInt then
    if 0 ≤ y3.toInt ∧ y3.toInt < 16 then
      if (σ.1 236 57).toInt = 0 then none else
      Bd ((y3 + (σ.1 269 y3.toInt.toNat)) - (y3 + (σ.1 269 y3.toInt.toNat)) / (σ.1 236 57) * (σ.1 236 57)) fun z1 =>
      if ((y1 >>> (z1 &&& 31)) &&& (1 : Int32)).toInt = 1 then
        some ((-2), σ)
      else
        Bd (y1 ||| ((1 : Int32) <<< (z1 &&& 31))) fun z2 =>
        if 0 ≤ y3.toInt ∧ y3.toInt < 16 then
          Bd (y2 + (σ.1 269 y3.toInt.toNat)) fun z3 =>
          Bd (y3 + 1) fun z4 =>
          k6 z2 z3 z4 σ
        else none
    else none
  else
    if (σ.1 236 57).toInt = 0 then none else
    some ((y2 / (σ.1 236 57)), σ)
def f_X12_keeps_6 : Nat → Int32 → Int32 → Int32 → HS → Option (Int32 × HS)
  | 0 => fun _ _ _ _ => none
  | n + 1 => fun y1 y2 y3 σ => b_X12_keeps_6 (f_X12_keeps_6 n) y1 y2 y3 σ
def f_X12_keeps (σ : HS) : Option (Int32 × HS) :=
  f_X12_keeps_6 5000 0 0 0 σ
def f_X12_keepsOf (x1 : Int32) (σ : HS) : Option (Int32 × HS) :=
  Cv (f_X12_takesPattern x1 0 σ) fun σ1 =>
  Cl (f_X12_keeps σ1) fun r4 σ3 =>
  some (r4, σ3)
def f_X12_told (x1 : Int32) (x2 : Int32) (σ : HS) : Option (Int32 × HS) :=
  if x2.toInt = 1 then
    some (x1, σ)
  else
    if x1.toInt < 0 then
      some (0, σ)
    else
      some (1, σ)
def f_X12_closes (x1 : Int32) (x2 : Int32) (σ : HS) : Option (Int32 × HS) :=
  Cl (f_X12_isPattern x1 σ) fun r2 σ1 =>
  if r2.toInt = 0 then
    some ((-1), σ1)
  else
    Cl (f_X12_in x2 0 1 σ1) fun r4 σ3 =>
    if r4.toInt = 0 then
      some ((-1), σ3)
    else
      Cl (f_X12_keepsOf x1 σ3) fun r6 σ5 =>
      Cl (f_X12_told r6 x2 σ5) fun r8 σ7 =>
      some (r8, σ7)
def f_X12_joined (x1 : Int32) (x2 : Int32) (x3 : Int32) (σ : HS) : Option (Int32 × HS) :=
  Cl (f_X12_isPattern x1 σ) fun r2 σ1 =>
  if r2.toInt = 0 then
    some ((-1), σ1)
  else
    Cl (f_X12_isPattern x2 σ1) fun r4 σ3 =>
    if r4.toInt = 0 then
      some ((-1), σ3)
    else
      Cl (f_X12_in x3 0 1 σ3) fun r6 σ5 =>
      if r6.toInt = 0 then
        some ((-1), σ5)
      else
        Cv (f_X12_takesPattern x1 0 σ5) fun σ7 =>
        Cl (f_X12_lengthOf x1 σ7) fun r10 σ9 =>
        Cv (f_X12_takesPattern x2 r10 σ9) fun σ11 =>
        Cl (f_X12_keeps σ11) fun r14 σ13 =>
        Cl (f_X12_told r14 x3 σ13) fun r16 σ15 =>
        some (r16, σ15)
def b_X12_isTurned_3 (k3 : Int32 → Int32 → Int32 → Int32 → HS → Option (Int32 × HS)) (y1 : Int32) (y2 : Int32) (y3 : Int32) (y4 : Int32) (σ : HS) : Option (Int32 × HS) :=
  Cl (f_X12_lengthOf y1 σ) fun r2 σ1 =>
  if y4.toInt < r2.toInt then
    Cl (f_X12_heightAt y1 (y4 + y3) σ1) fun r4 σ3 =>
    Cl (f_X12_heightAt y2 y4 σ3) fun r6 σ5 =>
    if r4.toInt = r6.toInt then
      Bd (y4 + 1) fun z7 =>
      k3 y1 y2 y3 z7 σ5
    else
      some (0, σ5)
  else
    some (1, σ1)
def f_X12_isTurned_3 : Nat → Int32 → Int32 → Int32 → Int32 → HS → Option (Int32 × HS)
  | 0 => fun _ _ _ _ _ => none
  | n + 1 => fun y1 y2 y3 y4 σ => b_X12_isTurned_3 (f_X12_isTurned_3 n) y1 y2 y3 y4 σ
def f_X12_isTurned (x1 : Int32) (x2 : Int32) (x3 : Int32) (σ : HS) : Option (Int32 × HS) :=
  f_X12_isTurned_3 5000 x1 x2 x3 0 σ
def b_X12_turned_36 (k36 : Int32 → Int32 → Int32 → HS → Option (Int32 × HS)) (y1 : Int32) (y2 : Int32) (y3 : Int32) (σ : HS) : Option (Int32 × HS) :=
  Cl (f_X12_lengthOf y1 σ) fun r2 σ1 =>
  if y3.toInt < r2.toInt then
    Cl (f_X12_isTurned y1 y2 y3 σ1) fun r4 σ3 =>
    if r4.toInt = 0 then
      Bd (y3 + 1) fun z5 =>
      k36 y1 y2 z5 σ3
    else
      some (y3, σ3)
  else
    some ((-2), σ1)
def f_X12_turned_36 : Nat → Int32 → Int32 → Int32 → HS → Option (Int32 × HS)
  | 0 => fun _ _ _ _ => none
  | n + 1 => fun y1 y2 y3 σ => b_X12_turned_36 (f_X12_turned_36 n) y1 y2 y3 σ
def f_X12_turned (x1 : Int32) (x2 : Int32) (σ : HS) : Option (Int32 × HS) :=
  Cl (f_X12_isPattern x1 σ) fun r2 σ1 =>
  if r2.toInt = 0 then
    some ((-1), σ1)
  else
    Cl (f_X12_isPattern x2 σ1) fun r4 σ3 =>
    if r4.toInt = 0 then
      some ((-1), σ3)
    else
      Cl (f_X12_lengthOf x1 σ3) fun r6 σ5 =>
      Cl (f_X12_lengthOf x2 σ5) fun r8 σ7 =>
      if r6.toInt = r8.toInt then
        f_X12_turned_36 5000 x1 x2 0 σ7
      else
        some ((-2), σ7)
def f_X12_span_40 (k14 : Int32 → Int32 → Int32 → HS → Option (Int32 × HS)) (y1 : Int32) (y2 : Int32) (y3 : Int32) (σ : HS) : Option (Int32 × HS) :=
  Bd (y3 + 1) fun z1 =>
  k14 y1 y2 z1 σ
def b_X12_span_14 (k14 : Int32 → Int32 → Int32 → HS → Option (Int32 × HS)) (y1 : Int32) (y2 : Int32) (y3 : Int32) (σ : HS) : Option (Int32 × HS) :=
  Cl (f_X12_lengthOf y1 σ) fun r2 σ1 =>
  if y3.toInt < r2.toInt then
    Cl (f_X12_heightAt y1 y3 σ1) fun r4 σ3 =>
    if y2.toInt < r4.toInt then
      Cl (f_X12_heightAt y1 y3 σ3) fun r6 σ5 =>
      f_X12_span_40 k14 y1 r6 y3 σ5
    else
      f_X12_span_40 k14 y1 y2 y3 σ3
  else
    some (y2, σ1)
def f_X12_span_14 : Nat → Int32 → Int32 → Int32 → HS → Option (Int32 × HS)
  | 0 => fun _ _ _ _ => none
  | n + 1 => fun y1 y2 y3 σ => b_X12_span_14 (f_X12_span_14 n) y1 y2 y3 σ
def f_X12_span (x1 : Int32) (σ : HS) : Option (Int32 × HS) :=
  Cl (f_X12_isPattern x1 σ) fun r2 σ1 =>
  if r2.toInt = 0 then
    some ((-1), σ1)
  else
    f_X12_span_14 5000 x1 0 0 σ1
def f_X12_orbits_93 (k28 : Int32 → Int32 → Int32 → HS → Option (Int32 × HS)) (y2 : Int32) (y3 : Int32) (y4 : Int32) (σ : HS) : Option (Int32 × HS) :=
  Bd (y4 + 1) fun z1 =>
  k28 y2 y3 z1 σ
def b_X12_orbits_57 (k28 : Int32 → Int32 → Int32 → HS → Option (Int32 × HS)) (k57 : Int32 → Int32 → Int32 → Int32 → HS → Option (Int32 × HS)) (y2 : Int32) (y3 : Int32) (y4 : Int32) (y5 : Int32) (σ : HS) : Option (Int32 × HS) :=
  if ((y2 >>> (y5 &&& 31)) &&& (1 : Int32)).toInt = 0 then
    Bd (y2 ||| ((1 : Int32) <<< (y5 &&& 31))) fun z1 =>
    if 0 ≤ y5.toInt ∧ y5.toInt < 16 then
      if (σ.1 236 57).toInt = 0 then none else
      Bd ((y5 + (σ.1 269 y5.toInt.toNat)) - (y5 + (σ.1 269 y5.toInt.toNat)) / (σ.1 236 57) * (σ.1 236 57)) fun z2 =>
      k57 z1 y3 y4 z2 σ
    else none
  else
    f_X12_orbits_93 k28 y2 y3 y4 σ
def f_X12_orbits_57 (k28 : Int32 → Int32 → Int32 → HS → Option (Int32 × HS)) : Nat → Int32 → Int32 → Int32 → Int32 → HS → Option (Int32 × HS)
  | 0 => fun _ _ _ _ _ => none
  | n + 1 => fun y2 y3 y4 y5 σ => b_X12_orbits_57 k28 (f_X12_orbits_57 k28 n) y2 y3 y4 y5 σ
def b_X12_orbits_28 (k28 : Int32 → Int32 → Int32 → HS → Option (Int32 × HS)) (y2 : Int32) (y3 : Int32) (y4 : Int32) (σ : HS) : Option (Int32 × HS) :=
  if y4.toInt < (σ.1 236 57).toInt then
    if ((y2 >>> (y4 &&& 31)) &&& (1 : Int32)).toInt = 1 then
      f_X12_orbits_93 k28 y2 y3 y4 σ
    else
      Bd (y3 + 1) fun z1 =>
      f_X12_orbits_57 k28 5000 y2 z1 y4 y4 σ
  else
    some (y3, σ)
def f_X12_orbits_28 : Nat → Int32 → Int32 → Int32 → HS → Option (Int32 × HS)
  | 0 => fun _ _ _ _ => none
  | n + 1 => fun y2 y3 y4 σ => b_X12_orbits_28 (f_X12_orbits_28 n) y2 y3 y4 σ
def f_X12_orbits (x1 : Int32) (σ : HS) : Option (Int32 × HS) :=
  Cl (f_X12_isPattern x1 σ) fun r2 σ1 =>
  if r2.toInt = 0 then
    some ((-1), σ1)
  else
    Cl (f_X12_keepsOf x1 σ1) fun r4 σ3 =>
    if r4.toInt < 0 then
      some ((-2), σ3)
    else
      f_X12_orbits_28 5000 0 0 0 σ3
def f_X12_swaps_82 (k14 : Int32 → Int32 → Int32 → HS → Option (Int32 × HS)) (k28 : Int32 → Int32 → Int32 → Int32 → HS → Option (Int32 × HS)) (y1 : Int32) (y2 : Int32) (y3 : Int32) (y4 : Int32) (σ : HS) : Option (Int32 × HS) :=
  Bd (y4 + 1) fun z1 =>
  k28 y1 y2 y3 z1 σ
def b_X12_swaps_28 (k14 : Int32 → Int32 → Int32 → HS → Option (Int32 × HS)) (k28 : Int32 → Int32 → Int32 → Int32 → HS → Option (Int32 × HS)) (y1 : Int32) (y2 : Int32) (y3 : Int32) (y4 : Int32) (σ : HS) : Option (Int32 × HS) :=
  Cl (f_X12_lengthOf y1 σ) fun r2 σ1 =>
  if y4.toInt < r2.toInt then
    Cl (f_X12_heightAt y1 y4 σ1) fun r5 σ4 =>
    Cl (f_X12_in ((r5 + y4) - y3) 0 9 σ4) fun r7 σ6 =>
    if r7.toInt = 0 then
      f_X12_swaps_82 k14 k28 y1 y2 y3 y4 σ6
    else
      Cl (f_X12_heightAt y1 y3 σ6) fun r9 σ8 =>
      Cl (f_X12_in ((r9 - y4) + y3) 0 9 σ8) fun r11 σ10 =>
      if r11.toInt = 0 then
        f_X12_swaps_82 k14 k28 y1 y2 y3 y4 σ10
      else
        Bd (y2 + 1) fun z12 =>
        f_X12_swaps_82 k14 k28 y1 z12 y3 y4 σ10
  else
    Bd (y3 + 1) fun z3 =>
    k14 y1 y2 z3 σ1
def f_X12_swaps_28 (k14 : Int32 → Int32 → Int32 → HS → Option (Int32 × HS)) : Nat → Int32 → Int32 → Int32 → Int32 → HS → Option (Int32 × HS)
  | 0 => fun _ _ _ _ _ => none
  | n + 1 => fun y1 y2 y3 y4 σ => b_X12_swaps_28 k14 (f_X12_swaps_28 k14 n) y1 y2 y3 y4 σ
def b_X12_swaps_14 (k14 : Int32 → Int32 → Int32 → HS → Option (Int32 × HS)) (y1 : Int32) (y2 : Int32) (y3 : Int32) (σ : HS) : Option (Int32 × HS) :=
  Cl (f_X12_lengthOf y1 σ) fun r2 σ1 =>
  if y3.toInt < r2.toInt then
    Bd (y3 + (1 : Int32)) fun z3 =>
    f_X12_swaps_28 k14 5000 y1 y2 y3 z3 σ1
  else
    some (y2, σ1)
def f_X12_swaps_14 : Nat → Int32 → Int32 → Int32 → HS → Option (Int32 × HS)
  | 0 => fun _ _ _ _ => none
  | n + 1 => fun y1 y2 y3 σ => b_X12_swaps_14 (f_X12_swaps_14 n) y1 y2 y3 σ
def f_X12_swaps (x1 : Int32) (σ : HS) : Option (Int32 × HS) :=
  Cl (f_X12_isPattern x1 σ) fun r2 σ1 =>
  if r2.toInt = 0 then
    some ((-1), σ1)
  else
    f_X12_swaps_14 5000 x1 0 0 σ1
def f_X12_lands_28 (k8 : Int32 → Int32 → HS → Option (Int32 × HS)) (y1 : Int32) (y2 : Int32) (σ : HS) : Option (Int32 × HS) :=
  Bd (y2 + 1) fun z1 =>
  k8 y1 z1 σ
def b_X12_lands_8 (k8 : Int32 → Int32 → HS → Option (Int32 × HS)) (y1 : Int32) (y2 : Int32) (σ : HS) : Option (Int32 × HS) :=
  if y2.toInt < 10 then
    Cl (f_X12_landsAt y2 σ) fun r2 σ1 =>
    if 0 < r2.toInt then
      Bd (y1 ||| ((1 : Int32) <<< (y2 &&& 31))) fun z3 =>
      f_X12_lands_28 k8 z3 y2 σ1
    else
      f_X12_lands_28 k8 y1 y2 σ1
  else
    some (y1, σ)
def f_X12_lands_8 : Nat → Int32 → Int32 → HS → Option (Int32 × HS)
  | 0 => fun _ _ _ => none
  | n + 1 => fun y1 y2 σ => b_X12_lands_8 (f_X12_lands_8 n) y1 y2 σ
def f_X12_lands (σ : HS) : Option (Int32 × HS) :=
  Cv (f_X12_copies σ) fun σ1 =>
  f_X12_lands_8 5000 0 0 σ1
def f_X12_inHand (x1 : Int32) (σ : HS) : Option (Int32 × HS) :=
  Cl (f_X12_isLong x1 σ) fun r2 σ1 =>
  if r2.toInt = 0 then
    some ((-1), σ1)
  else
    Cv (f_X12_copiesStill σ1) fun σ3 =>
    Cv (f_X12_goes x1 σ3) fun σ5 =>
    Cl (f_X12_catchesNow σ5) fun r8 σ7 =>
    some (r8, σ7)
def b_X12_clash_6 (k6 : Int32 → HS → Option (Int32 × HS)) (y1 : Int32) (σ : HS) : Option (Int32 × HS) :=
  if 60 < y1.toInt then
    some ((-2), σ)
  else
    Cv (f_X12_beatGoes σ) fun σ1 =>
    if (σ1.1 236 52).toInt = 0 then
      Bd (y1 + 1) fun z3 =>
      k6 z3 σ1
    else
      some (y1, σ1)
def f_X12_clash_6 : Nat → Int32 → HS → Option (Int32 × HS)
  | 0 => fun _ _ => none
  | n + 1 => fun y1 σ => b_X12_clash_6 (f_X12_clash_6 n) y1 σ
def f_X12_clash (σ : HS) : Option (Int32 × HS) :=
  Cv (f_X12_copiesStill σ) fun σ1 =>
  f_X12_clash_6 5000 0 σ1
def f_X12_aimOf_51 (k4 : Int32 → Int32 → Int32 → HS → Option (Int32 × HS)) (y1 : Int32) (y2 : Int32) (y3 : Int32) (σ : HS) : Option (Int32 × HS) :=
  Bd (y3 + 1) fun z1 =>
  k4 y1 y2 z1 σ
def b_X12_aimOf_4 (k4 : Int32 → Int32 → Int32 → HS → Option (Int32 × HS)) (y1 : Int32) (y2 : Int32) (y3 : Int32) (σ : HS) : Option (Int32 × HS) :=
  if 9 < y3.toInt then
    some (y2, σ)
  else
    Cl (f_X12_lengthOf y1 σ) fun r2 σ1 =>
    Cl (f_X12_lengthOf y1 σ1) fun r4 σ3 =>
    if r4.toInt = 0 then none else
    Bd (((r2 * (9 : Int32)) - y3) - ((r2 * (9 : Int32)) - y3) / r4 * r4) fun z5 =>
    Cl (f_X12_heightAt y1 z5 σ3) fun r7 σ6 =>
    Bd (r7 - y3) fun z8 =>
    if z8.toInt < 0 then
      f_X12_aimOf_51 k4 y1 y2 y3 σ6
    else
      Bd (y2 ||| ((1 : Int32) <<< (z8 &&& 31))) fun z9 =>
      f_X12_aimOf_51 k4 y1 z9 y3 σ6
def f_X12_aimOf_4 : Nat → Int32 → Int32 → Int32 → HS → Option (Int32 × HS)
  | 0 => fun _ _ _ _ => none
  | n + 1 => fun y1 y2 y3 σ => b_X12_aimOf_4 (f_X12_aimOf_4 n) y1 y2 y3 σ
def f_X12_aimOf (x1 : Int32) (σ : HS) : Option (Int32 × HS) :=
  f_X12_aimOf_4 5000 x1 0 1 σ
def f_X12_nextOf (x1 : Int32) (x2 : Int32) (σ : HS) : Option (Int32 × HS) :=
  if (x1 &&& (1 : Int32)).toInt = 0 then
    if x2.toInt = 0 then
      some ((x1 >>> ((1 : Int32) &&& 31)), σ)
    else
      some ((-1), σ)
  else
    if x2.toInt = 0 then
      some ((-1), σ)
    else
      if ((x1 >>> (x2 &&& 31)) &&& (1 : Int32)).toInt = 1 then
        some ((-1), σ)
      else
        some (((x1 >>> ((1 : Int32) &&& 31)) ||| ((1 : Int32) <<< ((x2 - (1 : Int32)) &&& 31))), σ)
def f_X12_fillsFar_109 (k34 : Int32 → HS → Option (HS)) (k42 : Int32 → Int32 → HS → Option (HS)) (y2 : Int32) (y3 : Int32) (σ : HS) : Option (HS) :=
  Bd (y3 + 1) fun z1 =>
  k42 y2 z1 σ
def f_X12_fillsFar_103 (k34 : Int32 → HS → Option (HS)) (k42 : Int32 → Int32 → HS → Option (HS)) (k52 : Int32 → Int32 → Int32 → HS → Option (HS)) (y2 : Int32) (y3 : Int32) (y4 : Int32) (σ : HS) : Option (HS) :=
  Bd (y4 + 1) fun z1 =>
  k52 y2 y3 z1 σ
def b_X12_fillsFar_52 (k34 : Int32 → HS → Option (HS)) (k42 : Int32 → Int32 → HS → Option (HS)) (k52 : Int32 → Int32 → Int32 → HS → Option (HS)) (y2 : Int32) (y3 : Int32) (y4 : Int32) (σ : HS) : Option (HS) :=
  if 9 < y4.toInt then
    f_X12_fillsFar_109 k34 k42 y2 y3 σ
  else
    if 0 ≤ y3.toInt ∧ y3.toInt < 1024 then
      if (σ.1 270 y3.toInt.toNat).toInt = 99 then
        Cl (f_X12_nextOf y3 y4 σ) fun r2 σ1 =>
        if r2.toInt < 0 then
          f_X12_fillsFar_103 k34 k42 k52 y2 y3 y4 σ1
        else
          if 0 ≤ r2.toInt ∧ r2.toInt < 1024 then
            if (σ1.1 270 r2.toInt.toNat).toInt = (y2 - (1 : Int32)).toInt then
              if 0 ≤ y3.toInt ∧ y3.toInt < 1024 then
                Bd (hI σ1 270 y3.toInt.toNat y2) fun σ3 =>
                f_X12_fillsFar_103 k34 k42 k52 y2 y3 y4 σ3
              else none
            else
              f_X12_fillsFar_103 k34 k42 k52 y2 y3 y4 σ1
          else none
      else
        f_X12_fillsFar_109 k34 k42 y2 y3 σ
    else none
def f_X12_fillsFar_52 (k34 : Int32 → HS → Option (HS)) (k42 : Int32 → Int32 → HS → Option (HS)) : Nat → Int32 → Int32 → Int32 → HS → Option (HS)
  | 0 => fun _ _ _ _ => none
  | n + 1 => fun y2 y3 y4 σ => b_X12_fillsFar_52 k34 k42 (f_X12_fillsFar_52 k34 k42 n) y2 y3 y4 σ
def b_X12_fillsFar_42 (k34 : Int32 → HS → Option (HS)) (k42 : Int32 → Int32 → HS → Option (HS)) (y2 : Int32) (y3 : Int32) (σ : HS) : Option (HS) :=
  if y3.toInt < 1024 then
    f_X12_fillsFar_52 k34 k42 5000 y2 y3 0 σ
  else
    Bd (y2 + 1) fun z1 =>
    k34 z1 σ
def f_X12_fillsFar_42 (k34 : Int32 → HS → Option (HS)) : Nat → Int32 → Int32 → HS → Option (HS)
  | 0 => fun _ _ _ => none
  | n + 1 => fun y2 y3 σ => b_X12_fillsFar_42 k34 (f_X12_fillsFar_42 k34 n) y2 y3 σ
def b_X12_fillsFar_34 (k34 : Int32 → HS → Option (HS)) (y2 : Int32) (σ : HS) : Option (HS) :=
  if 12 < y2.toInt then
    some σ
  else
    f_X12_fillsFar_42 k34 5000 y2 0 σ
def f_X12_fillsFar_34 : Nat → Int32 → HS → Option (HS)
  | 0 => fun _ _ => none
  | n + 1 => fun y2 σ => b_X12_fillsFar_34 (f_X12_fillsFar_34 n) y2 σ
def f_X12_fillsFar_25 (k2 : Int32 → Int32 → HS → Option (HS)) (y1 : Int32) (y2 : Int32) (v0 : Int32) (v1 : Int32) (σ : HS) : Option (HS) :=
  if 0 ≤ v1.toInt ∧ v1.toInt < 1024 then
    Bd (hI σ 270 v1.toInt.toNat v0) fun σ1 =>
    Bd (y2 + 1) fun z2 =>
    k2 y1 z2 σ1
  else none
def b_X12_fillsFar_2 (k2 : Int32 → Int32 → HS → Option (HS)) (y1 : Int32) (y2 : Int32) (σ : HS) : Option (HS) :=
  if y2.toInt < 1024 then
    if y2.toInt = y1.toInt then
      f_X12_fillsFar_25 k2 y1 y2 0 y2 σ
    else
      f_X12_fillsFar_25 k2 y1 y2 99 y2 σ
  else
    f_X12_fillsFar_34 5000 1 σ
def f_X12_fillsFar_2 : Nat → Int32 → Int32 → HS → Option (HS)
  | 0 => fun _ _ _ => none
  | n + 1 => fun y1 y2 σ => b_X12_fillsFar_2 (f_X12_fillsFar_2 n) y1 y2 σ
def f_X12_fillsFar (x1 : Int32) (σ : HS) : Option (HS) :=
  f_X12_fillsFar_2 5000 x1 0 σ
def f_X12_firstOf_31 (k2 : Int32 → Int32 → HS → Option (Int32 × HS)) (y1 : Int32) (y2 : Int32) (σ : HS) : Option (Int32 × HS) :=
  Bd (y2 + 1) fun z1 =>
  k2 y1 z1 σ
def b_X12_firstOf_2 (k2 : Int32 → Int32 → HS → Option (Int32 × HS)) (y1 : Int32) (y2 : Int32) (σ : HS) : Option (Int32 × HS) :=
  Cl (f_X12_nextOf y1 y2 σ) fun r2 σ1 =>
  if r2.toInt < 0 then
    f_X12_firstOf_31 k2 y1 y2 σ1
  else
    Cl (f_X12_nextOf y1 y2 σ1) fun r4 σ3 =>
    if 0 ≤ r4.toInt ∧ r4.toInt < 1024 then
      if 0 ≤ y1.toInt ∧ y1.toInt < 1024 then
        if (σ3.1 270 r4.toInt.toNat).toInt = ((σ3.1 270 y1.toInt.toNat) - (1 : Int32)).toInt then
          some (y2, σ3)
        else
          f_X12_firstOf_31 k2 y1 y2 σ3
      else none
    else none
def f_X12_firstOf_2 : Nat → Int32 → Int32 → HS → Option (Int32 × HS)
  | 0 => fun _ _ _ => none
  | n + 1 => fun y1 y2 σ => b_X12_firstOf_2 (f_X12_firstOf_2 n) y1 y2 σ
def f_X12_firstOf (x1 : Int32) (σ : HS) : Option (Int32 × HS) :=
  f_X12_firstOf_2 5000 x1 0 σ
def b_X12_areTwoSoon_2 (k2 : Int32 → HS → Option (Int32 × HS)) (y1 : Int32) (σ : HS) : Option (Int32 × HS) :=
  if y1.toInt < 10 then
    Cl (f_X12_landsAt y1 σ) fun r2 σ1 =>
    if 1 < r2.toInt then
      some (1, σ1)
    else
      Bd (y1 + 1) fun z3 =>
      k2 z3 σ1
  else
    some (0, σ)
def f_X12_areTwoSoon_2 : Nat → Int32 → HS → Option (Int32 × HS)
  | 0 => fun _ _ => none
  | n + 1 => fun y1 σ => b_X12_areTwoSoon_2 (f_X12_areTwoSoon_2 n) y1 σ
def f_X12_areTwoSoon (σ : HS) : Option (Int32 × HS) :=
  f_X12_areTwoSoon_2 5000 0 σ
def f_X12_into_55 (y2 : Int32) (σ : HS) : Option (Int32 × HS) :=
  if y2.toInt = (-1) then
    some ((-2), σ)
  else
    some ((-3), σ)
def b_X12_into_95 (k95 : Int32 → Int32 → Int32 → HS → Option (Int32 × HS)) (y2 : Int32) (y3 : Int32) (y4 : Int32) (σ : HS) : Option (Int32 × HS) :=
  if y4.toInt < y2.toInt then
    Cl (f_X12_firstOf y3 σ) fun r4 σ3 =>
    Cl (f_X12_nextOf y3 r4 σ3) fun r6 σ5 =>
    Bd (y4 + 1) fun z7 =>
    k95 y2 r6 z7 σ5
  else
    Cl (f_X12_firstOf y3 σ) fun r2 σ1 =>
    some (r2, σ1)
def f_X12_into_95 : Nat → Int32 → Int32 → Int32 → HS → Option (Int32 × HS)
  | 0 => fun _ _ _ _ => none
  | n + 1 => fun y2 y3 y4 σ => b_X12_into_95 (f_X12_into_95 n) y2 y3 y4 σ
def f_X12_into (x1 : Int32) (x2 : Int32) (σ : HS) : Option (Int32 × HS) :=
  Cl (f_X12_isPattern x1 σ) fun r2 σ1 =>
  if r2.toInt = 0 then
    some ((-1), σ1)
  else
    Cl (f_X12_keepsOf x1 σ1) fun r4 σ3 =>
    if r4.toInt < 0 then
      some ((-1), σ3)
    else
      if x2.toInt < (-1) then
        some ((-1), σ3)
      else
        Cl (f_X12_lands σ3) fun r6 σ5 =>
        Cl (f_X12_aimOf x1 σ5) fun r8 σ7 =>
        Cv (f_X12_fillsFar r8 σ7) fun σ9 =>
        Cl (f_X12_areTwoSoon σ9) fun r12 σ11 =>
        if r12.toInt = 0 then
          if 0 ≤ r6.toInt ∧ r6.toInt < 1024 then
            if (σ11.1 270 r6.toInt.toNat).toInt = 99 then
              f_X12_into_55 x2 σ11
            else
              if x2.toInt = (-1) then
                if 0 ≤ r6.toInt ∧ r6.toInt < 1024 then
                  some ((σ11.1 270 r6.toInt.toNat), σ11)
                else none
              else
                if 0 ≤ r6.toInt ∧ r6.toInt < 1024 then
                  if x2.toInt < (σ11.1 270 r6.toInt.toNat).toInt then
                    f_X12_into_95 5000 x2 r6 0 σ11
                  else
                    some ((-1), σ11)
                else none
          else none
        else
          f_X12_into_55 x2 σ11
def b_X12_hasRoom_23 (k23 : Int32 → HS → Option (Int32 × HS)) (y3 : Int32) (σ : HS) : Option (Int32 × HS) :=
  if y3.toInt < 60 then
    Cv (f_X12_beatGoes σ) fun σ1 =>
    if (σ1.1 236 52).toInt = 0 then
      Bd (y3 + 1) fun z3 =>
      k23 z3 σ1
    else
      some (0, σ1)
  else
    some (1, σ)
def f_X12_hasRoom_23 : Nat → Int32 → HS → Option (Int32 × HS)
  | 0 => fun _ _ => none
  | n + 1 => fun y3 σ => b_X12_hasRoom_23 (f_X12_hasRoom_23 n) y3 σ
def f_X12_hasRoom (x1 : Int32) (x2 : Int32) (σ : HS) : Option (Int32 × HS) :=
  Cv (f_X12_copiesStill σ) fun σ1 =>
  if 0 ≤ x1.toInt ∧ x1.toInt < 29 then
    Bd (hI σ1 267 x1.toInt.toNat 0) fun σ3 =>
    if 0 ≤ ((7 : Int32) + x1).toInt ∧ ((7 : Int32) + x1).toInt < 29 then
      Bd (hI σ3 267 ((7 : Int32) + x1).toInt.toNat x2) fun σ4 =>
      f_X12_hasRoom_23 5000 0 σ4
    else none
  else none
def b_X12_room_21 (k21 : Int32 → Int32 → HS → Option (Int32 × HS)) (y1 : Int32) (y2 : Int32) (σ : HS) : Option (Int32 × HS) :=
  if y2.toInt < 10 then
    Cl (f_X12_hasRoom y1 y2 σ) fun r2 σ1 =>
    if r2.toInt = 0 then
      Bd (y2 + 1) fun z3 =>
      k21 y1 z3 σ1
    else
      some (y2, σ1)
  else
    some ((-2), σ)
def f_X12_room_21 : Nat → Int32 → Int32 → HS → Option (Int32 × HS)
  | 0 => fun _ _ _ => none
  | n + 1 => fun y1 y2 σ => b_X12_room_21 (f_X12_room_21 n) y1 y2 σ
def f_X12_room (x1 : Int32) (σ : HS) : Option (Int32 × HS) :=
  Cl (f_X12_isThing x1 σ) fun r2 σ1 =>
  if r2.toInt = 0 then
    some ((-1), σ1)
  else
    if 0 ≤ x1.toInt ∧ x1.toInt < 29 then
      if (σ1.1 266 x1.toInt.toNat).toInt = 0 then
        some ((-1), σ1)
      else
        f_X12_room_21 5000 x1 0 σ1
    else none
def f_X12_handover_46 (k12 : Int32 → Int32 → HS → Option (Int32 × HS)) (y1 : Int32) (y2 : Int32) (σ : HS) : Option (Int32 × HS) :=
  Cl (f_X12_thingsSo 2 σ) fun r2 σ1 =>
  if (y1 &&& r2).toInt = 0 then
    Bd (y2 + 1) fun z3 =>
    k12 y1 z3 σ1
  else
    some ((-2), σ1)
def b_X12_handover_12 (k12 : Int32 → Int32 → HS → Option (Int32 × HS)) (y1 : Int32) (y2 : Int32) (σ : HS) : Option (Int32 × HS) :=
  if 60 < y2.toInt then
    some ((-2), σ)
  else
    if y1.toInt = 0 then
      some (y2, σ)
    else
      Cv (f_X12_beatGoes σ) fun σ1 =>
      if (σ1.1 236 51).toInt < 0 then
        f_X12_handover_46 k12 y1 y2 σ1
      else
        Bd (y1 &&& (((1 : Int32) <<< ((σ1.1 236 51) &&& 31)) ^^^ ((-1) : Int32))) fun z3 =>
        f_X12_handover_46 k12 z3 y2 σ1
def f_X12_handover_12 : Nat → Int32 → Int32 → HS → Option (Int32 × HS)
  | 0 => fun _ _ _ => none
  | n + 1 => fun y1 y2 σ => b_X12_handover_12 (f_X12_handover_12 n) y1 y2 σ
def f_X12_handover (σ : HS) : Option (Int32 × HS) :=
  Cv (f_X12_copiesStill σ) fun σ1 =>
  Cl (f_X12_thingsSo 0 σ1) fun r4 σ3 =>
  f_X12_handover_12 5000 r4 0 σ3
def b_X12_limit_19 (k19 : Int32 → Int32 → HS → Option (Int32 × HS)) (y1 : Int32) (y2 : Int32) (σ : HS) : Option (Int32 × HS) :=
  if 200 < y2.toInt then
    some ((-2), σ)
  else
    if (σ.1 267 22).toInt < y1.toInt then
      Cv (f_X12_beatGoes σ) fun σ1 =>
      Bd (y2 + 1) fun z3 =>
      k19 y1 z3 σ1
    else
      some (y2, σ)
def f_X12_limit_19 : Nat → Int32 → Int32 → HS → Option (Int32 × HS)
  | 0 => fun _ _ _ => none
  | n + 1 => fun y1 y2 σ => b_X12_limit_19 (f_X12_limit_19 n) y1 y2 σ
def f_X12_limit (x1 : Int32) (σ : HS) : Option (Int32 × HS) :=
  Cl (f_X12_in x1 0 999 σ) fun r2 σ1 =>
  if r2.toInt = 0 then
    some ((-1), σ1)
  else
    Cv (f_X12_copiesStill σ1) fun σ3 =>
    f_X12_limit_19 5000 x1 0 σ3
def f_X12_isSome (x1 : Int32) (σ : HS) : Option (Int32 × HS) :=
  Cl (f_X12_in x1 1 60 σ) fun r2 σ1 =>
  if 0 ≤ r2.toInt ∧ r2.toInt ≤ 1 then
  some (r2, σ1)
  else none
def f_X12_busiest_111 (k85 : Int32 → Int32 → Int32 → HS → Option (Int32 × HS)) (y2 : Int32) (y3 : Int32) (y4 : Int32) (σ : HS) : Option (Int32 × HS) :=
  Bd (y4 + 1) fun z1 =>
  k85 y2 y3 z1 σ
def b_X12_busiest_85 (k85 : Int32 → Int32 → Int32 → HS → Option (Int32 × HS)) (y2 : Int32) (y3 : Int32) (y4 : Int32) (σ : HS) : Option (Int32 × HS) :=
  if y4.toInt < 7 then
    if 0 ≤ y4.toInt ∧ y4.toInt < 7 then
      if 0 ≤ y3.toInt ∧ y3.toInt < 7 then
        if (σ.1 271 y3.toInt.toNat).toInt < (σ.1 271 y4.toInt.toNat).toInt then
          f_X12_busiest_111 k85 y2 y4 y4 σ
        else
          f_X12_busiest_111 k85 y2 y3 y4 σ
      else none
    else none
  else
    if 0 ≤ y3.toInt ∧ y3.toInt < 7 then
      if (σ.1 271 y3.toInt.toNat).toInt = 0 then
        some ((-2), σ)
      else
        if y2.toInt = 0 then
          some (y3, σ)
        else
          if 0 ≤ y3.toInt ∧ y3.toInt < 7 then
            some ((σ.1 271 y3.toInt.toNat), σ)
          else none
    else none
def f_X12_busiest_85 : Nat → Int32 → Int32 → Int32 → HS → Option (Int32 × HS)
  | 0 => fun _ _ _ _ => none
  | n + 1 => fun y2 y3 y4 σ => b_X12_busiest_85 (f_X12_busiest_85 n) y2 y3 y4 σ
def f_X12_busiest_74 (k45 : Int32 → Int32 → Int32 → HS → Option (Int32 × HS)) (y1 : Int32) (y2 : Int32) (y3 : Int32) (σ : HS) : Option (Int32 × HS) :=
  Bd (y3 + 1) fun z1 =>
  k45 y1 y2 z1 σ
def b_X12_busiest_45 (k45 : Int32 → Int32 → Int32 → HS → Option (Int32 × HS)) (y1 : Int32) (y2 : Int32) (y3 : Int32) (σ : HS) : Option (Int32 × HS) :=
  if y3.toInt < y1.toInt then
    Cv (f_X12_beatGoes σ) fun σ1 =>
    if (σ1.1 236 51).toInt < 0 then
      f_X12_busiest_74 k45 y1 y2 y3 σ1
    else
      if 0 ≤ (σ1.1 236 51).toInt ∧ (σ1.1 236 51).toInt < 7 then
        if 0 ≤ (σ1.1 236 51).toInt ∧ (σ1.1 236 51).toInt < 7 then
          Bd (hI σ1 271 (σ1.1 236 51).toInt.toNat ((σ1.1 271 (σ1.1 236 51).toInt.toNat) + (1 : Int32))) fun σ3 =>
          f_X12_busiest_74 k45 y1 y2 y3 σ3
        else none
      else none
  else
    f_X12_busiest_85 5000 y2 0 1 σ
def f_X12_busiest_45 : Nat → Int32 → Int32 → Int32 → HS → Option (Int32 × HS)
  | 0 => fun _ _ _ _ => none
  | n + 1 => fun y1 y2 y3 σ => b_X12_busiest_45 (f_X12_busiest_45 n) y1 y2 y3 σ
def b_X12_busiest_24 (k24 : Int32 → Int32 → Int32 → HS → Option (Int32 × HS)) (y1 : Int32) (y2 : Int32) (y3 : Int32) (σ : HS) : Option (Int32 × HS) :=
  if y3.toInt < 7 then
    if 0 ≤ y3.toInt ∧ y3.toInt < 7 then
      Bd (hI σ 271 y3.toInt.toNat 0) fun σ1 =>
      Bd (y3 + 1) fun z2 =>
      k24 y1 y2 z2 σ1
    else none
  else
    f_X12_busiest_45 5000 y1 y2 0 σ
def f_X12_busiest_24 : Nat → Int32 → Int32 → Int32 → HS → Option (Int32 × HS)
  | 0 => fun _ _ _ _ => none
  | n + 1 => fun y1 y2 y3 σ => b_X12_busiest_24 (f_X12_busiest_24 n) y1 y2 y3 σ
def f_X12_busiest (x1 : Int32) (x2 : Int32) (σ : HS) : Option (Int32 × HS) :=
  Cl (f_X12_isSome x1 σ) fun r2 σ1 =>
  if r2.toInt = 0 then
    some ((-1), σ1)
  else
    Cl (f_X12_in x2 0 1 σ1) fun r4 σ3 =>
    if r4.toInt = 0 then
      some ((-1), σ3)
    else
      Cv (f_X12_copiesStill σ3) fun σ5 =>
      f_X12_busiest_24 5000 x1 x2 0 σ5
def f_X12_load_53 (k17 : Int32 → Int32 → Int32 → HS → Option (Int32 × HS)) (y1 : Int32) (y2 : Int32) (y3 : Int32) (σ : HS) : Option (Int32 × HS) :=
  Bd (y3 + 1) fun z1 =>
  k17 y1 y2 z1 σ
def b_X12_load_17 (k17 : Int32 → Int32 → Int32 → HS → Option (Int32 × HS)) (y1 : Int32) (y2 : Int32) (y3 : Int32) (σ : HS) : Option (Int32 × HS) :=
  if y3.toInt < y1.toInt then
    Cv (f_X12_beatGoes σ) fun σ1 =>
    if (σ1.1 236 51).toInt < 0 then
      f_X12_load_53 k17 y1 y2 y3 σ1
    else
      if 0 ≤ (((7 : Int32) * (σ1.1 236 18)) + (σ1.1 236 51)).toInt ∧ (((7 : Int32) * (σ1.1 236 18)) + (σ1.1 236 51)).toInt < 14 then
        Bd (y2 + (σ1.1 246 (((7 : Int32) * (σ1.1 236 18)) + (σ1.1 236 51)).toInt.toNat)) fun z3 =>
        f_X12_load_53 k17 y1 z3 y3 σ1
      else none
  else
    some (y2, σ)
def f_X12_load_17 : Nat → Int32 → Int32 → Int32 → HS → Option (Int32 × HS)
  | 0 => fun _ _ _ _ => none
  | n + 1 => fun y1 y2 y3 σ => b_X12_load_17 (f_X12_load_17 n) y1 y2 y3 σ
def f_X12_load (x1 : Int32) (σ : HS) : Option (Int32 × HS) :=
  Cl (f_X12_isSome x1 σ) fun r2 σ1 =>
  if r2.toInt = 0 then
    some ((-1), σ1)
  else
    Cv (f_X12_copiesStill σ1) fun σ3 =>
    f_X12_load_17 5000 x1 0 0 σ3
def b_X12_gap_6 (k6 : Int32 → HS → Option (Int32 × HS)) (y1 : Int32) (σ : HS) : Option (Int32 × HS) :=
  if 60 < y1.toInt then
    some ((-2), σ)
  else
    Cv (f_X12_beatGoes σ) fun σ1 =>
    if (σ1.1 236 51).toInt < 0 then
      some (y1, σ1)
    else
      Bd (y1 + 1) fun z3 =>
      k6 z3 σ1
def f_X12_gap_6 : Nat → Int32 → HS → Option (Int32 × HS)
  | 0 => fun _ _ => none
  | n + 1 => fun y1 σ => b_X12_gap_6 (f_X12_gap_6 n) y1 σ
def f_X12_gap (σ : HS) : Option (Int32 × HS) :=
  Cv (f_X12_copiesStill σ) fun σ1 =>
  f_X12_gap_6 5000 0 σ1
def f_X12_order_68 (k20 : Int32 → Int32 → Int32 → HS → Option (Int32 × HS)) (y1 : Int32) (y2 : Int32) (y3 : Int32) (σ : HS) : Option (Int32 × HS) :=
  Bd (y3 + 1) fun z1 =>
  k20 y1 y2 z1 σ
def b_X12_order_20 (k20 : Int32 → Int32 → Int32 → HS → Option (Int32 × HS)) (y1 : Int32) (y2 : Int32) (y3 : Int32) (σ : HS) : Option (Int32 × HS) :=
  if y3.toInt < 70 then
    Cl (f_X12_isThing (y3 - y3 / (7 : Int32) * (7 : Int32)) σ) fun r2 σ1 =>
    if r2.toInt = 0 then
      f_X12_order_68 k20 y1 y2 y3 σ1
    else
      Cl (f_X12_doesLand (y3 - y3 / (7 : Int32) * (7 : Int32)) (y3 / (7 : Int32)) σ1) fun r4 σ3 =>
      if r4.toInt = 0 then
        f_X12_order_68 k20 y1 y2 y3 σ3
      else
        if y2.toInt = y1.toInt then
          some ((y3 - y3 / (7 : Int32) * (7 : Int32)), σ3)
        else
          Bd (y2 + 1) fun z5 =>
          f_X12_order_68 k20 y1 z5 y3 σ3
  else
    some ((-1), σ)
def f_X12_order_20 : Nat → Int32 → Int32 → Int32 → HS → Option (Int32 × HS)
  | 0 => fun _ _ _ _ => none
  | n + 1 => fun y1 y2 y3 σ => b_X12_order_20 (f_X12_order_20 n) y1 y2 y3 σ
def f_X12_order (x1 : Int32) (σ : HS) : Option (Int32 × HS) :=
  Cl (f_X12_in x1 0 6 σ) fun r2 σ1 =>
  if r2.toInt = 0 then
    some ((-1), σ1)
  else
    Cv (f_X12_copies σ1) fun σ3 =>
    f_X12_order_20 5000 x1 0 0 σ3
def f_X12_ways_155 (k80 : Int32 → Int32 → Int32 → Int32 → Int32 → Int32 → Int32 → HS → Option (Int32 × HS)) (y1 : Int32) (y2 : Int32) (y3 : Int32) (y4 : Int32) (y5 : Int32) (y6 : Int32) (y7 : Int32) (σ : HS) : Option (Int32 × HS) :=
  Bd (y7 + 1) fun z1 =>
  k80 y1 y2 y3 y4 y5 y6 z1 σ
def b_X12_ways_96 (k80 : Int32 → Int32 → Int32 → Int32 → Int32 → Int32 → Int32 → HS → Option (Int32 × HS)) (k96 : Int32 → Int32 → Int32 → Int32 → Int32 → Int32 → Int32 → Int32 → Int32 → HS → Option (Int32 × HS)) (y1 : Int32) (y2 : Int32) (y3 : Int32) (y4 : Int32) (y5 : Int32) (y6 : Int32) (y7 : Int32) (y8 : Int32) (y9 : Int32) (σ : HS) : Option (Int32 × HS) :=
  if y9.toInt < 0 then
    Cl (f_X12_keeps σ) fun r2 σ1 =>
    if r2.toInt = y3.toInt then
      if y4.toInt < 0 then
        Bd (y6 + 1) fun z3 =>
        f_X12_ways_155 k80 y1 y2 y3 y4 y5 z3 y7 σ1
      else
        if 0 ≤ y4.toInt ∧ y4.toInt < 16 then
          some ((σ1.1 269 y4.toInt.toNat), σ1)
        else none
    else
      f_X12_ways_155 k80 y1 y2 y3 y4 y5 y6 y7 σ1
  else
    if (y2 + (1 : Int32)).toInt = 0 then none else
    if 0 ≤ y9.toInt ∧ y9.toInt < 16 then
      Bd (hI σ 269 y9.toInt.toNat (y8 - y8 / (y2 + (1 : Int32)) * (y2 + (1 : Int32)))) fun σ4 =>
      if (y2 + (1 : Int32)).toInt = 0 then none else
      Bd (y8 / (y2 + (1 : Int32))) fun z5 =>
      Bd (y9 + (-1)) fun z6 =>
      k96 y1 y2 y3 y4 y5 y6 y7 z5 z6 σ4
    else none
def f_X12_ways_96 (k80 : Int32 → Int32 → Int32 → Int32 → Int32 → Int32 → Int32 → HS → Option (Int32 × HS)) : Nat → Int32 → Int32 → Int32 → Int32 → Int32 → Int32 → Int32 → Int32 → Int32 → HS → Option (Int32 × HS)
  | 0 => fun _ _ _ _ _ _ _ _ _ _ => none
  | n + 1 => fun y1 y2 y3 y4 y5 y6 y7 y8 y9 σ => b_X12_ways_96 k80 (f_X12_ways_96 k80 n) y1 y2 y3 y4 y5 y6 y7 y8 y9 σ
def b_X12_ways_80 (k80 : Int32 → Int32 → Int32 → Int32 → Int32 → Int32 → Int32 → HS → Option (Int32 × HS)) (y1 : Int32) (y2 : Int32) (y3 : Int32) (y4 : Int32) (y5 : Int32) (y6 : Int32) (y7 : Int32) (σ : HS) : Option (Int32 × HS) :=
  if y7.toInt < y5.toInt then
    Bd (y1 - (1 : Int32)) fun z1 =>
    f_X12_ways_96 k80 5000 y1 y2 y3 y4 y5 y6 y7 y7 z1 σ
  else
    if y4.toInt = (-1) then
      some (y6, σ)
    else
      some ((-2), σ)
def f_X12_ways_80 : Nat → Int32 → Int32 → Int32 → Int32 → Int32 → Int32 → Int32 → HS → Option (Int32 × HS)
  | 0 => fun _ _ _ _ _ _ _ _ => none
  | n + 1 => fun y1 y2 y3 y4 y5 y6 y7 σ => b_X12_ways_80 (f_X12_ways_80 n) y1 y2 y3 y4 y5 y6 y7 σ
def b_X12_ways_49 (k49 : Int32 → Int32 → Int32 → Int32 → Int32 → Int32 → HS → Option (Int32 × HS)) (y1 : Int32) (y2 : Int32) (y3 : Int32) (y4 : Int32) (y5 : Int32) (y6 : Int32) (σ : HS) : Option (Int32 × HS) :=
  if y6.toInt < y1.toInt then
    Bd (y5 * (y2 + (1 : Int32))) fun z2 =>
    Bd (y6 + 1) fun z3 =>
    k49 y1 y2 y3 y4 z2 z3 σ
  else
    Bd (hI σ 236 57 y1) fun σ1 =>
    f_X12_ways_80 40000 y1 y2 y3 y4 y5 0 0 σ1
def f_X12_ways_49 : Nat → Int32 → Int32 → Int32 → Int32 → Int32 → Int32 → HS → Option (Int32 × HS)
  | 0 => fun _ _ _ _ _ _ _ => none
  | n + 1 => fun y1 y2 y3 y4 y5 y6 σ => b_X12_ways_49 (f_X12_ways_49 n) y1 y2 y3 y4 y5 y6 σ
def f_X12_ways (x1 : Int32) (x2 : Int32) (x3 : Int32) (x4 : Int32) (σ : HS) : Option (Int32 × HS) :=
  Cl (f_X12_in x1 1 5 σ) fun r2 σ1 =>
  if r2.toInt = 0 then
    some ((-1), σ1)
  else
    Cl (f_X12_in x2 1 7 σ1) fun r4 σ3 =>
    if r4.toInt = 0 then
      some ((-1), σ3)
    else
      Cl (f_X12_in x3 0 7 σ3) fun r6 σ5 =>
      if r6.toInt = 0 then
        some ((-1), σ5)
      else
        Cl (f_X12_in x4 (-1) (x1 - (1 : Int32)) σ5) fun r8 σ7 =>
        if r8.toInt = 0 then
          some ((-1), σ7)
        else
          f_X12_ways_49 5000 x1 x2 x3 x4 1 0 σ7
def f_X12_light_108 (k28 : Int32 → Int32 → Int32 → Int32 → Int32 → HS → Option (Int32 × HS)) (y1 : Int32) (y2 : Int32) (y3 : Int32) (y4 : Int32) (y5 : Int32) (σ : HS) : Option (Int32 × HS) :=
  Bd (y5 + 1) fun z1 =>
  k28 y1 y2 y3 y4 z1 σ
def f_X12_light_96 (k28 : Int32 → Int32 → Int32 → Int32 → Int32 → HS → Option (Int32 × HS)) (y1 : Int32) (y2 : Int32) (y5 : Int32) (σ : HS) : Option (Int32 × HS) :=
  Bd (σ.1 267 22) fun z1 =>
  f_X12_light_108 k28 y1 y2 y5 z1 y5 σ
def b_X12_light_28 (k28 : Int32 → Int32 → Int32 → Int32 → Int32 → HS → Option (Int32 × HS)) (y1 : Int32) (y2 : Int32) (y3 : Int32) (y4 : Int32) (y5 : Int32) (σ : HS) : Option (Int32 × HS) :=
  if 0 ≤ (σ.1 236 18).toInt ∧ (σ.1 236 18).toInt < 2 then
    if y5.toInt < (σ.1 249 (σ.1 236 18).toInt.toNat).toInt then
      Cv (f_X12_copiesStill σ) fun σ1 =>
      Cl (f_X12_keepsOf y5 σ1) fun r4 σ3 =>
      Cl (f_X12_thingsSo 0 σ3) fun r6 σ5 =>
      Cl (f_X12_bits r6 σ5) fun r8 σ7 =>
      if r4.toInt = r8.toInt then
        Cv (f_X12_uses y5 σ7) fun σ9 =>
        Cv (f_X12_goes y1 σ9) fun σ11 =>
        if y3.toInt < 0 then
          f_X12_light_96 k28 y1 y2 y5 σ11
        else
          if (σ11.1 267 22).toInt < y4.toInt then
            f_X12_light_96 k28 y1 y2 y5 σ11
          else
            f_X12_light_108 k28 y1 y2 y3 y4 y5 σ11
      else
        f_X12_light_108 k28 y1 y2 y3 y4 y5 σ7
    else
      if y2.toInt = 0 then
        some (y3, σ)
      else
        some (y4, σ)
  else none
def f_X12_light_28 : Nat → Int32 → Int32 → Int32 → Int32 → Int32 → HS → Option (Int32 × HS)
  | 0 => fun _ _ _ _ _ _ => none
  | n + 1 => fun y1 y2 y3 y4 y5 σ => b_X12_light_28 (f_X12_light_28 n) y1 y2 y3 y4 y5 σ
def f_X12_light (x1 : Int32) (x2 : Int32) (σ : HS) : Option (Int32 × HS) :=
  Cl (f_X12_isSome x1 σ) fun r2 σ1 =>
  if r2.toInt = 0 then
    some ((-1), σ1)
  else
    Cl (f_X12_in x2 0 1 σ1) fun r4 σ3 =>
    if r4.toInt = 0 then
      some ((-1), σ3)
    else
      f_X12_light_28 5000 x1 x2 (-2) (-2) 0 σ3
def b_X12_rule_19 (k19 : Int32 → Int32 → Int32 → HS → Option (Int32 × HS)) (y1 : Int32) (y2 : Int32) (y3 : Int32) (σ : HS) : Option (Int32 × HS) :=
  if y3.toInt < y1.toInt then
    Cv (f_X12_beatGoes σ) fun σ1 =>
    Bd (y2 + (σ1.1 236 53)) fun z3 =>
    Bd (y3 + 1) fun z4 =>
    k19 y1 z3 z4 σ1
  else
    some (y2, σ)
def f_X12_rule_19 : Nat → Int32 → Int32 → Int32 → HS → Option (Int32 × HS)
  | 0 => fun _ _ _ _ => none
  | n + 1 => fun y1 y2 y3 σ => b_X12_rule_19 (f_X12_rule_19 n) y1 y2 y3 σ
def f_X12_rule (x1 : Int32) (σ : HS) : Option (Int32 × HS) :=
  Cl (f_X12_isSome x1 σ) fun r2 σ1 =>
  if r2.toInt = 0 then
    some ((-100000), σ1)
  else
    Cv (f_X12_copiesStill σ1) fun σ3 =>
    f_X12_rule_19 5000 x1 0 0 σ3
def b_X12_down_6 (k6 : Int32 → HS → Option (Int32 × HS)) (y1 : Int32) (σ : HS) : Option (Int32 × HS) :=
  if 200 < y1.toInt then
    some ((-2), σ)
  else
    Cl (f_X12_thingsSo 0 σ) fun r2 σ1 =>
    if r2.toInt = 0 then
      some (y1, σ1)
    else
      Cv (f_X12_beatGoes σ1) fun σ3 =>
      Bd (y1 + 1) fun z5 =>
      k6 z5 σ3
def f_X12_down_6 : Nat → Int32 → HS → Option (Int32 × HS)
  | 0 => fun _ _ => none
  | n + 1 => fun y1 σ => b_X12_down_6 (f_X12_down_6 n) y1 σ
def f_X12_down (σ : HS) : Option (Int32 × HS) :=
  Cv (f_X12_copiesStill σ) fun σ1 =>
  f_X12_down_6 5000 0 σ1
def f_X12_then (x1 : Int32) (x2 : Int32) (σ : HS) : Option (Int32 × HS) :=
  Cl (f_X12_isLong x1 σ) fun r2 σ1 =>
  if r2.toInt = 0 then
    some ((-1), σ1)
  else
    Cl (f_X12_in x2 0 3 σ1) fun r4 σ3 =>
    if r4.toInt = 0 then
      some ((-1), σ3)
    else
      Cv (f_X12_copies σ3) fun σ5 =>
      Cv (f_X12_goes x1 σ5) fun σ7 =>
      if x2.toInt = 0 then
        some ((σ7.1 267 22), σ7)
      else
        if x2.toInt = 1 then
          Cl (f_X12_thingsSo 0 σ7) fun r10 σ9 =>
          Cl (f_X12_bits r10 σ9) fun r12 σ11 =>
          some (r12, σ11)
        else
          if x2.toInt = 2 then
            some (((σ7.1 267 23) - (σ7.1 266 23)), σ7)
          else
            some (((σ7.1 267 25) - (σ7.1 266 25)), σ7)
def f_X12_year_70 (k24 : Int32 → Int32 → Int32 → Int32 → HS → Option (Int32 × HS)) (y1 : Int32) (y2 : Int32) (y3 : Int32) (y4 : Int32) (σ : HS) : Option (Int32 × HS) :=
  Bd (y4 + 1) fun z1 =>
  k24 y1 y2 y3 z1 σ
def b_X12_year_24 (k24 : Int32 → Int32 → Int32 → Int32 → HS → Option (Int32 × HS)) (y1 : Int32) (y2 : Int32) (y3 : Int32) (y4 : Int32) (σ : HS) : Option (Int32 × HS) :=
  if y4.toInt < y2.toInt then
    Cv (f_X12_copies σ) fun σ1 =>
    Bd (hI σ1 236 49 ((σ1.1 236 49) + y4)) fun σ3 =>
    Cv (f_X12_goes y1 σ3) fun σ4 =>
    if (σ4.1 267 23).toInt = (σ4.1 266 23).toInt then
      Bd (y3 + 1) fun z6 =>
      f_X12_year_70 k24 y1 y2 z6 y4 σ4
    else
      f_X12_year_70 k24 y1 y2 y3 y4 σ4
  else
    some (y3, σ)
def f_X12_year_24 : Nat → Int32 → Int32 → Int32 → Int32 → HS → Option (Int32 × HS)
  | 0 => fun _ _ _ _ _ => none
  | n + 1 => fun y1 y2 y3 y4 σ => b_X12_year_24 (f_X12_year_24 n) y1 y2 y3 y4 σ
def f_X12_year (x1 : Int32) (x2 : Int32) (σ : HS) : Option (Int32 × HS) :=
  Cl (f_X12_isLong x1 σ) fun r2 σ1 =>
  if r2.toInt = 0 then
    some ((-1), σ1)
  else
    Cl (f_X12_in x2 1 20 σ1) fun r4 σ3 =>
    if r4.toInt = 0 then
      some ((-1), σ3)
    else
      f_X12_year_24 5000 x1 x2 0 0 σ3
def f_X12_tell (x1 : Int32) (x2 : Int32) (σ : HS) : Option (Int32 × HS) :=
  if (σ.1 236 60).toInt = 20 then
    some ((-1), σ)
  else
    Cl (f_X12_in x1 0 40 σ) fun r2 σ1 =>
    if r2.toInt = 0 then
      some ((-1), σ1)
    else
      if 0 ≤ (σ1.1 236 60).toInt ∧ (σ1.1 236 60).toInt < 20 then
        Bd (hI σ1 272 (σ1.1 236 60).toInt.toNat x1) fun σ3 =>
        if 0 ≤ x2.toInt ∧ x2.toInt ≤ 1 then
          if 0 ≤ (σ3.1 236 60).toInt ∧ (σ3.1 236 60).toInt < 20 then
            Bd (hI σ3 273 (σ3.1 236 60).toInt.toNat x2) fun σ5 =>
            Bd (hI σ5 236 60 ((σ5.1 236 60) + (1 : Int32))) fun σ6 =>
            some (((σ6.1 236 60) - (1 : Int32)), σ6)
          else none
        else none
      else none
def f_X12_forget (σ : HS) : Option (Int32 × HS) :=
  Bd (σ.1 236 60) fun z1 =>
  Bd (hI σ 236 60 0) fun σ2 =>
  some (z1, σ2)
def f_X12_glitterBits_94 (k40 : Int32 → Int32 → Int32 → HS → Option (Int32 × HS)) (k48 : Int32 → Int32 → Int32 → Int32 → HS → Option (Int32 × HS)) (y1 : Int32) (y2 : Int32) (y3 : Int32) (y4 : Int32) (σ : HS) : Option (Int32 × HS) :=
  Bd (y4 + 1) fun z1 =>
  k48 y1 y2 y3 z1 σ
def f_X12_glitterBits_76 (k40 : Int32 → Int32 → Int32 → HS → Option (Int32 × HS)) (k48 : Int32 → Int32 → Int32 → Int32 → HS → Option (Int32 × HS)) (y1 : Int32) (y2 : Int32) (y3 : Int32) (y4 : Int32) (v0 : Int32) (σ : HS) : Option (Int32 × HS) :=
  if 0 ≤ y3.toInt ∧ y3.toInt < 20 then
    if v0.toInt = (σ.1 273 y3.toInt.toNat).toInt then
      f_X12_glitterBits_94 k40 k48 y1 y2 y3 y4 σ
    else
      Bd (y2 &&& (((1 : Int32) <<< (y4 &&& 31)) ^^^ ((-1) : Int32))) fun z1 =>
      f_X12_glitterBits_94 k40 k48 y1 z1 y3 y4 σ
  else none
def b_X12_glitterBits_48 (k40 : Int32 → Int32 → Int32 → HS → Option (Int32 × HS)) (k48 : Int32 → Int32 → Int32 → Int32 → HS → Option (Int32 × HS)) (y1 : Int32) (y2 : Int32) (y3 : Int32) (y4 : Int32) (σ : HS) : Option (Int32 × HS) :=
  if y4.toInt < 7 then
    if 0 ≤ y3.toInt ∧ y3.toInt < 20 then
      if 0 ≤ (σ.1 272 y3.toInt.toNat).toInt ∧ (σ.1 272 y3.toInt.toNat).toInt < 41 then
        if (σ.1 274 (σ.1 272 y3.toInt.toNat).toInt.toNat).toInt = y4.toInt then
          f_X12_glitterBits_76 k40 k48 y1 y2 y3 y4 1 σ
        else
          f_X12_glitterBits_76 k40 k48 y1 y2 y3 y4 0 σ
      else none
    else none
  else
    Bd (y3 + 1) fun z1 =>
    k40 y1 y2 z1 σ
def f_X12_glitterBits_48 (k40 : Int32 → Int32 → Int32 → HS → Option (Int32 × HS)) : Nat → Int32 → Int32 → Int32 → Int32 → HS → Option (Int32 × HS)
  | 0 => fun _ _ _ _ _ => none
  | n + 1 => fun y1 y2 y3 y4 σ => b_X12_glitterBits_48 k40 (f_X12_glitterBits_48 k40 n) y1 y2 y3 y4 σ
def b_X12_glitterBits_40 (k40 : Int32 → Int32 → Int32 → HS → Option (Int32 × HS)) (y1 : Int32) (y2 : Int32) (y3 : Int32) (σ : HS) : Option (Int32 × HS) :=
  if y3.toInt < y1.toInt then
    f_X12_glitterBits_48 k40 5000 y1 y2 y3 0 σ
  else
    some (y2, σ)
def f_X12_glitterBits_40 : Nat → Int32 → Int32 → Int32 → HS → Option (Int32 × HS)
  | 0 => fun _ _ _ _ => none
  | n + 1 => fun y1 y2 y3 σ => b_X12_glitterBits_40 (f_X12_glitterBits_40 n) y1 y2 y3 σ
def b_X12_glitterBits_12 (k12 : Int32 → Int32 → Int32 → HS → Option (Int32 × HS)) (y1 : Int32) (y2 : Int32) (y3 : Int32) (σ : HS) : Option (Int32 × HS) :=
  if 40 < y3.toInt then
    f_X12_glitterBits_40 5000 y1 y2 0 σ
  else
    Cv (f_X12_beatGoes σ) fun σ1 =>
    if 0 ≤ y3.toInt ∧ y3.toInt < 41 then
      Bd (hI σ1 274 y3.toInt.toNat (σ1.1 236 51)) fun σ3 =>
      Bd (y3 + 1) fun z4 =>
      k12 y1 y2 z4 σ3
    else none
def f_X12_glitterBits_12 : Nat → Int32 → Int32 → Int32 → HS → Option (Int32 × HS)
  | 0 => fun _ _ _ _ => none
  | n + 1 => fun y1 y2 y3 σ => b_X12_glitterBits_12 (f_X12_glitterBits_12 n) y1 y2 y3 σ
def f_X12_glitterBits (x1 : Int32) (σ : HS) : Option (Int32 × HS) :=
  Cv (f_X12_copiesStill σ) fun σ1 =>
  Cl (f_X12_thingsSo 0 σ1) fun r4 σ3 =>
  f_X12_glitterBits_12 5000 x1 r4 0 σ3
def f_X12_glitters (x1 : Int32) (x2 : Int32) (σ : HS) : Option (Int32 × HS) :=
  Cl (f_X12_in x1 0 (σ.1 236 60) σ) fun r2 σ1 =>
  if r2.toInt = 0 then
    some ((-1), σ1)
  else
    Cl (f_X12_in x2 0 1 σ1) fun r4 σ3 =>
    if r4.toInt = 0 then
      some ((-1), σ3)
    else
      Cl (f_X12_glitterBits x1 σ3) fun r6 σ5 =>
      if x2.toInt = 0 then
        Cl (f_X12_bits r6 σ5) fun r8 σ7 =>
        some (r8, σ7)
      else
        some (r6, σ5)
def f_X12_watch_121 (k35 : Int32 → Int32 → Int32 → Int32 → Int32 → HS → Option (Int32 × HS)) (y2 : Int32) (y3 : Int32) (y4 : Int32) (y5 : Int32) (y6 : Int32) (σ : HS) : Option (Int32 × HS) :=
  Bd (y6 + 1) fun z1 =>
  k35 y2 y3 y4 y5 z1 σ
def f_X12_watch_113 (k35 : Int32 → Int32 → Int32 → Int32 → Int32 → HS → Option (Int32 × HS)) (y2 : Int32) (y3 : Int32) (y6 : Int32) (y8 : Int32) (σ : HS) : Option (Int32 × HS) :=
  f_X12_watch_121 k35 y2 y3 y6 y8 y6 σ
def f_X12_watch_96 (k35 : Int32 → Int32 → Int32 → Int32 → Int32 → HS → Option (Int32 × HS)) (y2 : Int32) (y3 : Int32) (y4 : Int32) (y5 : Int32) (y6 : Int32) (v0 : Int32) (σ : HS) : Option (Int32 × HS) :=
  if y4.toInt < 0 then
    f_X12_watch_113 k35 y2 y3 y6 v0 σ
  else
    if v0.toInt < y5.toInt then
      f_X12_watch_113 k35 y2 y3 y6 v0 σ
    else
      f_X12_watch_121 k35 y2 y3 y4 y5 y6 σ
def f_X12_watch_76 (k35 : Int32 → Int32 → Int32 → Int32 → Int32 → HS → Option (Int32 × HS)) (y2 : Int32) (y3 : Int32) (y4 : Int32) (y5 : Int32) (y6 : Int32) (v0 : Int32) (σ : HS) : Option (Int32 × HS) :=
  if (y3 - v0).toInt < v0.toInt then
    f_X12_watch_96 k35 y2 y3 y4 y5 y6 v0 σ
  else
    f_X12_watch_96 k35 y2 y3 y4 y5 y6 (y3 - v0) σ
def f_X12_watch_75 (k35 : Int32 → Int32 → Int32 → Int32 → Int32 → HS → Option (Int32 × HS)) (y2 : Int32) (y3 : Int32) (y4 : Int32) (y5 : Int32) (y6 : Int32) (σ : HS) : Option (Int32 × HS) :=
  f_X12_watch_76 k35 y2 y3 y4 y5 y6 0 σ
def b_X12_watch_35 (k35 : Int32 → Int32 → Int32 → Int32 → Int32 → HS → Option (Int32 × HS)) (y2 : Int32) (y3 : Int32) (y4 : Int32) (y5 : Int32) (y6 : Int32) (σ : HS) : Option (Int32 × HS) :=
  if 40 < y6.toInt then
    some (y4, σ)
  else
    if 0 < y3.toInt then
      if 0 ≤ y6.toInt ∧ y6.toInt < 41 then
        if (σ.1 274 y6.toInt.toNat).toInt < 0 then
          f_X12_watch_75 k35 y2 y3 y4 y5 y6 σ
        else
          if 0 ≤ y6.toInt ∧ y6.toInt < 41 then
            if ((y2 >>> ((σ.1 274 y6.toInt.toNat) &&& 31)) &&& (1 : Int32)).toInt = 1 then
              f_X12_watch_76 k35 y2 y3 y4 y5 y6 1 σ
            else
              f_X12_watch_75 k35 y2 y3 y4 y5 y6 σ
          else none
      else none
    else
      some (y4, σ)
def f_X12_watch_35 : Nat → Int32 → Int32 → Int32 → Int32 → Int32 → HS → Option (Int32 × HS)
  | 0 => fun _ _ _ _ _ _ => none
  | n + 1 => fun y2 y3 y4 y5 y6 σ => b_X12_watch_35 (f_X12_watch_35 n) y2 y3 y4 y5 y6 σ
def f_X12_watch (x1 : Int32) (σ : HS) : Option (Int32 × HS) :=
  Cl (f_X12_in x1 0 (σ.1 236 60) σ) fun r2 σ1 =>
  if r2.toInt = 0 then
    some ((-1), σ1)
  else
    Cl (f_X12_glitterBits x1 σ1) fun r4 σ3 =>
    Cl (f_X12_bits r4 σ3) fun r6 σ5 =>
    f_X12_watch_35 5000 r4 r6 (-2) 0 0 σ5
def b_X12_hold_20 (k20 : Int32 → Int32 → HS → Option (Int32 × HS)) (y1 : Int32) (y2 : Int32) (σ : HS) : Option (Int32 × HS) :=
  if y2.toInt < 29 then
    if 0 ≤ y2.toInt ∧ y2.toInt < 29 then
      if 0 ≤ (((29 : Int32) * y1) + y2).toInt ∧ (((29 : Int32) * y1) + y2).toInt < 87 then
        Bd (hI σ 276 (((29 : Int32) * y1) + y2).toInt.toNat (σ.1 266 y2.toInt.toNat)) fun σ1 =>
        Bd (y2 + 1) fun z2 =>
        k20 y1 z2 σ1
      else none
    else none
  else
    some (1, σ)
def f_X12_hold_20 : Nat → Int32 → Int32 → HS → Option (Int32 × HS)
  | 0 => fun _ _ _ => none
  | n + 1 => fun y1 y2 σ => b_X12_hold_20 (f_X12_hold_20 n) y1 y2 σ
def f_X12_hold (x1 : Int32) (σ : HS) : Option (Int32 × HS) :=
  Cl (f_X12_in x1 0 2 σ) fun r2 σ1 =>
  if r2.toInt = 0 then
    some (0, σ1)
  else
    if 0 ≤ x1.toInt ∧ x1.toInt < 3 then
      Bd (hI σ1 275 x1.toInt.toNat 1) fun σ3 =>
      f_X12_hold_20 5000 x1 0 σ3
    else none
def b_X12_restore_22 (k22 : Int32 → Int32 → HS → Option (Int32 × HS)) (y1 : Int32) (y2 : Int32) (σ : HS) : Option (Int32 × HS) :=
  if y2.toInt < 29 then
    if 0 ≤ (((29 : Int32) * y1) + y2).toInt ∧ (((29 : Int32) * y1) + y2).toInt < 87 then
      if 0 ≤ y2.toInt ∧ y2.toInt < 29 then
        Bd (hI σ 266 y2.toInt.toNat (σ.1 276 (((29 : Int32) * y1) + y2).toInt.toNat)) fun σ2 =>
        Bd (y2 + 1) fun z3 =>
        k22 y1 z3 σ2
      else none
    else none
  else
    Bd (hI σ 236 54 0) fun σ1 =>
    some (1, σ1)
def f_X12_restore_22 : Nat → Int32 → Int32 → HS → Option (Int32 × HS)
  | 0 => fun _ _ _ => none
  | n + 1 => fun y1 y2 σ => b_X12_restore_22 (f_X12_restore_22 n) y1 y2 σ
def f_X12_restore (x1 : Int32) (σ : HS) : Option (Int32 × HS) :=
  Cl (f_X12_in x1 0 2 σ) fun r2 σ1 =>
  if r2.toInt = 0 then
    some (0, σ1)
  else
    if 0 ≤ x1.toInt ∧ x1.toInt < 3 then
      if (σ1.1 275 x1.toInt.toNat).toInt = 0 then
        some (0, σ1)
      else
        f_X12_restore_22 5000 x1 0 σ1
    else none
def f_X12_weightsOf_43 (k4 : Int32 → Int32 → Int32 → HS → Option (Int32 × HS)) (y1 : Int32) (y2 : Int32) (y3 : Int32) (σ : HS) : Option (Int32 × HS) :=
  Bd (y3 + 1) fun z1 =>
  k4 y1 y2 z1 σ
def b_X12_weightsOf_4 (k4 : Int32 → Int32 → Int32 → HS → Option (Int32 × HS)) (y1 : Int32) (y2 : Int32) (y3 : Int32) (σ : HS) : Option (Int32 × HS) :=
  if 0 ≤ (σ.1 236 18).toInt ∧ (σ.1 236 18).toInt < 2 then
    if y3.toInt < (σ.1 245 (σ.1 236 18).toInt.toNat).toInt then
      if ((y1 >>> (y3 &&& 31)) &&& (1 : Int32)).toInt = 1 then
        if 0 ≤ (((7 : Int32) * (σ.1 236 18)) + y3).toInt ∧ (((7 : Int32) * (σ.1 236 18)) + y3).toInt < 14 then
          Bd (y2 + (σ.1 246 (((7 : Int32) * (σ.1 236 18)) + y3).toInt.toNat)) fun z1 =>
          f_X12_weightsOf_43 k4 y1 z1 y3 σ
        else none
      else
        f_X12_weightsOf_43 k4 y1 y2 y3 σ
    else
      some (y2, σ)
  else none
def f_X12_weightsOf_4 : Nat → Int32 → Int32 → Int32 → HS → Option (Int32 × HS)
  | 0 => fun _ _ _ _ => none
  | n + 1 => fun y1 y2 y3 σ => b_X12_weightsOf_4 (f_X12_weightsOf_4 n) y1 y2 y3 σ
def f_X12_weightsOf (x1 : Int32) (σ : HS) : Option (Int32 × HS) :=
  f_X12_weightsOf_4 5000 x1 0 0 σ
def f_X12_count_221 (v0 : Int32) (v1 : Int32) (σ : HS) : Option (Int32 × HS) :=
  some ((v1 + v0), σ)
def f_X12_count_206 (v0 : Int32) (v1 : Int32) (σ : HS) : Option (Int32 × HS) :=
  if (σ.1 275 2).toInt = 0 then
    f_X12_count_221 0 (v1 + v0) σ
  else
    f_X12_count_221 1 (v1 + v0) σ
def f_X12_count_192 (v0 : Int32) (σ : HS) : Option (Int32 × HS) :=
  if (σ.1 275 1).toInt = 0 then
    f_X12_count_206 0 v0 σ
  else
    f_X12_count_206 1 v0 σ
def f_X12_count (x1 : Int32) (σ : HS) : Option (Int32 × HS) :=
  Cv (f_X12_copies σ) fun σ1 =>
  if x1.toInt = 0 then
    if 0 ≤ (σ1.1 236 18).toInt ∧ (σ1.1 236 18).toInt < 2 then
      some ((σ1.1 245 (σ1.1 236 18).toInt.toNat), σ1)
    else none
  else
    if x1.toInt = 1 then
      if 0 ≤ (σ1.1 236 18).toInt ∧ (σ1.1 236 18).toInt < 2 then
        some ((σ1.1 249 (σ1.1 236 18).toInt.toNat), σ1)
      else none
    else
      if x1.toInt = 2 then
        some ((σ1.1 267 21), σ1)
      else
        if x1.toInt = 3 then
          some ((σ1.1 267 22), σ1)
        else
          if x1.toInt = 4 then
            Cl (f_X12_thingsSo 0 σ1) fun r4 σ3 =>
            some (r4, σ3)
          else
            if x1.toInt = 5 then
              Cl (f_X12_thingsSo 2 σ1) fun r6 σ5 =>
              some (r6, σ5)
            else
              if x1.toInt = 6 then
                if 0 ≤ ((17 : Int32) + x1).toInt ∧ ((17 : Int32) + x1).toInt < 29 then
                  some ((σ1.1 267 ((17 : Int32) + x1).toInt.toNat), σ1)
                else none
              else
                if x1.toInt = 7 then
                  if 0 ≤ ((17 : Int32) + x1).toInt ∧ ((17 : Int32) + x1).toInt < 29 then
                    some ((σ1.1 267 ((17 : Int32) + x1).toInt.toNat), σ1)
                  else none
                else
                  if x1.toInt = 8 then
                    if 0 ≤ ((17 : Int32) + x1).toInt ∧ ((17 : Int32) + x1).toInt < 29 then
                      some ((σ1.1 267 ((17 : Int32) + x1).toInt.toNat), σ1)
                    else none
                  else
                    if x1.toInt = 9 then
                      some ((σ1.1 267 26), σ1)
                    else
                      if x1.toInt = 10 then
                        Cl (f_X12_heightNow σ1) fun r8 σ7 =>
                        some (r8, σ7)
                      else
                        if x1.toInt = 11 then
                          some ((σ1.1 236 2), σ1)
                        else
                          if x1.toInt = 12 then
                            some ((σ1.1 236 54), σ1)
                          else
                            if x1.toInt = 13 then
                              some ((σ1.1 236 60), σ1)
                            else
                              if x1.toInt = 14 then
                                if (σ1.1 275 0).toInt = 0 then
                                  f_X12_count_192 0 σ1
                                else
                                  f_X12_count_192 1 σ1
                              else
                                if x1.toInt = 15 then
                                  Cl (f_X12_thingsSo 0 σ1) fun r10 σ9 =>
                                  Cl (f_X12_weightsOf r10 σ9) fun r12 σ11 =>
                                  some (r12, σ11)
                                else
                                  if x1.toInt = 16 then
                                    Cl (f_X12_thingsSo 2 σ1) fun r14 σ13 =>
                                    Cl (f_X12_weightsOf r14 σ13) fun r16 σ15 =>
                                    some (r16, σ15)
                                  else
                                    if x1.toInt = 17 then
                                      Cl (f_X12_thingsSo 1 σ1) fun r18 σ17 =>
                                      some (r18, σ17)
                                    else
                                      some ((-1), σ1)
end FNS

def J1 : List Nat := [1, 2, 3, 4, 5, 6, 7]
theorem cl_1 : cl J1 := cl_of (by decide +kernel)
def J2 : List Nat := J1 ++ [8, 9, 10, 11]
theorem clp_2 : cl [8, 9, 10, 11] := cl_of (by decide +kernel)
theorem cl_2 : cl J2 := cl_app cl_1 clp_2
theorem dj_2 : dj J1 [8, 9, 10, 11] = true := by decide +kernel
def J3 : List Nat := J2 ++ (12 :: 13 :: ringN 160)
theorem clp_3 : cl (12 :: 13 :: ringN 160) := cl_of (by decide +kernel)
theorem cl_3 : cl J3 := cl_app cl_2 clp_3
theorem dj_3 : dj J2 (12 :: 13 :: ringN 160) = true := by decide +kernel
def J4 : List Nat := J3 ++ [14, 15, 16]
theorem clp_4 : cl [14, 15, 16] := cl_of (by decide +kernel)
theorem cl_4 : cl J4 := cl_app cl_3 clp_4
theorem dj_4 : dj J3 [14, 15, 16] = true := by decide +kernel
def J5 : List Nat := J4 ++ [17, 18, 19, 20, 21]
theorem clp_5 : cl [17, 18, 19, 20, 21] := cl_of (by decide +kernel)
theorem cl_5 : cl J5 := cl_app cl_4 clp_5
theorem dj_5 : dj J4 [17, 18, 19, 20, 21] = true := by decide +kernel
def J6 : List Nat := J5 ++ [22, 23, 24]
theorem clp_6 : cl [22, 23, 24] := cl_of (by decide +kernel)
theorem cl_6 : cl J6 := cl_app cl_5 clp_6
theorem dj_6 : dj J5 [22, 23, 24] = true := by decide +kernel
def J7 : List Nat := J6 ++ [56, 57, 58, 59]
theorem clp_7 : cl [56, 57, 58, 59] := cl_of (by decide +kernel)
theorem cl_7 : cl J7 := cl_app cl_6 clp_7
theorem dj_7 : dj J6 [56, 57, 58, 59] = true := by decide +kernel
def J8 : List Nat := J7 ++ [60, 61, 62, 63]
theorem clp_8 : cl [60, 61, 62, 63] := cl_of (by decide +kernel)
theorem cl_8 : cl J8 := cl_app cl_7 clp_8
theorem dj_8 : dj J7 [60, 61, 62, 63] = true := by decide +kernel
def J9 : List Nat := J8 ++ [26]
theorem clp_9 : cl [26] := cl_of (by decide +kernel)
theorem cl_9 : cl J9 := cl_app cl_8 clp_9
theorem dj_9 : dj J8 [26] = true := by decide +kernel
def J10 : List Nat := J9 ++ [27]
theorem clp_10 : cl [27] := cl_of (by decide +kernel)
theorem cl_10 : cl J10 := cl_app cl_9 clp_10
theorem dj_10 : dj J9 [27] = true := by decide +kernel
def J11 : List Nat := J10 ++ [28]
theorem clp_11 : cl [28] := cl_of (by decide +kernel)
theorem cl_11 : cl J11 := cl_app cl_10 clp_11
theorem dj_11 : dj J10 [28] = true := by decide +kernel
def J12 : List Nat := J11 ++ [29]
theorem clp_12 : cl [29] := cl_of (by decide +kernel)
theorem cl_12 : cl J12 := cl_app cl_11 clp_12
theorem dj_12 : dj J11 [29] = true := by decide +kernel
def J13 : List Nat := J12 ++ [30, 31, 32, 33, 34, 35, 36, 37, 38, 39, 40, 41, 42]
theorem clp_13 : cl [30, 31, 32, 33, 34, 35, 36, 37, 38, 39, 40, 41, 42] := cl_of (by decide +kernel)
theorem cl_13 : cl J13 := cl_app cl_12 clp_13
theorem dj_13 : dj J12 [30, 31, 32, 33, 34, 35, 36, 37, 38, 39, 40, 41, 42] = true := by decide +kernel
def J14 : List Nat := J13 ++ [43, 44, 45, 46, 47, 48, 49, 50, 51, 52, 53, 54, 55]
theorem clp_14 : cl [43, 44, 45, 46, 47, 48, 49, 50, 51, 52, 53, 54, 55] := cl_of (by decide +kernel)
theorem cl_14 : cl J14 := cl_app cl_13 clp_14
theorem dj_14 : dj J13 [43, 44, 45, 46, 47, 48, 49, 50, 51, 52, 53, 54, 55] = true := by decide +kernel
def J15 : List Nat := J14 ++ [64, 65, 66, 67]
theorem clp_15 : cl [64, 65, 66, 67] := cl_of (by decide +kernel)
theorem cl_15 : cl J15 := cl_app cl_14 clp_15
theorem dj_15 : dj J14 [64, 65, 66, 67] = true := by decide +kernel
def J16 : List Nat := J15 ++ [68, 69, 70, 71]
theorem clp_16 : cl [68, 69, 70, 71] := cl_of (by decide +kernel)
theorem cl_16 : cl J16 := cl_app cl_15 clp_16
theorem dj_16 : dj J15 [68, 69, 70, 71] = true := by decide +kernel
def J17 : List Nat := J16 ++ [72, 73, 74, 75]
theorem clp_17 : cl [72, 73, 74, 75] := cl_of (by decide +kernel)
theorem cl_17 : cl J17 := cl_app cl_16 clp_17
theorem dj_17 : dj J16 [72, 73, 74, 75] = true := by decide +kernel
def idJ : List Nat := 0 :: 25 :: J17
theorem idJ_in : ∀ i, i < 236 → i ∈ idJ := by
  have h : (List.range 236).all (fun i => idJ.contains i) = true := by decide +kernel
  intro i hi
  have := List.all_eq_true.mp h i (List.mem_range.mpr hi)
  simpa using this
theorem J17_no : 0 ∉ J17 ∧ 25 ∉ J17 := by decide +kernel
theorem nj_8_1 : 8 ∉ J1 := by decide +kernel
theorem mj_1_1 : 1 ∈ J1 := by decide +kernel
theorem nj_12_2 : 12 ∉ J2 := by decide +kernel
theorem mj_1_2 : 1 ∈ J2 := by decide +kernel
theorem mj_8_2 : 8 ∈ J2 := by decide +kernel
theorem nj_14_3 : 14 ∉ J3 := by decide +kernel
theorem mj_1_3 : 1 ∈ J3 := by decide +kernel
theorem mj_8_3 : 8 ∈ J3 := by decide +kernel
theorem mj_12_3 : 12 ∈ J3 := by decide +kernel
theorem nj_17_4 : 17 ∉ J4 := by decide +kernel
theorem mj_1_4 : 1 ∈ J4 := by decide +kernel
theorem mj_8_4 : 8 ∈ J4 := by decide +kernel
theorem mj_12_4 : 12 ∈ J4 := by decide +kernel
theorem mj_14_4 : 14 ∈ J4 := by decide +kernel
theorem nj_22_5 : 22 ∉ J5 := by decide +kernel
theorem mj_1_5 : 1 ∈ J5 := by decide +kernel
theorem mj_8_5 : 8 ∈ J5 := by decide +kernel
theorem mj_12_5 : 12 ∈ J5 := by decide +kernel
theorem mj_14_5 : 14 ∈ J5 := by decide +kernel
theorem mj_17_5 : 17 ∈ J5 := by decide +kernel
theorem nj_56_6 : 56 ∉ J6 := by decide +kernel
theorem mj_1_6 : 1 ∈ J6 := by decide +kernel
theorem mj_8_6 : 8 ∈ J6 := by decide +kernel
theorem mj_12_6 : 12 ∈ J6 := by decide +kernel
theorem mj_14_6 : 14 ∈ J6 := by decide +kernel
theorem mj_17_6 : 17 ∈ J6 := by decide +kernel
theorem mj_22_6 : 22 ∈ J6 := by decide +kernel
theorem nj_60_7 : 60 ∉ J7 := by decide +kernel
theorem mj_1_7 : 1 ∈ J7 := by decide +kernel
theorem mj_8_7 : 8 ∈ J7 := by decide +kernel
theorem mj_12_7 : 12 ∈ J7 := by decide +kernel
theorem mj_14_7 : 14 ∈ J7 := by decide +kernel
theorem mj_17_7 : 17 ∈ J7 := by decide +kernel
theorem mj_22_7 : 22 ∈ J7 := by decide +kernel
theorem mj_56_7 : 56 ∈ J7 := by decide +kernel
theorem nj_26_8 : 26 ∉ J8 := by decide +kernel
theorem mj_1_8 : 1 ∈ J8 := by decide +kernel
theorem mj_8_8 : 8 ∈ J8 := by decide +kernel
theorem mj_12_8 : 12 ∈ J8 := by decide +kernel
theorem mj_14_8 : 14 ∈ J8 := by decide +kernel
theorem mj_17_8 : 17 ∈ J8 := by decide +kernel
theorem mj_22_8 : 22 ∈ J8 := by decide +kernel
theorem mj_56_8 : 56 ∈ J8 := by decide +kernel
theorem mj_60_8 : 60 ∈ J8 := by decide +kernel
theorem nj_27_9 : 27 ∉ J9 := by decide +kernel
theorem mj_1_9 : 1 ∈ J9 := by decide +kernel
theorem mj_8_9 : 8 ∈ J9 := by decide +kernel
theorem mj_12_9 : 12 ∈ J9 := by decide +kernel
theorem mj_14_9 : 14 ∈ J9 := by decide +kernel
theorem mj_17_9 : 17 ∈ J9 := by decide +kernel
theorem mj_22_9 : 22 ∈ J9 := by decide +kernel
theorem mj_56_9 : 56 ∈ J9 := by decide +kernel
theorem mj_60_9 : 60 ∈ J9 := by decide +kernel
theorem mj_26_9 : 26 ∈ J9 := by decide +kernel
theorem nj_28_10 : 28 ∉ J10 := by decide +kernel
theorem mj_1_10 : 1 ∈ J10 := by decide +kernel
theorem mj_8_10 : 8 ∈ J10 := by decide +kernel
theorem mj_12_10 : 12 ∈ J10 := by decide +kernel
theorem mj_14_10 : 14 ∈ J10 := by decide +kernel
theorem mj_17_10 : 17 ∈ J10 := by decide +kernel
theorem mj_22_10 : 22 ∈ J10 := by decide +kernel
theorem mj_56_10 : 56 ∈ J10 := by decide +kernel
theorem mj_60_10 : 60 ∈ J10 := by decide +kernel
theorem mj_26_10 : 26 ∈ J10 := by decide +kernel
theorem mj_27_10 : 27 ∈ J10 := by decide +kernel
theorem nj_29_11 : 29 ∉ J11 := by decide +kernel
theorem mj_1_11 : 1 ∈ J11 := by decide +kernel
theorem mj_8_11 : 8 ∈ J11 := by decide +kernel
theorem mj_12_11 : 12 ∈ J11 := by decide +kernel
theorem mj_14_11 : 14 ∈ J11 := by decide +kernel
theorem mj_17_11 : 17 ∈ J11 := by decide +kernel
theorem mj_22_11 : 22 ∈ J11 := by decide +kernel
theorem mj_56_11 : 56 ∈ J11 := by decide +kernel
theorem mj_60_11 : 60 ∈ J11 := by decide +kernel
theorem mj_26_11 : 26 ∈ J11 := by decide +kernel
theorem mj_27_11 : 27 ∈ J11 := by decide +kernel
theorem mj_28_11 : 28 ∈ J11 := by decide +kernel
theorem nj_30_12 : 30 ∉ J12 := by decide +kernel
theorem mj_1_12 : 1 ∈ J12 := by decide +kernel
theorem mj_8_12 : 8 ∈ J12 := by decide +kernel
theorem mj_12_12 : 12 ∈ J12 := by decide +kernel
theorem mj_14_12 : 14 ∈ J12 := by decide +kernel
theorem mj_17_12 : 17 ∈ J12 := by decide +kernel
theorem mj_22_12 : 22 ∈ J12 := by decide +kernel
theorem mj_56_12 : 56 ∈ J12 := by decide +kernel
theorem mj_60_12 : 60 ∈ J12 := by decide +kernel
theorem mj_26_12 : 26 ∈ J12 := by decide +kernel
theorem mj_27_12 : 27 ∈ J12 := by decide +kernel
theorem mj_28_12 : 28 ∈ J12 := by decide +kernel
theorem mj_29_12 : 29 ∈ J12 := by decide +kernel
theorem nj_43_13 : 43 ∉ J13 := by decide +kernel
theorem mj_1_13 : 1 ∈ J13 := by decide +kernel
theorem mj_8_13 : 8 ∈ J13 := by decide +kernel
theorem mj_12_13 : 12 ∈ J13 := by decide +kernel
theorem mj_14_13 : 14 ∈ J13 := by decide +kernel
theorem mj_17_13 : 17 ∈ J13 := by decide +kernel
theorem mj_22_13 : 22 ∈ J13 := by decide +kernel
theorem mj_56_13 : 56 ∈ J13 := by decide +kernel
theorem mj_60_13 : 60 ∈ J13 := by decide +kernel
theorem mj_26_13 : 26 ∈ J13 := by decide +kernel
theorem mj_27_13 : 27 ∈ J13 := by decide +kernel
theorem mj_28_13 : 28 ∈ J13 := by decide +kernel
theorem mj_29_13 : 29 ∈ J13 := by decide +kernel
theorem mj_30_13 : 30 ∈ J13 := by decide +kernel
theorem nj_64_14 : 64 ∉ J14 := by decide +kernel
theorem mj_1_14 : 1 ∈ J14 := by decide +kernel
theorem mj_8_14 : 8 ∈ J14 := by decide +kernel
theorem mj_12_14 : 12 ∈ J14 := by decide +kernel
theorem mj_14_14 : 14 ∈ J14 := by decide +kernel
theorem mj_17_14 : 17 ∈ J14 := by decide +kernel
theorem mj_22_14 : 22 ∈ J14 := by decide +kernel
theorem mj_56_14 : 56 ∈ J14 := by decide +kernel
theorem mj_60_14 : 60 ∈ J14 := by decide +kernel
theorem mj_26_14 : 26 ∈ J14 := by decide +kernel
theorem mj_27_14 : 27 ∈ J14 := by decide +kernel
theorem mj_28_14 : 28 ∈ J14 := by decide +kernel
theorem mj_29_14 : 29 ∈ J14 := by decide +kernel
theorem mj_30_14 : 30 ∈ J14 := by decide +kernel
theorem mj_43_14 : 43 ∈ J14 := by decide +kernel
theorem nj_68_15 : 68 ∉ J15 := by decide +kernel
theorem mj_1_15 : 1 ∈ J15 := by decide +kernel
theorem mj_8_15 : 8 ∈ J15 := by decide +kernel
theorem mj_12_15 : 12 ∈ J15 := by decide +kernel
theorem mj_14_15 : 14 ∈ J15 := by decide +kernel
theorem mj_17_15 : 17 ∈ J15 := by decide +kernel
theorem mj_22_15 : 22 ∈ J15 := by decide +kernel
theorem mj_56_15 : 56 ∈ J15 := by decide +kernel
theorem mj_60_15 : 60 ∈ J15 := by decide +kernel
theorem mj_26_15 : 26 ∈ J15 := by decide +kernel
theorem mj_27_15 : 27 ∈ J15 := by decide +kernel
theorem mj_28_15 : 28 ∈ J15 := by decide +kernel
theorem mj_29_15 : 29 ∈ J15 := by decide +kernel
theorem mj_30_15 : 30 ∈ J15 := by decide +kernel
theorem mj_43_15 : 43 ∈ J15 := by decide +kernel
theorem mj_64_15 : 64 ∈ J15 := by decide +kernel
theorem nj_72_16 : 72 ∉ J16 := by decide +kernel
theorem mj_1_16 : 1 ∈ J16 := by decide +kernel
theorem mj_8_16 : 8 ∈ J16 := by decide +kernel
theorem mj_12_16 : 12 ∈ J16 := by decide +kernel
theorem mj_14_16 : 14 ∈ J16 := by decide +kernel
theorem mj_17_16 : 17 ∈ J16 := by decide +kernel
theorem mj_22_16 : 22 ∈ J16 := by decide +kernel
theorem mj_56_16 : 56 ∈ J16 := by decide +kernel
theorem mj_60_16 : 60 ∈ J16 := by decide +kernel
theorem mj_26_16 : 26 ∈ J16 := by decide +kernel
theorem mj_27_16 : 27 ∈ J16 := by decide +kernel
theorem mj_28_16 : 28 ∈ J16 := by decide +kernel
theorem mj_29_16 : 29 ∈ J16 := by decide +kernel
theorem mj_30_16 : 30 ∈ J16 := by decide +kernel
theorem mj_43_16 : 43 ∈ J16 := by decide +kernel
theorem mj_64_16 : 64 ∈ J16 := by decide +kernel
theorem mj_68_16 : 68 ∈ J16 := by decide +kernel
theorem sj_end {a qs : Nat} {cs : ClassId} {w : UU} : (a, .inr (10, [.ref (w.1 1), .ref (w.1 8), .ref (w.1 12), .ref (w.1 14), .ref (w.1 17), .ref (w.1 22), .ref (w.1 56), .ref (w.1 60), .ref qs, .ref (w.1 26), .ref (w.1 27), .ref (w.1 28), .ref (w.1 29), .ref (w.1 30), .ref (w.1 43)])) :: (qs, .inl (cs, 3, .inr (.inr (.inr (.inr (va_up (va_up (va_up (fun _ => none) 0 (some (w.1 64))) 1 (some (w.1 68))) 2 (some (w.1 72)))))))) :: mw J17 w.1 w.2 s0 = mw idJ (fun i => if i = 0 then a else if i = 25 then qs else w.1 i) (fun i => if i = 25 then cs else w.2 i) s0 := by
  have h1 : mw J17 (fun i => if i = 0 then a else if i = 25 then qs else w.1 i) (fun i => if i = 25 then cs else w.2 i) s0 = mw J17 w.1 w.2 s0 := mw_cong (u := w) (v := (fun i => if i = 0 then a else if i = 25 then qs else w.1 i, fun i => if i = 25 then cs else w.2 i)) cl_17 (fun i hi => by
    show (if i = 0 then a else if i = 25 then qs else w.1 i) = w.1 i
    have n0 : ¬ i = 0 := fun e => J17_no.1 (e ▸ hi)
    have n1 : ¬ i = 25 := fun e => J17_no.2 (e ▸ hi)
    rw [if_neg n0, if_neg n1]) (fun i hi => by
    have n1 : ¬ i = 25 := fun e => J17_no.2 (e ▸ hi)
    exact if_neg n1)
  have h2 : (va_up (va_up (va_up (fun _ => none) 0 (some (w.1 64))) 1 (some (w.1 68))) 2 (some (w.1 72))) = rfK (fun i => if i = 0 then a else if i = 25 then qs else w.1 i) 25 25 := by
    funext j
    show _ = if j < 3 then some (if 64 + 4 * j = 0 then a else if 64 + 4 * j = 25 then qs else w.1 (64 + 4 * j)) else none
    match j with
    | 0 => rfl
    | 1 => rfl
    | 2 => rfl
    | j + 3 =>
      rw [if_neg (by omega), va_up_ne _ _ (by omega), va_up_ne _ _ (by omega), va_up_ne _ _ (by omega)]
  show _ = (_, ceK _ _ (kd 0) 0 _ _ _) :: (_, ceK _ _ (kd 25) 25 _ _ _) :: mw J17 _ _ s0
  rw [h1, kd_0, kd_25, ceK_ob (by decide), h2]
  rfl


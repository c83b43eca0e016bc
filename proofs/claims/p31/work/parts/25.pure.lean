/-! ways: the rows, purely -/
def ffree (t s : Nat) : Bool := t / 2 ^ s % 2 == 0
def lp (g : Nat → List (List Nat)) : Nat → Nat → List (List Nat)
  | _, 0 => []
  | h, e + 1 => g h ++ lp g (h + 1) e
/-- the class's way: row by row from the lowest height, what is left to be thrown -/
def rwC (p m : Nat) : Nat → Nat → Nat → Nat → List (List Nat)
  | 0, _, _, l => if l = 0 then [[]] else []
  | d + 1, i, t, l => lp (fun h => if h ≤ l ∧ ffree t ((i + h) % p) = true then (rwC p m d (i + 1) (t ||| 2 ^ ((i + h) % p)) (l - h)).map (h :: ·) else []) 0 (m + 1)
def allR (m : Nat) : Nat → List (List Nat)
  | 0 => [[]]
  | d + 1 => lp (fun h => (allR m d).map (h :: ·)) 0 (m + 1)
def okC (p : Nat) : Nat → Nat → Nat → List Nat → Bool
  | _, _, l, [] => l == 0
  | i, t, l, h :: r => Nat.ble h l && ffree t ((i + h) % p) && okC p (i + 1) (t ||| 2 ^ ((i + h) % p)) (l - h) r
theorem lp_filter {g : Nat → List (List Nat)} {f : List Nat → Bool} : ∀ h e, (lp g h e).filter f = lp (fun h => (g h).filter f) h e
  | _, 0 => rfl
  | h, e + 1 => by
    show (g h ++ lp g (h + 1) e).filter f = (g h).filter f ++ lp _ (h + 1) e
    rw [List.filter_append, lp_filter (h + 1) e]
theorem rwC_eq (p m : Nat) : ∀ d i t l, rwC p m d i t l = (allR m d).filter (okC p i t l)
  | 0, i, t, l => by
    show (if l = 0 then [[]] else []) = List.filter (okC p i t l) [[]]
    by_cases h : l = 0
    · subst h; rfl
    · rw [if_neg h]
      have hq : okC p i t l [] = false := by
        show (l == 0) = false
        simpa using h
      simp [hq]
  | d + 1, i, t, l => by
    show lp _ 0 (m + 1) = (lp (fun h => (allR m d).map (h :: ·)) 0 (m + 1)).filter _
    rw [lp_filter]
    congr 1
    funext h
    rw [List.filter_map]
    by_cases hc : h ≤ l ∧ ffree t ((i + h) % p) = true
    · rw [if_pos hc, rwC_eq p m d]
      congr 1
      apply List.filter_congr
      intro r _
      show _ = (Nat.ble h l && ffree t ((i + h) % p) && okC p (i + 1) (t ||| 2 ^ ((i + h) % p)) (l - h) r)
      rw [Nat.ble_eq_true_of_le hc.1, hc.2]
      rfl
    · rw [if_neg hc]
      symm
      rw [List.map_eq_nil_iff, List.filter_eq_nil_iff]
      intro r _
      show ¬ (Nat.ble h l && ffree t ((i + h) % p) && okC p (i + 1) (t ||| 2 ^ ((i + h) % p)) (l - h) r) = true
      simp only [Bool.and_eq_true]
      exact fun q => hc ⟨Nat.le_of_ble_eq_true q.1.1, q.1.2⟩
def dis (p : Nat) : Nat → Nat → List Nat → Bool
  | _, _, [] => true
  | i, t, h :: r => ffree t ((i + h) % p) && dis p (i + 1) (t ||| 2 ^ ((i + h) % p)) r
theorem okC_eq (p : Nat) : ∀ r i t l, okC p i t l r = (dis p i t r && (r.sum == l))
  | [], i, t, l => by
    show (l == 0) = (true && ((0 : Nat) == l))
    rw [Bool.true_and, Bool.eq_iff_iff, beq_iff_eq, beq_iff_eq]
    exact eq_comm
  | h :: r, i, t, l => by
    show (Nat.ble h l && ffree t ((i + h) % p) && okC p (i + 1) (t ||| 2 ^ ((i + h) % p)) (l - h) r) = (ffree t ((i + h) % p) && dis p (i + 1) (t ||| 2 ^ ((i + h) % p)) r && ((h :: r).sum == l))
    rw [okC_eq p r, List.sum_cons]
    by_cases hl : h ≤ l
    · have e : (r.sum == l - h) = (h + r.sum == l) := by
        rw [Bool.eq_iff_iff, beq_iff_eq, beq_iff_eq]
        omega
      rw [Nat.ble_eq_true_of_le hl, Bool.true_and, e, Bool.and_assoc]
    · have e : (h + r.sum == l) = false := by
        rw [beq_eq_false_iff_ne]
        omega
      have e2 : Nat.ble h l = false := Bool.eq_false_iff.mpr (fun q => hl (Nat.le_of_ble_eq_true q))
      rw [e, e2, Bool.and_false, Bool.false_and, Bool.false_and]
/-- the reference's way of one row: nothing where two come down in one beat -/
def kpF (p : Nat) : Nat → Nat → Nat → List Nat → Option Nat
  | _, _, s, [] => some (s / p)
  | i, t, s, h :: r => if ffree t ((i + h) % p) = true then kpF p (i + 1) (t ||| 2 ^ ((i + h) % p)) (s + h) r else none
theorem kpF_eq (p : Nat) : ∀ r i t s, kpF p i t s r = if dis p i t r = true then some ((s + r.sum) / p) else none
  | [], i, t, s => by
    show some (s / p) = if true = true then some ((s + 0) / p) else none
    rw [if_pos rfl, Nat.add_zero]
  | h :: r, i, t, s => by
    show (if ffree t ((i + h) % p) = true then kpF p (i + 1) (t ||| 2 ^ ((i + h) % p)) (s + h) r else none) = if (ffree t ((i + h) % p) && dis p (i + 1) (t ||| 2 ^ ((i + h) % p)) r) = true then some ((s + (h :: r).sum) / p) else none
    rw [kpF_eq p r, List.sum_cons]
    by_cases c : ffree t ((i + h) % p) = true
    · rw [if_pos c, c, Bool.true_and, Nat.add_assoc]
    · rw [if_neg c, if_neg (by rw [Bool.and_eq_true]; exact fun q => c q.1)]
def disR : Nat → List Nat → Bool
  | _, [] => true
  | t, s :: L => ffree t s && disR (t ||| 2 ^ s) L
def res (p : Nat) : Nat → List Nat → List Nat
  | _, [] => []
  | i, h :: r => (i + h) % p :: res p (i + 1) r
theorem dis_res (p : Nat) : ∀ r i t, dis p i t r = disR t (res p i r)
  | [], _, _ => rfl
  | h :: r, i, t => by
    show (ffree t ((i + h) % p) && dis p (i + 1) (t ||| 2 ^ ((i + h) % p)) r) = (ffree t ((i + h) % p) && disR (t ||| 2 ^ ((i + h) % p)) (res p (i + 1) r))
    rw [dis_res p r]
def tri : Nat → Nat → Nat
  | _, 0 => 0
  | i, n + 1 => i + tri (i + 1) n
theorem res_sum (p : Nat) : ∀ r i, (res p i r).sum % p = (r.sum + tri i r.length) % p
  | [], _ => rfl
  | h :: r, i => by
    show ((i + h) % p + (res p (i + 1) r).sum) % p = (h + r.sum + (i + tri (i + 1) r.length)) % p
    rw [Nat.add_mod, Nat.mod_mod, res_sum p r (i + 1), ← Nat.add_mod]
    congr 1
    omega
theorem res_len (p : Nat) : ∀ r i, (res p i r).length = r.length
  | [], _ => rfl
  | h :: r, i => by
    show (res p (i + 1) r).length + 1 = r.length + 1
    rw [res_len p r]
theorem res_le (p : Nat) (hp : 0 < p) : ∀ r i, ∀ x ∈ res p i r, x ≤ p - 1
  | [], _, x, hx => by simp [res] at hx
  | h :: r, i, x, hx => by
    rcases List.mem_cons.mp (show x ∈ (i + h) % p :: res p (i + 1) r from hx) with e | hx
    · have := Nat.mod_lt (i + h) hp
      omega
    · exact res_le p hp r (i + 1) x hx
theorem lp_mem {g : Nat → List (List Nat)} {x : List Nat} {j : Nat} (hx : x ∈ g j) : ∀ h e, h ≤ j → j < h + e → x ∈ lp g h e
  | h, 0, h1, h2 => by omega
  | h, e + 1, h1, h2 => by
    show x ∈ g h ++ lp g (h + 1) e
    by_cases c : h = j
    · subst c
      exact List.mem_append.mpr (Or.inl hx)
    · exact List.mem_append.mpr (Or.inr (lp_mem hx (h + 1) e (by omega) (by omega)))
theorem lp_of {g : Nat → List (List Nat)} {x : List Nat} : ∀ h e, x ∈ lp g h e → ∃ j, j < h + e ∧ x ∈ g j
  | h, 0, hx => by simp [lp] at hx
  | h, e + 1, hx => by
    rcases List.mem_append.mp (show x ∈ g h ++ lp g (h + 1) e from hx) with hx | hx
    · exact ⟨h, by omega, hx⟩
    · obtain ⟨j, hj, hx⟩ := lp_of (h + 1) e hx
      exact ⟨j, by omega, hx⟩
theorem mem_allR (m : Nat) : ∀ (L : List Nat) (d : Nat), L.length = d → (∀ x ∈ L, x ≤ m) → L ∈ allR m d
  | [], d, h, _ => by
    subst h
    exact List.mem_cons_self
  | x :: L, d, h, hx => by
    subst h
    show x :: L ∈ lp (fun h => (allR m L.length).map (h :: ·)) 0 (m + 1)
    have := hx x List.mem_cons_self
    exact lp_mem (j := x) (List.mem_map.mpr ⟨L, mem_allR m L _ rfl (fun y hy => hx y (List.mem_cons_of_mem _ hy)), rfl⟩) 0 (m + 1) (by omega) (by omega)
theorem of_allR (m : Nat) : ∀ (d : Nat) (L : List Nat), L ∈ allR m d → L.length = d ∧ ∀ x ∈ L, x ≤ m
  | 0, L, h => by
    have : L = [] := by simpa [allR] using h
    subst this
    exact ⟨rfl, fun x hx => by simp at hx⟩
  | d + 1, L, h => by
    obtain ⟨j, hj, h⟩ := lp_of (g := fun h => (allR m d).map (h :: ·)) 0 (m + 1) h
    obtain ⟨r, hr, rfl⟩ := List.mem_map.mp h
    obtain ⟨h1, h2⟩ := of_allR m d r hr
    refine ⟨by simp [h1], fun x hx => ?_⟩
    rcases List.mem_cons.mp hx with rfl | hx
    · omega
    · exact h2 x hx
def chkR (p : Nat) : Bool := (allR (p - 1) p).all (fun L => !(disR 0 L) || L.sum % p == tri 0 p % p)
theorem chkR_ok : chkR 1 = true ∧ chkR 2 = true ∧ chkR 3 = true ∧ chkR 4 = true ∧ chkR 5 = true := by decide +kernel
theorem sum_mod {p : Nat} (h1 : 1 ≤ p) (h5 : p ≤ 5) {r : List Nat} (hr : r.length = p) (hd : dis p 0 0 r = true) : r.sum % p = 0 := by
  have hm : res p 0 r ∈ allR (p - 1) p := mem_allR _ _ _ ((res_len p r 0).trans hr) (res_le p h1 r 0)
  rw [dis_res] at hd
  have hs := res_sum p r 0
  rw [hr] at hs
  have hc : chkR p = true := by
    rcases (show p = 1 ∨ p = 2 ∨ p = 3 ∨ p = 4 ∨ p = 5 by omega) with e | e | e | e | e
    · rw [e]; exact chkR_ok.1
    · rw [e]; exact chkR_ok.2.1
    · rw [e]; exact chkR_ok.2.2.1
    · rw [e]; exact chkR_ok.2.2.2.1
    · rw [e]; exact chkR_ok.2.2.2.2
  have hq := List.all_eq_true.mp hc _ hm
  rw [hd] at hq
  have hq : (res p 0 r).sum % p = tri 0 p % p := by simpa using hq
  rw [hs] at hq
  rcases (show p = 1 ∨ p = 2 ∨ p = 3 ∨ p = 4 ∨ p = 5 by omega) with e | e | e | e | e
  · rw [e] at hq ⊢
    omega
  · rw [e, show tri 0 2 = 1 from rfl] at hq
    rw [e]
    omega
  · rw [e, show tri 0 3 = 3 from rfl] at hq
    rw [e]
    omega
  · rw [e, show tri 0 4 = 6 from rfl] at hq
    rw [e]
    omega
  · rw [e, show tri 0 5 = 10 from rfl] at hq
    rw [e]
    omega
theorem ok_kp {p : Nat} (h1 : 1 ≤ p) (h5 : p ≤ 5) {r : List Nat} (hr : r.length = p) (k : Nat) : okC p 0 0 (p * k) r = (kpF p 0 0 0 r == some k) := by
  rw [okC_eq, kpF_eq]
  by_cases c : dis p 0 0 r = true
  · have hm := sum_mod h1 h5 hr c
    rw [c, if_pos rfl, Bool.true_and, Nat.zero_add, Bool.eq_iff_iff, beq_iff_eq, beq_iff_eq]
    have hd := Nat.div_add_mod r.sum p
    rw [hm, Nat.add_zero] at hd
    constructor
    · intro e
      rw [e, Nat.mul_div_cancel_left _ h1]
    · intro e
      rw [← Option.some.inj e, hd]
  · have c : dis p 0 0 r = false := by simpa using c
    rw [c]
    rfl
theorem rows_eq {p : Nat} (h1 : 1 ≤ p) (h5 : p ≤ 5) (m k : Nat) : rwC p m p 0 0 (p * k) = (allR m p).filter (fun r => kpF p 0 0 0 r == some k) := by
  rw [rwC_eq]
  apply List.filter_congr
  intro r hr
  exact ok_kp h1 h5 (of_allR m p r hr).1 k
theorem lp_len {g : Nat → List (List Nat)} {c : Nat} (hg : ∀ h, (g h).length = c) : ∀ h e, (lp g h e).length = e * c
  | _, 0 => by simp [lp]
  | h, e + 1 => by
    show (g h ++ lp g (h + 1) e).length = _
    rw [List.length_append, hg, lp_len hg (h + 1) e, Nat.succ_mul, Nat.add_comm]
theorem allR_len (m : Nat) : ∀ d, (allR m d).length = (m + 1) ^ d
  | 0 => rfl
  | d + 1 => by
    show (lp (fun h => (allR m d).map (h :: ·)) 0 (m + 1)).length = _
    rw [lp_len (c := (m + 1) ^ d) (fun h => by rw [List.length_map, allR_len m d]), Nat.pow_succ, Nat.mul_comm]
theorem pow_le {m p : Nat} (hm : m ≤ 7) (hp : p ≤ 5) : (m + 1) ^ p ≤ 32768 := by
  have a : (m + 1) ^ p ≤ 8 ^ p := Nat.pow_le_pow_left (by omega) p
  have b : 8 ^ p ≤ 8 ^ 5 := Nat.pow_le_pow_right (by omega) hp
  have c : (8 : Nat) ^ 5 = 32768 := by decide
  omega
theorem rows_len {p m k : Nat} (h1 : 1 ≤ p) (h5 : p ≤ 5) (hm : m ≤ 7) : (rwC p m p 0 0 (p * k)).length ≤ 32768 := by
  rw [rows_eq h1 h5]
  exact Nat.le_trans (List.length_filter_le _ _) (by rw [allR_len]; exact pow_le hm h5)
/-! the reference's rows by their number -/
def dg (b : Nat) : Nat → Nat → List Nat
  | 0, _ => []
  | d + 1, w => w / b ^ d % b :: dg b d w
theorem dg_len (b : Nat) : ∀ d w, (dg b d w).length = d
  | 0, _ => rfl
  | d + 1, w => by
    show (dg b d w).length + 1 = d + 1
    rw [dg_len b d]
theorem dg_add {b : Nat} (hb : 0 < b) : ∀ d c w, dg b d (c * b ^ d + w) = dg b d w
  | 0, _, _ => rfl
  | d + 1, c, w => by
    show (c * b ^ (d + 1) + w) / b ^ d % b :: dg b d (c * b ^ (d + 1) + w) = w / b ^ d % b :: dg b d w
    have e : c * b ^ (d + 1) = (c * b) * b ^ d := by rw [Nat.pow_succ, Nat.mul_assoc, Nat.mul_comm b]
    rw [e, dg_add hb d (c * b) w, Nat.add_comm, Nat.add_mul_div_right _ _ (Nat.pow_pos hb), Nat.add_mul_mod_self_right]
theorem lp_range (f : Nat → List Nat) (q : Nat) : ∀ h e, lp (fun h => (List.range' (h * q) q).map f) h e = (List.range' (h * q) (e * q)).map f
  | h, 0 => by
    rw [Nat.zero_mul]
    rfl
  | h, e + 1 => by
    show (List.range' (h * q) q).map f ++ lp _ (h + 1) e = _
    rw [lp_range f q (h + 1) e, ← List.map_append, Nat.succ_mul h q, List.range'_append_1, Nat.succ_mul e q, Nat.add_comm]
theorem lp_congr {g g1 : Nat → List (List Nat)} : ∀ h e, (∀ j, j < h + e → g j = g1 j) → lp g h e = lp g1 h e
  | _, 0, _ => rfl
  | h, e + 1, hg => by
    show g h ++ lp g (h + 1) e = g1 h ++ lp g1 (h + 1) e
    rw [hg h (by omega), lp_congr (h + 1) e (fun j hj => hg j (by omega))]
theorem all_dg (m : Nat) : ∀ d, allR m d = (List.range' 0 ((m + 1) ^ d)).map (dg (m + 1) d)
  | 0 => rfl
  | d + 1 => by
    have hq := lp_range (dg (m + 1) (d + 1)) ((m + 1) ^ d) 0 (m + 1)
    rw [Nat.zero_mul, Nat.mul_comm (m + 1), ← Nat.pow_succ] at hq
    rw [← hq]
    show lp (fun h => (allR m d).map (h :: ·)) 0 (m + 1) = _
    refine lp_congr 0 (m + 1) (fun h hh => ?_)
    have hr : List.range' (h * (m + 1) ^ d) ((m + 1) ^ d) = (List.range' 0 ((m + 1) ^ d)).map (h * (m + 1) ^ d + ·) := by
      rw [List.map_add_range']
      rfl
    rw [hr, List.map_map, all_dg m d, List.map_map]
    apply List.map_congr_left
    intro w hw
    have hw : w < (m + 1) ^ d := by
      have := List.mem_range'_1.mp hw
      omega
    show h :: dg (m + 1) d w = (h * (m + 1) ^ d + w) / (m + 1) ^ d % (m + 1) :: dg (m + 1) d (h * (m + 1) ^ d + w)
    have hb : 0 < (m + 1) ^ d := Nat.pow_pos (Nat.succ_pos m)
    have e1 : (h * (m + 1) ^ d + w) / (m + 1) ^ d = h := by
      rw [Nat.add_comm (h * (m + 1) ^ d) w, Nat.add_mul_div_right w h hb, Nat.div_eq_of_lt hw, Nat.zero_add]
    rw [e1, Nat.mod_eq_of_lt (show h < m + 1 by omega), dg_add (b := m + 1) (Nat.succ_pos m)]
/-- what ways answers of the rows that are found -/
def resW (L : List (List Nat)) (i : Option Nat) : Int32 := match i with
  | none => nI L.length
  | some n => match L with
    | [] => -2
    | r :: _ => nI (r.getD n 0)

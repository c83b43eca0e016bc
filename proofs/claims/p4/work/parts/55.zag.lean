/-! the text in force while another is read -/
def AGq (n : Nat) (s σ : HS) : Prop := σ.1 249 n = s.1 249 n ∧ (∀ p, p < 5 → σ.1 250 (5 * n + p) = s.1 250 (5 * n + p)) ∧ (∀ k, k < 4 → σ.1 254 (4 * n + k) = s.1 254 (4 * n + k) ∧ σ.1 255 (4 * n + k) = s.1 255 (4 * n + k)) ∧ (∀ q, 130 * n ≤ q → q < 130 * n + 130 → σ.1 256 q = s.1 256 q ∧ σ.1 257 q = s.1 257 q ∧ σ.1 258 q = s.1 258 q ∧ σ.1 259 q = s.1 259 q ∧ σ.1 260 q = s.1 260 q) ∧ (∀ c, 420 * n ≤ c → c < 420 * n + 420 → σ.1 261 c = s.1 261 c ∧ σ.1 262 c = s.1 262 c)
def AGm (s σ : HS) : Prop := (σ.1 236 18 = s.1 236 18 ∧ σ.1 236 54 = s.1 236 54 ∧ σ.1 267 21 = s.1 267 21 ∧ σ.1 267 26 = s.1 267 26 ∧ σ.1 267 27 = s.1 267 27 ∧ σ.1 266 = s.1 266 ∧ σ.1 268 = s.1 268 ∧ σ.1 275 = s.1 275 ∧ σ.1 276 = s.1 276) ∧ AGq (s.1 236 18).toInt.toNat s σ
theorem AGm.rf {s : HS} : AGm s s := ⟨⟨rfl, rfl, rfl, rfl, rfl, rfl, rfl, rfl, rfl⟩, rfl, fun _ _ => rfl, fun _ _ => ⟨rfl, rfl⟩, fun _ _ _ => ⟨rfl, rfl, rfl, rfl, rfl⟩, fun _ _ _ => ⟨rfl, rfl⟩⟩
theorem dep_cong {cd cd1 : Nat → Int32} {u : Nat} : ∀ n, (∀ j, j < n → cd1 (u + j) = cd (u + j)) → dep cd1 u n = dep cd u n := by
  intro n
  induction n with
  | zero => intro _; rfl
  | succ n ih =>
    intro h
    show dep cd1 u n + (if (cd1 (u + n)).toInt < 2 then 1 else -1) = dep cd u n + (if (cd (u + n)).toInt < 2 then 1 else -1)
    rw [ih (fun j hj => h j (by omega)), h n (by omega)]
theorem SGm.cong {cd ci cd1 ci1 : Nat → Int32} {u v : Int32} (h : SGm cd ci u v) (e : ∀ c : Nat, u.toInt ≤ c → (c : Int) < v.toInt → cd1 c = cd c ∧ ci1 c = ci c) : SGm cd1 ci1 u v := by
  refine ⟨h.1, h.2.1, h.2.2.1, fun c h1 h2 => ?_⟩
  have hu := h.1.1
  rw [(e c h1 h2).1, (e c h1 h2).2, dep_cong (cd := cd) (c - u.toInt.toNat) (fun j hj => (e _ (by omega) (by omega)).1)]
  exact h.2.2.2 c h1 h2
theorem LWq.cong {n : Nat} {s σ : HS} (h : LWq n (s.1 254) (s.1 255) (s.1 256) (s.1 257) (s.1 258) (s.1 259) (s.1 260) (s.1 261) (s.1 262)) (a : AGq n s σ) : LWq n (σ.1 254) (σ.1 255) (σ.1 256) (σ.1 257) (σ.1 258) (σ.1 259) (σ.1 260) (σ.1 261) (σ.1 262) := by
  intro k hk
  rw [(a.2.2.1 k hk).1, (a.2.2.1 k hk).2]
  refine ⟨(h k hk).1, (h k hk).2.1, fun q h1 h2 => ?_⟩
  obtain ⟨hb, hr⟩ := (h k hk).2.2 q h1 h2
  obtain ⟨e1, e2, e3, e4, e5⟩ := a.2.2.2.1 q hr.1 hr.2.1
  unfold BRq at hb ⊢
  rw [e1, e2, e3, e4, e5]
  obtain ⟨r1, r2, r3, r4, r5⟩ := hr
  refine ⟨⟨fun hn => ⟨(hb.1 hn).1.cong (fun c c1 c2 => a.2.2.2.2 c ?_ ?_), (hb.1 hn).2.cong (fun c c1 c2 => a.2.2.2.2 c ?_ ?_)⟩, hb.2.cong (fun c c1 c2 => a.2.2.2.2 c ?_ ?_)⟩, r1, r2, r3, r4, r5⟩
  · have := r3 hn; omega
  · have := r3 hn; omega
  · have := r3 hn; omega
  · have := r3 hn; omega
  · omega
  · omega
theorem AGm.W {s σ : HS} {i k : Nat} {v : Int32} (h : AGm s σ) (hi : i ∉ [236, 266, 267, 268, 275, 276]) (h1 : i = 249 → k ≠ (s.1 236 18).toInt.toNat) (h2 : i = 250 → k < 5 * (s.1 236 18).toInt.toNat ∨ 5 * (s.1 236 18).toInt.toNat + 5 ≤ k) (h3 : (i = 254 ∨ i = 255) → k < 4 * (s.1 236 18).toInt.toNat ∨ 4 * (s.1 236 18).toInt.toNat + 4 ≤ k) (h4 : (256 ≤ i ∧ i ≤ 260) → k < 130 * (s.1 236 18).toInt.toNat ∨ 130 * (s.1 236 18).toInt.toNat + 130 ≤ k) (h5 : (i = 261 ∨ i = 262) → k < 420 * (s.1 236 18).toInt.toNat ∨ 420 * (s.1 236 18).toInt.toNat + 420 ≤ k) : AGm s (hI σ i k v) := by
  have e : ∀ a j, ¬ (a = i ∧ j = k) → (hI σ i k v).1 a j = σ.1 a j := fun a j hn => (hI_at (σ := σ) (i := i) (k := k) (v := v) a j).elim (fun q => absurd ⟨q.1, q.2.1⟩ hn) id
  have c : ∀ a, a ∈ [236, 266, 267, 268, 275, 276] → (hI σ i k v).1 a = σ.1 a := fun a ha => funext fun j => e a j (fun q => hi (q.1 ▸ ha))
  obtain ⟨⟨a1, a2, a3, a4, a5, a6, a7, a8, a9⟩, b1, b2, b3, b4, b5⟩ := h
  refine ⟨⟨?_, ?_, ?_, ?_, ?_, ?_, ?_, ?_, ?_⟩, ?_, fun p hp => ?_, fun q hq => ⟨?_, ?_⟩, fun q q1 q2 => ⟨?_, ?_, ?_, ?_, ?_⟩, fun q q1 q2 => ⟨?_, ?_⟩⟩
  · rw [c 236 (by decide)]; exact a1
  · rw [c 236 (by decide)]; exact a2
  · rw [c 267 (by decide)]; exact a3
  · rw [c 267 (by decide)]; exact a4
  · rw [c 267 (by decide)]; exact a5
  · rw [c 266 (by decide)]; exact a6
  · rw [c 268 (by decide)]; exact a7
  · rw [c 275 (by decide)]; exact a8
  · rw [c 276 (by decide)]; exact a9
  · exact (e 249 _ (fun q => h1 q.1.symm q.2.symm)).trans b1
  · exact (e 250 _ (fun q => by have := h2 q.1.symm; omega)).trans (b2 p hp)
  · exact (e 254 _ (fun r => by have := h3 (Or.inl r.1.symm); omega)).trans (b3 q hq).1
  · exact (e 255 _ (fun r => by have := h3 (Or.inr r.1.symm); omega)).trans (b3 q hq).2
  · exact (e 256 _ (fun r => by have := h4 (by omega); omega)).trans (b4 q q1 q2).1
  · exact (e 257 _ (fun r => by have := h4 (by omega); omega)).trans (b4 q q1 q2).2.1
  · exact (e 258 _ (fun r => by have := h4 (by omega); omega)).trans (b4 q q1 q2).2.2.1
  · exact (e 259 _ (fun r => by have := h4 (by omega); omega)).trans (b4 q q1 q2).2.2.2.1
  · exact (e 260 _ (fun r => by have := h4 (by omega); omega)).trans (b4 q q1 q2).2.2.2.2
  · exact (e 261 _ (fun r => by have := h5 (Or.inl r.1.symm); omega)).trans (b5 q q1 q2).1
  · exact (e 262 _ (fun r => by have := h5 (Or.inr r.1.symm); omega)).trans (b5 q q1 q2).2

/-! two contracts of one call -/
theorem ended_len {s : State} {below : List Frame} {v : Option Value} (h : Ended s below (.returned v)) : s.frames.length = below.length := by
  unfold Ended at h
  simp only at h
  split at h
  · obtain ⟨c, i, len, _, _, h⟩ := h
    rw [h]; rfl
  · rw [h]; rfl
  · rw [h]; rfl
  · rw [h.2]
theorem ended_inj {s : State} {below : List Frame} {o1 o2 : Outcome} (h1 : Ended s below o1) (h2 : Ended s below o2) : o1 = o2 := by
  cases o1 with
  | threw a =>
    have e1 : s.frames = .throwing a :: below := h1
    cases o2 with
    | threw b =>
      have e2 : s.frames = .throwing b :: below := h2
      rw [e1] at e2
      injection e2 with e3 _
      injection e3 with e4
      rw [e4]
    | returned v =>
      have e2 := ended_len h2
      rw [e1] at e2
      simp at e2
  | returned v =>
    cases o2 with
    | threw b =>
      have e1 := ended_len h1
      have e2 : s.frames = .throwing b :: below := h2
      rw [e2] at e1
      simp at e1
    | returned w =>
      unfold Ended at h1 h2
      simp only at h1 h2
      split at h1
      · obtain ⟨c, i, len, q1, q2, q3⟩ := h1
        obtain ⟨c', i', len', r1, r2, r3⟩ := h2
        rw [q3] at r3
        injection r3 with r4 _
        injection r4 with r5
        injection r5 with _ _ _ r6
        have r7 := List.append_cancel_right r6
        cases v <;> cases w <;> simp_all
      · rw [h1] at h2
        injection h2 with r4 _
        injection r4 with r5
        injection r5
        simp_all
      · rw [h1] at h2
        injection h2 with r4 _
        injection r4 with r5
        injection r5
        simp_all
      · split at h2 <;> simp_all
theorem within_ended {s : State} {below : List Frame} {o : Outcome} (h1 : Within s below) (h2 : Ended s below o) : False := by
  obtain ⟨above, e, hne, ht⟩ := h1
  cases o with
  | threw a =>
    have e2 : s.frames = .throwing a :: below := h2
    rw [e2] at e
    have : [Frame.throwing a] ++ below = above ++ below := e
    exact ht a (List.append_cancel_right this).symm
  | returned v =>
    have e2 := ended_len h2
    rw [e, List.length_append] at e2
    cases above with
    | nil => exact hne rfl
    | cons x r => simp at e2
theorem Met.and {l : Launch} {y : MethodName} {ws : List Cond} {rm : Room} {Pc : Array Value → State → Prop} {Q1 Q2 : Array Value → State → Outcome → State → Prop} {mc ms : Nat} {free : Addr → Prop} (h1 : Met l y ws rm Pc Q1 mc ms free) (h2 : Met l y ws rm Pc Q2 mc ms free) : Met l y ws rm Pc (fun a st o t => Q1 a st o t ∧ Q2 a st o t) mc ms free := by
  intro p e ha hc hk s m args below hf hS hP hK
  obtain ⟨n1, o1, w1, r1, e1, q1, x1⟩ := h1 p e ha hc hk s m args below hf hS hP hK
  obtain ⟨n2, o2, w2, r2, e2, q2, x2⟩ := h2 p e ha hc hk s m args below hf hS hP hK
  have en : n1 = n2 := by
    rcases Nat.lt_trichotomy n1 n2 with h | h | h
    · exact (within_ended (w2 n1 h) e1).elim
    · exact h
    · exact (within_ended (w1 n2 h) e2).elim
  subst en
  have eo := ended_inj e1 e2
  subst eo
  exact ⟨n1, o1, w1, r1, e1, ⟨q1, q2⟩, x1⟩
theorem Ki.and {l : Launch} {D : va_G} {ids : List Nat} {ad : Nat → Nat} {ca : Nat → ClassId} {y : MethodName} {cc : ByteArray} {nL fr lo : Nat} {ty : FieldType} {av : List Value} {σ : HS} {P1 P2 : Int32 → HS → Prop} (h1 : Ki l D ids ad ca y cc nL ty fr lo av σ P1) (h2 : Ki l D ids ad ca y cc nL ty fr lo av σ P2) : Ki l D ids ad ca y cc nL ty fr lo av σ (fun r u => (∃ w, P1 r w) ∧ P2 r u) := by
  intro sz
  have h := (h1 sz).and (h2 sz)
  intro p e ha hc hk s m args below hf hS hP hK
  obtain ⟨n, o, w, r, e1, ⟨⟨⟨ra, ua, ea, pa, ka⟩, fa⟩, ⟨⟨rb, ub, eb, pb, kb⟩, fb⟩⟩, x1⟩ := h p e ha hc hk s m args below hf hS hP hK
  have er : ra = rb := by
    rw [ea] at eb
    injection eb with e2
    injection e2 with e3
    injection e3
  subst er
  exact ⟨n, o, w, r, e1, ⟨⟨ra, ub, eb, ⟨⟨ua, pa⟩, pb⟩, kb⟩, fb⟩, x1⟩

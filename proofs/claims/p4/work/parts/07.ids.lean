/-! kinds and lengths by number; the fresh state -/
theorem kd_0 : kd 0 = 10 := by decide
theorem kd_1 : kd 1 = 5 := by decide
theorem kd_2 : kd 2 = 8 := by decide
theorem kd_3 : kd 3 = 20 := by decide
theorem al_3 : al 3 = 2000 := by decide
theorem kd_4 : kd 4 = 20 := by decide
theorem al_4 : al 4 = 401 := by decide
theorem kd_5 : kd 5 = 20 := by decide
theorem al_5 : al 5 = 401 := by decide
theorem kd_6 : kd 6 = 23 := by decide
theorem al_6 : al 6 = 401 := by decide
theorem kd_7 : kd 7 = 23 := by decide
theorem al_7 : al 7 = 12 := by decide
theorem kd_8 : kd 8 = 3 := by decide
theorem kd_9 : kd 9 = 1 := by decide
theorem kd_10 : kd 10 = 20 := by decide
theorem al_10 : al 10 = 9 := by decide
theorem kd_11 : kd 11 = 20 := by decide
theorem al_11 : al 11 = 32 := by decide
theorem kd_12 : kd 12 = 4 := by decide
theorem kd_13 : kd 13 = 24 := by decide
theorem al_13 : al 13 = 40 := by decide
theorem kd_14 : kd 14 = 2 := by decide
theorem kd_15 : kd 15 = 20 := by decide
theorem al_15 : al 15 = 20 := by decide
theorem kd_16 : kd 16 = 21 := by decide
theorem al_16 : al 16 = 20 := by decide
theorem kd_17 : kd 17 = 6 := by decide
theorem kd_18 : kd 18 = 20 := by decide
theorem al_18 : al 18 = 1024 := by decide
theorem kd_19 : kd 19 = 20 := by decide
theorem al_19 : al 19 = 1024 := by decide
theorem kd_20 : kd 20 = 20 := by decide
theorem al_20 : al 20 = 1024 := by decide
theorem kd_21 : kd 21 = 20 := by decide
theorem al_21 : al 21 = 12 := by decide
theorem kd_22 : kd 22 = 7 := by decide
theorem kd_23 : kd 23 = 20 := by decide
theorem al_23 : al 23 = 5 := by decide
theorem kd_24 : kd 24 = 20 := by decide
theorem al_24 : al 24 = 5 := by decide
theorem kd_25 : kd 25 = 25 := by decide
theorem al_25 : al 25 = 3 := by decide
theorem kd_26 : kd 26 = 21 := by decide
theorem al_26 : al 26 = 3 := by decide
theorem kd_27 : kd 27 = 20 := by decide
theorem al_27 : al 27 = 61 := by decide
theorem kd_28 : kd 28 = 20 := by decide
theorem al_28 : al 28 = 7 := by decide
theorem kd_29 : kd 29 = 20 := by decide
theorem al_29 : al 29 = 16 := by decide
theorem kd_30 : kd 30 = 9 := by decide
theorem kd_41 : kd 41 = 20 := by decide
theorem al_41 : al 41 = 408 := by decide
theorem kd_42 : kd 42 = 20 := by decide
theorem al_42 : al 42 = 4 := by decide
theorem kd_56 : kd 56 = 0 := by decide
theorem kd_57 : kd 57 = 20 := by decide
theorem al_57 : al 57 = 7 := by decide
theorem kd_58 : kd 58 = 20 := by decide
theorem al_58 : al 58 = 7 := by decide
theorem kd_59 : kd 59 = 20 := by decide
theorem al_59 : al 59 = 7 := by decide
theorem kd_64 : kd 64 = 0 := by decide
theorem kd_65 : kd 65 = 20 := by decide
theorem al_65 : al 65 = 7 := by decide
theorem kd_66 : kd 66 = 20 := by decide
theorem al_66 : al 66 = 7 := by decide
theorem kd_67 : kd 67 = 20 := by decide
theorem al_67 : al 67 = 7 := by decide
theorem kd_68 : kd 68 = 0 := by decide
theorem kd_69 : kd 69 = 20 := by decide
theorem al_69 : al 69 = 7 := by decide
theorem kd_70 : kd 70 = 20 := by decide
theorem al_70 : al 70 = 7 := by decide
theorem kd_71 : kd 71 = 20 := by decide
theorem al_71 : al 71 = 7 := by decide
theorem kd_72 : kd 72 = 0 := by decide
theorem kd_73 : kd 73 = 20 := by decide
theorem al_73 : al 73 = 7 := by decide
theorem kd_74 : kd 74 = 20 := by decide
theorem al_74 : al 74 = 7 := by decide
theorem kd_75 : kd 75 = 20 := by decide
theorem al_75 : al 75 = 7 := by decide
theorem kd_236 : kd 236 = 11 := by decide
theorem kd_237 : kd 237 = 22 := by decide
theorem al_237 : al 237 = 2000 := by decide
theorem kd_238 : kd 238 = 22 := by decide
theorem al_238 : al 238 = 2000 := by decide
theorem kd_239 : kd 239 = 20 := by decide
theorem al_239 : al 239 = 403 := by decide
theorem kd_240 : kd 240 = 20 := by decide
theorem al_240 : al 240 = 403 := by decide
theorem kd_241 : kd 241 = 20 := by decide
theorem al_241 : al 241 = 403 := by decide
theorem kd_242 : kd 242 = 23 := by decide
theorem al_242 : al 242 = 403 := by decide
theorem kd_243 : kd 243 = 23 := by decide
theorem al_243 : al 243 = 20 := by decide
theorem kd_244 : kd 244 = 23 := by decide
theorem al_244 : al 244 = 12 := by decide
theorem kd_245 : kd 245 = 20 := by decide
theorem al_245 : al 245 = 2 := by decide
theorem kd_246 : kd 246 = 20 := by decide
theorem al_246 : al 246 = 14 := by decide
theorem kd_247 : kd 247 = 20 := by decide
theorem al_247 : al 247 = 14 := by decide
theorem kd_248 : kd 248 = 20 := by decide
theorem al_248 : al 248 = 14 := by decide
theorem kd_249 : kd 249 = 20 := by decide
theorem al_249 : al 249 = 2 := by decide
theorem kd_250 : kd 250 = 20 := by decide
theorem al_250 : al 250 = 10 := by decide
theorem kd_251 : kd 251 = 20 := by decide
theorem al_251 : al 251 = 80 := by decide
theorem kd_252 : kd 252 = 20 := by decide
theorem al_252 : al 252 = 2 := by decide
theorem kd_253 : kd 253 = 20 := by decide
theorem al_253 : al 253 = 2 := by decide
theorem kd_254 : kd 254 = 20 := by decide
theorem al_254 : al 254 = 8 := by decide
theorem kd_255 : kd 255 = 20 := by decide
theorem al_255 : al 255 = 8 := by decide
theorem kd_256 : kd 256 = 21 := by decide
theorem al_256 : al 256 = 260 := by decide
theorem kd_257 : kd 257 = 20 := by decide
theorem al_257 : al 257 = 260 := by decide
theorem kd_258 : kd 258 = 20 := by decide
theorem al_258 : al 258 = 260 := by decide
theorem kd_259 : kd 259 = 20 := by decide
theorem al_259 : al 259 = 260 := by decide
theorem kd_260 : kd 260 = 20 := by decide
theorem al_260 : al 260 = 260 := by decide
theorem kd_261 : kd 261 = 20 := by decide
theorem al_261 : al 261 = 840 := by decide
theorem kd_262 : kd 262 = 20 := by decide
theorem al_262 : al 262 = 840 := by decide
theorem kd_263 : kd 263 = 20 := by decide
theorem al_263 : al 263 = 64 := by decide
theorem kd_264 : kd 264 = 20 := by decide
theorem al_264 : al 264 = 9 := by decide
theorem kd_265 : kd 265 = 20 := by decide
theorem al_265 : al 265 = 400 := by decide
theorem kd_266 : kd 266 = 20 := by decide
theorem al_266 : al 266 = 29 := by decide
theorem kd_267 : kd 267 = 20 := by decide
theorem al_267 : al 267 = 29 := by decide
theorem kd_268 : kd 268 = 20 := by decide
theorem al_268 : al 268 = 1160 := by decide
theorem kd_269 : kd 269 = 20 := by decide
theorem al_269 : al 269 = 16 := by decide
theorem kd_270 : kd 270 = 20 := by decide
theorem al_270 : al 270 = 1024 := by decide
theorem kd_271 : kd 271 = 20 := by decide
theorem al_271 : al 271 = 7 := by decide
theorem kd_272 : kd 272 = 20 := by decide
theorem al_272 : al 272 = 20 := by decide
theorem kd_273 : kd 273 = 21 := by decide
theorem al_273 : al 273 = 20 := by decide
theorem kd_274 : kd 274 = 20 := by decide
theorem al_274 : al 274 = 41 := by decide
theorem kd_275 : kd 275 = 21 := by decide
theorem al_275 : al 275 = 3 := by decide
theorem kd_276 : kd 276 = 20 := by decide
theorem al_276 : al 276 = 87 := by decide
def hC (σ : HS) (a b n : Nat) : HS := hA σ b (va_cpy (σ.1 a) (σ.1 b) 0 0 n)
/-- the ints of the fresh state -/
def s0I (i k : Nat) : Int32 := match kd i with
  | 0 => if k = 9 then -1 else if k = 11 then -1 else 0
  | 5 => if k = 1 then -1 else 0
  | 9 => if k = 8 then 8 else if k = 10 then 1 else 0
  | 11 => if k = 17 then -1 else 0
  | 20 => if i = 41 ∨ i = 54 then [0, -6, 0, -6, -11, -6, 0, -6].getD k 0
    else if i = 42 ∨ i = 55 then [0, 2, 4, 6].getD k 0
    else if i = 252 then (if k = 0 then 1 else 0)
    else if i = 266 ∨ i = 267 then (if k = 26 then -2 else if k = 28 then -1 else 0)
    else 0
  | _ => 0
def s0L (i k : Nat) : Int64 := if i = 243 then [10793230, 6224103356, 10819243, 2491444, 3497099, 316351, 9678763, 377761, 249, 399641, 107681, 332864552, 101525, 117630947, 43058, 10819228, 583, 12387257, 43996844, 158575].getD k 0 else 0
def s0 : HS := (s0I, s0L, fun k => if k = 0 then 30 else 43)
/-- the class's cells may have changed, the reference's haven't -/
def keepM (σ σ1 : HS) : Prop := ∀ k, 236 ≤ k → σ1.1 k = σ.1 k ∧ σ1.2.1 k = σ.2.1 k
theorem keepM.rf {σ : HS} : keepM σ σ := fun _ _ => ⟨rfl, rfl⟩
theorem keepM.tr {σ σ1 σ2 : HS} (h : keepM σ σ1) (h2 : keepM σ1 σ2) : keepM σ σ2 := fun k hk => ⟨(h2 k hk).1.trans (h k hk).1, (h2 k hk).2.trans (h k hk).2⟩
theorem keepM.I {σ σ1 : HS} {i k : Nat} {v : Int32} (h : keepM σ σ1) (hi : i < 236) : keepM σ (hI σ1 i k v) := fun q hq => ⟨(va_up_ne _ _ (show q ≠ i by omega)).trans (h q hq).1, (h q hq).2⟩
/-- only the cells in L may have changed -/
def only (L : List Nat) (σ σ1 : HS) : Prop := (∀ k, k ∉ L → σ1.1 k = σ.1 k) ∧ σ1.2 = σ.2
theorem only.rf {L : List Nat} {σ : HS} : only L σ σ := ⟨fun _ _ => rfl, rfl⟩
theorem only.tr {L : List Nat} {σ σ1 σ2 : HS} (h : only L σ σ1) (h2 : only L σ1 σ2) : only L σ σ2 := ⟨fun k hk => (h2.1 k hk).trans (h.1 k hk), h2.2.trans h.2⟩
theorem only.I {L : List Nat} {σ σ1 : HS} {i k : Nat} {v : Int32} (h : only L σ σ1) (hi : i ∈ L) : only L σ (hI σ1 i k v) := ⟨fun q hq => (va_up_ne _ _ (show q ≠ i from fun e => hq (by rw [e]; exact hi))).trans (h.1 q hq), h.2⟩
theorem only.mono {L L1 : List Nat} {σ σ1 : HS} (h : only L σ σ1) (hL : ∀ q, q ∈ L → q ∈ L1) : only L1 σ σ1 := ⟨fun q hq => h.1 q (fun e => hq (hL q e)), h.2⟩
theorem hI_s {σ : HS} {i k : Nat} {v : Int32} : (hI σ i k v).1 i k = v := by
  show va_up σ.1 i (upd (σ.1 i) k v) i k = v
  rw [va_up_self]
  exact pk_us
theorem hI_n {σ : HS} {i k j : Nat} {v : Int32} (h : j ≠ k) : (hI σ i k v).1 i j = σ.1 i j := by
  show va_up σ.1 i (upd (σ.1 i) k v) i j = σ.1 i j
  rw [va_up_self]
  exact pk_un h
theorem hI_o {σ : HS} {i k a : Nat} {v : Int32} (h : a ≠ i) : (hI σ i k v).1 a = σ.1 a := va_up_ne _ _ h

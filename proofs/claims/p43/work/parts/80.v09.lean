set_option maxHeartbeats 4000000 in
set_option maxRecDepth 100000 in
theorem Z_X12_cut {l : Launch} {D : va_G} {ids : List Nat} {ad : Nat → Nat} {ca : Nat → ClassId} {σ : HS} {s0 : HS} (hid : ∀ i, i < 277 → i ∈ ids) (h : f_X12_cut σ = some s0) : Kv l D ids ad ca yX12_cut cX12_cut 8 2 49 [.ref (ad 236)] σ (fun σ1 => σ1 = s0) := by
  obtain ⟨R, hR⟩ : ∃ R, s0 = R := ⟨_, rfl⟩
  replace h := h.trans (congrArg some hR)
  refine Kv.of (by decide) (Nat.le_of_ble_eq_true rfl) 7 (fun Γ C Rt => ?_)
  show AW ids ad ca Γ 0 [some (.ref (ad 236)), none, none, none, none, none, none, none] [] σ
  unfold f_X12_cut at h
  have j291 : ∀ (k7 : Int32 → HS → Option (HS)) (hk7 : ∀ (y1 : Int32) (σ : HS), k7 y1 σ = some R → AW ids ad ca Γ 7 [some (.ref (ad 236)), some (.int y1), none, none, none, none, none, none] [] σ) (y1 : Int32) (σ : HS), f_X12_cut_291 k7 y1 σ = some R → AW ids ad ca Γ 291 [some (.ref (ad 236)), some (.int y1), none, none, none, none, none, none] [] σ := by
    intro k7 hk7 y1 σ h
    unfold f_X12_cut_291 at h
    refine a_goto C dX12_cut_291 (tgt := 7) rfl ?_
    exact hk7 _ _ h
  have j67 : ∀ (k7 : Int32 → HS → Option (HS)) (hk7 : ∀ (y1 : Int32) (σ : HS), k7 y1 σ = some R → AW ids ad ca Γ 7 [some (.ref (ad 236)), some (.int y1), none, none, none, none, none, none] [] σ) (y1 : Int32) (σ : HS), f_X12_cut_67 k7 y1 σ = some R → AW ids ad ca Γ 67 [some (.ref (ad 236)), some (.int y1), none, none, none, none, none, none] [] σ := by
    intro k7 hk7 y1 σ h
    unfold f_X12_cut_67 at h
    refine p_iinc C (y := (y1 + 1)) (fun z1 => [some (.ref (ad 236)), some (.int z1), none, none, none, none, none, none]) dX12_cut_67 rfl rfl (by decide) rfl (fun _ => rfl) h (fun z1 h => ?_)
    refine a_goto C dX12_cut_70 (tgt := 291) rfl ?_
    exact j291 k7 hk7 _ _ h
  have j261 : ∀ (k7 : Int32 → HS → Option (HS)) (hk7 : ∀ (y1 : Int32) (σ : HS), k7 y1 σ = some R → AW ids ad ca Γ 7 [some (.ref (ad 236)), some (.int y1), none, none, none, none, none, none] [] σ) (y1 : Int32) (y3 : Int32) (y4 : Int32) (v0 : Int32) (σ : HS), f_X12_cut_261 k7 y1 y3 y4 v0 σ = some R → AW ids ad ca Γ 261 [some (.ref (ad 236)), some (.int y1), none, some (.int y3), some (.int y4), none, none, none] [.int v0, .ref (ad 236)] σ := by
    intro k7 hk7 y1 y3 y4 v0 σ h
    unfold f_X12_cut_261 at h
    refine a_iload_n C dX12_cut_261 (i := 1) rfl rfl ?_
    refine a_iload C dX12_cut_262 rfl ?_
    refine a_lconst C dX12_cut_264 (v := 0) rfl ?_
    refine p_callVv C (As := [.int v0, .int y1, .int y4, .long 0]) (i := 236) kd_236 (hid 236 (by decide)) ⟨_, _, rfl⟩ (by decide) h (fun _ e => Z_X12_token hid e) mi_X12_token ml_RX12_176 rfl rfl (Nat.le_of_ble_eq_true rfl) (Nat.le_of_ble_eq_true rfl) (Nat.le_of_ble_eq_true rfl) dX12_cut_265 (fun σ1 h => ?_)
    refine a_iload_n C dX12_cut_268 (i := 1) rfl rfl ?_
    refine a_iload_n C dX12_cut_269 (i := 3) rfl rfl ?_
    refine a_iadd C dX12_cut_270 ?_
    refine p_istore_n C (fun z3 => [some (.ref (ad 236)), some (.int z3), none, some (.int y3), some (.int y4), none, none, none]) dX12_cut_271 (i := 1) rfl (by decide) rfl (fun _ => rfl) h (fun z3 h => ?_)
    refine a_goto C dX12_cut_272 (tgt := 291) rfl ?_
    refine AW.sub (vs' := [some (.ref (ad 236)), some (.int z3), none, none, none, none, none, none]) (lsub_of (by simp [lsubB])) ?_
    exact j291 k7 hk7 _ _ h
  have j244 : ∀ (k7 : Int32 → HS → Option (HS)) (hk7 : ∀ (y1 : Int32) (σ : HS), k7 y1 σ = some R → AW ids ad ca Γ 7 [some (.ref (ad 236)), some (.int y1), none, none, none, none, none, none] [] σ) (k208 : Int32 → Int32 → Int32 → HS → Option (HS)) (hk208 : ∀ (y1 : Int32) (y3 : Int32) (y4 : Int32) (σ : HS), k208 y1 y3 y4 σ = some R → AW ids ad ca Γ 208 [some (.ref (ad 236)), some (.int y1), none, some (.int y3), some (.int y4), none, none, none] [] σ) (y1 : Int32) (y3 : Int32) (y4 : Int32) (σ : HS), f_X12_cut_244 k7 k208 y1 y3 y4 σ = some R → AW ids ad ca Γ 244 [some (.ref (ad 236)), some (.int y1), none, some (.int y3), some (.int y4), none, none, none] [] σ := by
    intro k7 hk7 k208 hk208 y1 y3 y4 σ h
    unfold f_X12_cut_244 at h
    refine p_iinc C (y := (y3 + 1)) (fun z1 => [some (.ref (ad 236)), some (.int y1), none, some (.int z1), some (.int y4), none, none, none]) dX12_cut_244 rfl rfl (by decide) rfl (fun _ => rfl) h (fun z1 h => ?_)
    refine a_goto C dX12_cut_247 (tgt := 208) rfl ?_
    exact hk208 _ _ _ _ h
  have j208 : ∀ (k7 : Int32 → HS → Option (HS)) (hk7 : ∀ (y1 : Int32) (σ : HS), k7 y1 σ = some R → AW ids ad ca Γ 7 [some (.ref (ad 236)), some (.int y1), none, none, none, none, none, none] [] σ) (n : Nat) (y1 : Int32) (y3 : Int32) (y4 : Int32) (σ : HS), f_X12_cut_208 k7 n y1 y3 y4 σ = some R → AW ids ad ca Γ 208 [some (.ref (ad 236)), some (.int y1), none, some (.int y3), some (.int y4), none, none, none] [] σ := by
    intro k7 hk7 n
    induction n with
    | zero => intro y1 y3 y4 σ h; exact nn h
    | succ n ih =>
      intro y1 y3 y4 σ h
      have h : b_X12_cut_208 k7 (f_X12_cut_208 k7 n) y1 y3 y4 σ = some R := h
      unfold b_X12_cut_208 at h
      refine a_aload_n C dX12_cut_208 (i := 0) rfl rfl ?_
      refine a_iload_n C dX12_cut_209 (i := 1) rfl rfl ?_
      refine a_iload_n C dX12_cut_210 (i := 3) rfl rfl ?_
      refine a_iadd C dX12_cut_211 ?_
      refine p_callVi C (As := [.int (y1 + y3)]) (i := 236) kd_236 (hid 236 (by decide)) ⟨_, _, rfl⟩ (by decide) h (fun _ _ e => Z_X12_byteAt hid e) mi_X12_byteAt ml_RX12_172 rfl rfl (Nat.le_of_ble_eq_true rfl) (Nat.le_of_ble_eq_true rfl) (Nat.le_of_ble_eq_true rfl) dX12_cut_212 (fun r2 σ1 h => ?_)
      refine p_callSi C (As := [.int r2]) h (fun _ _ e => Z_X12_isDigit hid e) ms_X12_isDigit ml_RX12_184 rfl rfl (Nat.le_of_ble_eq_true rfl) (Nat.le_of_ble_eq_true rfl) (Nat.le_of_ble_eq_true rfl) dX12_cut_215 (fun r4 σ3 h => ?_)
      refine p_if_eq C (X := r4.toInt) rfl dX12_cut_218 (tgt := 250) rfl h (fun h => ?_) (fun h => ?_)
      ·
        refine a_aload_n C dX12_cut_250 (i := 0) rfl rfl ?_
        refine a_iload_n C dX12_cut_251 (i := 3) rfl rfl ?_
        refine a_iconst C dX12_cut_252 (v := 4) rfl ?_
        refine p_ic_le C (X := y3.toInt) (Y := 4) rfl (by decide) dX12_cut_253 (tgt := 260) rfl h (fun h => ?_) (fun h => ?_)
        ·
          refine a_iconst C dX12_cut_260 (v := 2) rfl ?_
          exact j261 k7 hk7 _ _ _ _ _ h
        ·
          refine a_iconst C dX12_cut_256 (v := 3) rfl ?_
          refine a_goto C dX12_cut_257 (tgt := 261) rfl ?_
          exact j261 k7 hk7 _ _ _ _ _ h
      ·
        refine a_iload_n C dX12_cut_221 (i := 3) rfl rfl ?_
        refine a_iconst C dX12_cut_222 (v := 4) rfl ?_
        refine p_ic_ge C (X := y3.toInt) (Y := 4) rfl (by decide) dX12_cut_223 (tgt := 244) rfl h (fun h => ?_) (fun h => ?_)
        ·
          exact j244 k7 hk7 (f_X12_cut_208 k7 n) (fun y1 y3 y4 σ h => ih y1 y3 y4 σ h) _ _ _ _ h
        ·
          refine a_bipush C dX12_cut_226 (v := 10) rfl ?_
          refine a_iload C dX12_cut_228 rfl ?_
          refine a_imul C dX12_cut_230 ?_
          refine a_aload_n C dX12_cut_231 (i := 0) rfl rfl ?_
          refine a_iload_n C dX12_cut_232 (i := 1) rfl rfl ?_
          refine a_iload_n C dX12_cut_233 (i := 3) rfl rfl ?_
          refine a_iadd C dX12_cut_234 ?_
          refine p_callVi C (As := [.int (y1 + y3)]) (i := 236) kd_236 (hid 236 (by decide)) ⟨_, _, rfl⟩ (by decide) h (fun _ _ e => Z_X12_byteAt hid e) mi_X12_byteAt ml_RX12_172 rfl rfl (Nat.le_of_ble_eq_true rfl) (Nat.le_of_ble_eq_true rfl) (Nat.le_of_ble_eq_true rfl) dX12_cut_235 (fun r6 σ5 h => ?_)
          refine a_iadd C dX12_cut_238 ?_
          refine a_bipush C dX12_cut_239 (v := 48) rfl ?_
          refine a_isub C dX12_cut_241 ?_
          refine p_istore C (fun z7 => [some (.ref (ad 236)), some (.int y1), none, some (.int y3), some (.int z7), none, none, none]) dX12_cut_242 (by decide) rfl (fun _ => rfl) h (fun z7 h => ?_)
          exact j244 k7 hk7 (f_X12_cut_208 k7 n) (fun y1 y3 y4 σ h => ih y1 y3 y4 σ h) _ _ _ _ h
  have j179 : ∀ (k7 : Int32 → HS → Option (HS)) (hk7 : ∀ (y1 : Int32) (σ : HS), k7 y1 σ = some R → AW ids ad ca Γ 7 [some (.ref (ad 236)), some (.int y1), none, none, none, none, none, none] [] σ) (y1 : Int32) (y3 : Int32) (y4 : Int64) (y6 : Int32) (σ : HS), f_X12_cut_179 k7 y1 y3 y4 y6 σ = some R → AW ids ad ca Γ 179 [some (.ref (ad 236)), some (.int y1), none, some (.int y3), some (.long y4), none, some (.int y6), none] [] σ := by
    intro k7 hk7 y1 y3 y4 y6 σ h
    unfold f_X12_cut_179 at h
    refine a_aload_n C dX12_cut_179 (i := 0) rfl rfl ?_
    refine a_iload C dX12_cut_180 rfl ?_
    refine a_iload_n C dX12_cut_182 (i := 1) rfl rfl ?_
    refine a_iconst C dX12_cut_183 (v := 0) rfl ?_
    refine a_lload C dX12_cut_184 rfl ?_
    refine p_callVv C (As := [.int y6, .int y1, .int 0, .long y4]) (i := 236) kd_236 (hid 236 (by decide)) ⟨_, _, rfl⟩ (by decide) h (fun _ e => Z_X12_token hid e) mi_X12_token ml_RX12_176 rfl rfl (Nat.le_of_ble_eq_true rfl) (Nat.le_of_ble_eq_true rfl) (Nat.le_of_ble_eq_true rfl) dX12_cut_186 (fun σ1 h => ?_)
    refine a_iload_n C dX12_cut_189 (i := 1) rfl rfl ?_
    refine a_iload_n C dX12_cut_190 (i := 3) rfl rfl ?_
    refine a_iadd C dX12_cut_191 ?_
    refine p_istore_n C (fun z3 => [some (.ref (ad 236)), some (.int z3), none, some (.int y3), some (.long y4), none, some (.int y6), none]) dX12_cut_192 (i := 1) rfl (by decide) rfl (fun _ => rfl) h (fun z3 h => ?_)
    refine a_goto C dX12_cut_193 (tgt := 291) rfl ?_
    refine AW.sub (vs' := [some (.ref (ad 236)), some (.int z3), none, none, none, none, none, none]) (lsub_of (by simp [lsubB])) ?_
    exact j291 k7 hk7 _ _ h
  have j173 : ∀ (k7 : Int32 → HS → Option (HS)) (hk7 : ∀ (y1 : Int32) (σ : HS), k7 y1 σ = some R → AW ids ad ca Γ 7 [some (.ref (ad 236)), some (.int y1), none, none, none, none, none, none] [] σ) (k146 : Int32 → Int32 → Int64 → Int32 → Int32 → HS → Option (HS)) (hk146 : ∀ (y1 : Int32) (y3 : Int32) (y4 : Int64) (y6 : Int32) (y7 : Int32) (σ : HS), k146 y1 y3 y4 y6 y7 σ = some R → AW ids ad ca Γ 146 [some (.ref (ad 236)), some (.int y1), none, some (.int y3), some (.long y4), none, some (.int y6), some (.int y7)] [] σ) (y1 : Int32) (y3 : Int32) (y4 : Int64) (y6 : Int32) (y7 : Int32) (σ : HS), f_X12_cut_173 k7 k146 y1 y3 y4 y6 y7 σ = some R → AW ids ad ca Γ 173 [some (.ref (ad 236)), some (.int y1), none, some (.int y3), some (.long y4), none, some (.int y6), some (.int y7)] [] σ := by
    intro k7 hk7 k146 hk146 y1 y3 y4 y6 y7 σ h
    unfold f_X12_cut_173 at h
    refine p_iinc C (y := (y7 + 1)) (fun z1 => [some (.ref (ad 236)), some (.int y1), none, some (.int y3), some (.long y4), none, some (.int y6), some (.int z1)]) dX12_cut_173 rfl rfl (by decide) rfl (fun _ => rfl) h (fun z1 h => ?_)
    refine a_goto C dX12_cut_176 (tgt := 146) rfl ?_
    exact hk146 _ _ _ _ _ _ h
  have j146 : ∀ (k7 : Int32 → HS → Option (HS)) (hk7 : ∀ (y1 : Int32) (σ : HS), k7 y1 σ = some R → AW ids ad ca Γ 7 [some (.ref (ad 236)), some (.int y1), none, none, none, none, none, none] [] σ) (n : Nat) (y1 : Int32) (y3 : Int32) (y4 : Int64) (y6 : Int32) (y7 : Int32) (σ : HS), f_X12_cut_146 k7 n y1 y3 y4 y6 y7 σ = some R → AW ids ad ca Γ 146 [some (.ref (ad 236)), some (.int y1), none, some (.int y3), some (.long y4), none, some (.int y6), some (.int y7)] [] σ := by
    intro k7 hk7 n
    induction n with
    | zero => intro y1 y3 y4 y6 y7 σ h; exact nn h
    | succ n ih =>
      intro y1 y3 y4 y6 y7 σ h
      have h : b_X12_cut_146 k7 (f_X12_cut_146 k7 n) y1 y3 y4 y6 y7 σ = some R := h
      unfold b_X12_cut_146 at h
      refine a_iload C dX12_cut_146 rfl ?_
      refine a_bipush C dX12_cut_148 (v := 20) rfl ?_
      refine p_ic_ge C (X := y7.toInt) (Y := 20) rfl (by decide) dX12_cut_150 (tgt := 179) rfl h (fun h => ?_) (fun h => ?_)
      ·
        refine AW.sub (vs' := [some (.ref (ad 236)), some (.int y1), none, some (.int y3), some (.long y4), none, some (.int y6), none]) (lsub_of (by simp [lsubB])) ?_
        exact j179 k7 hk7 _ _ _ _ _ h
      ·
        refine a_aload_n C dX12_cut_153 (i := 0) rfl rfl ?_
        refine a_get C fl_RX12_34 (i := 236) kd_236 (hid 236 (by decide)) (v := .ref (ad 243)) rfl dX12_cut_154 ?_
        refine a_iload C dX12_cut_157 rfl ?_
        refine p_lald C (i := 243) kd_243 (hid 243 (by decide)) (by rw [al_243]; rfl) dX12_cut_159 h (fun h => ?_)
        refine a_lload C dX12_cut_160 rfl ?_
        refine a_lcmp C dX12_cut_162 ?_
        refine p_if_ne C (X := (lg_cmp (σ.2.1 243 y7.toInt.toNat) y4).toInt) rfl dX12_cut_163 (tgt := 173) rfl h (fun h => ?_) (fun h => ?_)
        ·
          exact j173 k7 hk7 (f_X12_cut_146 k7 n) (fun y1 y3 y4 y6 y7 σ h => ih y1 y3 y4 y6 y7 σ h) _ _ _ _ _ _ h
        ·
          refine a_bipush C dX12_cut_166 (v := 20) rfl ?_
          refine a_iload C dX12_cut_168 rfl ?_
          refine a_iadd C dX12_cut_170 ?_
          refine p_istore C (fun z1 => [some (.ref (ad 236)), some (.int y1), none, some (.int y3), some (.long y4), none, some (.int z1), some (.int y7)]) dX12_cut_171 (by decide) rfl (fun _ => rfl) h (fun z1 h => ?_)
          exact j173 k7 hk7 (f_X12_cut_146 k7 n) (fun y1 y3 y4 y6 y7 σ h => ih y1 y3 y4 y6 y7 σ h) _ _ _ _ _ _ h
  have j135 : ∀ (k7 : Int32 → HS → Option (HS)) (hk7 : ∀ (y1 : Int32) (σ : HS), k7 y1 σ = some R → AW ids ad ca Γ 7 [some (.ref (ad 236)), some (.int y1), none, none, none, none, none, none] [] σ) (y1 : Int32) (y3 : Int32) (y4 : Int64) (v0 : Int32) (σ : HS), f_X12_cut_135 k7 y1 y3 y4 v0 σ = some R → AW ids ad ca Γ 135 [some (.ref (ad 236)), some (.int y1), none, some (.int y3), some (.long y4), none, none, none] [.int v0] σ := by
    intro k7 hk7 y1 y3 y4 v0 σ h
    unfold f_X12_cut_135 at h
    refine a_istore C dX12_cut_135 (by decide) rfl (vs1 := [some (.ref (ad 236)), some (.int y1), none, some (.int y3), some (.long y4), none, some (.int v0), none]) rfl ?_
    refine a_iload_n C dX12_cut_137 (i := 3) rfl rfl ?_
    refine a_bipush C dX12_cut_138 (v := 8) rfl ?_
    refine p_ic_gt C (X := y3.toInt) (Y := 8) rfl (by decide) dX12_cut_140 (tgt := 179) rfl h (fun h => ?_) (fun h => ?_)
    ·
      exact j179 k7 hk7 _ _ _ _ _ h
    ·
      refine a_iconst C dX12_cut_143 (v := 0) rfl ?_
      refine a_istore C dX12_cut_144 (by decide) rfl (vs1 := [some (.ref (ad 236)), some (.int y1), none, some (.int y3), some (.long y4), none, some (.int v0), some (.int 0)]) rfl ?_
      exact j146 k7 hk7 _ _ _ _ _ _ _ h
  have j118 : ∀ (k7 : Int32 → HS → Option (HS)) (hk7 : ∀ (y1 : Int32) (σ : HS), k7 y1 σ = some R → AW ids ad ca Γ 7 [some (.ref (ad 236)), some (.int y1), none, none, none, none, none, none] [] σ) (k85 : Int32 → Int32 → Int64 → HS → Option (HS)) (hk85 : ∀ (y1 : Int32) (y3 : Int32) (y4 : Int64) (σ : HS), k85 y1 y3 y4 σ = some R → AW ids ad ca Γ 85 [some (.ref (ad 236)), some (.int y1), none, some (.int y3), some (.long y4), none, none, none] [] σ) (y1 : Int32) (y3 : Int32) (y4 : Int64) (σ : HS), f_X12_cut_118 k7 k85 y1 y3 y4 σ = some R → AW ids ad ca Γ 118 [some (.ref (ad 236)), some (.int y1), none, some (.int y3), some (.long y4), none, none, none] [] σ := by
    intro k7 hk7 k85 hk85 y1 y3 y4 σ h
    unfold f_X12_cut_118 at h
    refine p_iinc C (y := (y3 + 1)) (fun z1 => [some (.ref (ad 236)), some (.int y1), none, some (.int z1), some (.long y4), none, none, none]) dX12_cut_118 rfl rfl (by decide) rfl (fun _ => rfl) h (fun z1 h => ?_)
    refine a_goto C dX12_cut_121 (tgt := 85) rfl ?_
    exact hk85 _ _ _ _ h
  have j85 : ∀ (k7 : Int32 → HS → Option (HS)) (hk7 : ∀ (y1 : Int32) (σ : HS), k7 y1 σ = some R → AW ids ad ca Γ 7 [some (.ref (ad 236)), some (.int y1), none, none, none, none, none, none] [] σ) (n : Nat) (y1 : Int32) (y3 : Int32) (y4 : Int64) (σ : HS), f_X12_cut_85 k7 n y1 y3 y4 σ = some R → AW ids ad ca Γ 85 [some (.ref (ad 236)), some (.int y1), none, some (.int y3), some (.long y4), none, none, none] [] σ := by
    intro k7 hk7 n
    induction n with
    | zero => intro y1 y3 y4 σ h; exact nn h
    | succ n ih =>
      intro y1 y3 y4 σ h
      have h : b_X12_cut_85 k7 (f_X12_cut_85 k7 n) y1 y3 y4 σ = some R := h
      unfold b_X12_cut_85 at h
      refine a_aload_n C dX12_cut_85 (i := 0) rfl rfl ?_
      refine a_iload_n C dX12_cut_86 (i := 1) rfl rfl ?_
      refine a_iload_n C dX12_cut_87 (i := 3) rfl rfl ?_
      refine a_iadd C dX12_cut_88 ?_
      refine p_callVi C (As := [.int (y1 + y3)]) (i := 236) kd_236 (hid 236 (by decide)) ⟨_, _, rfl⟩ (by decide) h (fun _ _ e => Z_X12_byteAt hid e) mi_X12_byteAt ml_RX12_172 rfl rfl (Nat.le_of_ble_eq_true rfl) (Nat.le_of_ble_eq_true rfl) (Nat.le_of_ble_eq_true rfl) dX12_cut_89 (fun r2 σ1 h => ?_)
      refine p_callSi C (As := [.int r2]) h (fun _ _ e => Z_X12_isLetter hid e) ms_X12_isLetter ml_RX12_180 rfl rfl (Nat.le_of_ble_eq_true rfl) (Nat.le_of_ble_eq_true rfl) (Nat.le_of_ble_eq_true rfl) dX12_cut_92 (fun r4 σ3 h => ?_)
      refine p_if_eq C (X := r4.toInt) rfl dX12_cut_95 (tgt := 124) rfl h (fun h => ?_) (fun h => ?_)
      ·
        refine a_iload_n C dX12_cut_124 (i := 3) rfl rfl ?_
        refine a_bipush C dX12_cut_125 (v := 8) rfl ?_
        refine p_ic_le C (X := y3.toInt) (Y := 8) rfl (by decide) dX12_cut_127 (tgt := 134) rfl h (fun h => ?_) (fun h => ?_)
        ·
          refine a_iconst C dX12_cut_134 (v := 1) rfl ?_
          exact j135 k7 hk7 _ _ _ _ _ h
        ·
          refine a_iconst C dX12_cut_130 (v := 3) rfl ?_
          refine a_goto C dX12_cut_131 (tgt := 135) rfl ?_
          exact j135 k7 hk7 _ _ _ _ _ h
      ·
        refine a_iload_n C dX12_cut_98 (i := 3) rfl rfl ?_
        refine a_bipush C dX12_cut_99 (v := 8) rfl ?_
        refine p_ic_ge C (X := y3.toInt) (Y := 8) rfl (by decide) dX12_cut_101 (tgt := 118) rfl h (fun h => ?_) (fun h => ?_)
        ·
          exact j118 k7 hk7 (f_X12_cut_85 k7 n) (fun y1 y3 y4 σ h => ih y1 y3 y4 σ h) _ _ _ _ h
        ·
          refine a_lload C dX12_cut_104 rfl ?_
          refine a_aload_n C dX12_cut_106 (i := 0) rfl rfl ?_
          refine a_iload_n C dX12_cut_107 (i := 1) rfl rfl ?_
          refine a_iload_n C dX12_cut_108 (i := 3) rfl rfl ?_
          refine a_iadd C dX12_cut_109 ?_
          refine p_callVi C (As := [.int (y1 + y3)]) (i := 236) kd_236 (hid 236 (by decide)) ⟨_, _, rfl⟩ (by decide) h (fun _ _ e => Z_X12_byteAt hid e) mi_X12_byteAt ml_RX12_172 rfl rfl (Nat.le_of_ble_eq_true rfl) (Nat.le_of_ble_eq_true rfl) (Nat.le_of_ble_eq_true rfl) dX12_cut_110 (fun r6 σ5 h => ?_)
          refine p_callSl C (As := [.long y4, .int r6]) h (fun _ _ e => Z_X12_appends hid e) ms_X12_appends ml_RX12_165 rfl rfl (Nat.le_of_ble_eq_true rfl) (Nat.le_of_ble_eq_true rfl) (Nat.le_of_ble_eq_true rfl) dX12_cut_113 (fun r8 σ7 h => ?_)
          refine a_lstore C dX12_cut_116 (by decide) rfl (vs1 := [some (.ref (ad 236)), some (.int y1), none, some (.int y3), some (.long r8), none, none, none]) rfl ?_
          exact j118 k7 hk7 (f_X12_cut_85 k7 n) (fun y1 y3 y4 σ h => ih y1 y3 y4 σ h) _ _ _ _ h
  have j7 : ∀ (n : Nat) (y1 : Int32) (σ : HS), f_X12_cut_7 n y1 σ = some R → AW ids ad ca Γ 7 [some (.ref (ad 236)), some (.int y1), none, none, none, none, none, none] [] σ := by
    intro n
    induction n with
    | zero => intro y1 σ h; exact nn h
    | succ n ih =>
      intro y1 σ h
      have h : b_X12_cut_7 (f_X12_cut_7 n) y1 σ = some R := h
      unfold b_X12_cut_7 at h
      refine a_aload_n C dX12_cut_7 (i := 0) rfl rfl ?_
      refine a_get C fl_RX12_169 (i := 236) kd_236 (hid 236 (by decide)) (v := .int (σ.1 236 10)) rfl dX12_cut_8 ?_
      refine a_sipush C dX12_cut_11 (v := 400) rfl ?_
      refine p_ic_gt C (X := (σ.1 236 10).toInt) (Y := 400) rfl (by decide) dX12_cut_14 (tgt := 294) rfl h (fun h => ?_) (fun h => ?_)
      ·
        exact a_vret Rt dX12_cut_294 (retv_eq (h.trans (congrArg some hR.symm)))
      ·
        refine a_aload_n C dX12_cut_17 (i := 0) rfl rfl ?_
        refine a_iload_n C dX12_cut_18 (i := 1) rfl rfl ?_
        refine p_callVi C (As := [.int y1]) (i := 236) kd_236 (hid 236 (by decide)) ⟨_, _, rfl⟩ (by decide) h (fun _ _ e => Z_X12_byteAt hid e) mi_X12_byteAt ml_RX12_172 rfl rfl (Nat.le_of_ble_eq_true rfl) (Nat.le_of_ble_eq_true rfl) (Nat.le_of_ble_eq_true rfl) dX12_cut_19 (fun r2 σ1 h => ?_)
        refine a_istore_n C dX12_cut_22 (i := 2) rfl (by decide) rfl (vs1 := [some (.ref (ad 236)), some (.int y1), some (.int r2), none, none, none, none, none]) rfl ?_
        refine a_iload_n C dX12_cut_23 (i := 1) rfl rfl ?_
        refine a_aload_n C dX12_cut_24 (i := 0) rfl rfl ?_
        refine a_get C fl_RX12_160 (i := 236) kd_236 (hid 236 (by decide)) (v := .int (σ1.1 236 4)) rfl dX12_cut_25 ?_
        refine p_ic_lt C (X := y1.toInt) (Y := (σ1.1 236 4).toInt) rfl rfl dX12_cut_28 (tgt := 43) rfl h (fun h => ?_) (fun h => ?_)
        ·
          refine a_iload_n C dX12_cut_43 (i := 2) rfl rfl ?_
          refine a_bipush C dX12_cut_44 (v := 9) rfl ?_
          refine p_ic_eq C (X := r2.toInt) (Y := 9) rfl (by decide) dX12_cut_46 (tgt := 67) rfl h (fun h => ?_) (fun h => ?_)
          ·
            refine AW.sub (vs' := [some (.ref (ad 236)), some (.int y1), none, none, none, none, none, none]) (lsub_of (by simp [lsubB])) ?_
            exact j67 (f_X12_cut_7 n) (fun y1 σ h => ih y1 σ h) _ _ h
          ·
            refine a_iload_n C dX12_cut_49 (i := 2) rfl rfl ?_
            refine a_bipush C dX12_cut_50 (v := 10) rfl ?_
            refine p_ic_eq C (X := r2.toInt) (Y := 10) rfl (by decide) dX12_cut_52 (tgt := 67) rfl h (fun h => ?_) (fun h => ?_)
            ·
              refine AW.sub (vs' := [some (.ref (ad 236)), some (.int y1), none, none, none, none, none, none]) (lsub_of (by simp [lsubB])) ?_
              exact j67 (f_X12_cut_7 n) (fun y1 σ h => ih y1 σ h) _ _ h
            ·
              refine a_iload_n C dX12_cut_55 (i := 2) rfl rfl ?_
              refine a_bipush C dX12_cut_56 (v := 13) rfl ?_
              refine p_ic_eq C (X := r2.toInt) (Y := 13) rfl (by decide) dX12_cut_58 (tgt := 67) rfl h (fun h => ?_) (fun h => ?_)
              ·
                refine AW.sub (vs' := [some (.ref (ad 236)), some (.int y1), none, none, none, none, none, none]) (lsub_of (by simp [lsubB])) ?_
                exact j67 (f_X12_cut_7 n) (fun y1 σ h => ih y1 σ h) _ _ h
              ·
                refine a_iload_n C dX12_cut_61 (i := 2) rfl rfl ?_
                refine a_bipush C dX12_cut_62 (v := 32) rfl ?_
                refine p_ic_ne C (X := r2.toInt) (Y := 32) rfl (by decide) dX12_cut_64 (tgt := 73) rfl h (fun h => ?_) (fun h => ?_)
                ·
                  refine a_iload_n C dX12_cut_73 (i := 2) rfl rfl ?_
                  refine p_callSi C (As := [.int r2]) h (fun _ _ e => Z_X12_isLetter hid e) ms_X12_isLetter ml_RX12_180 rfl rfl (Nat.le_of_ble_eq_true rfl) (Nat.le_of_ble_eq_true rfl) (Nat.le_of_ble_eq_true rfl) dX12_cut_74 (fun r4 σ3 h => ?_)
                  refine p_if_eq C (X := r4.toInt) rfl dX12_cut_77 (tgt := 196) rfl h (fun h => ?_) (fun h => ?_)
                  ·
                    refine a_iload_n C dX12_cut_196 (i := 2) rfl rfl ?_
                    refine p_callSi C (As := [.int r2]) h (fun _ _ e => Z_X12_isDigit hid e) ms_X12_isDigit ml_RX12_184 rfl rfl (Nat.le_of_ble_eq_true rfl) (Nat.le_of_ble_eq_true rfl) (Nat.le_of_ble_eq_true rfl) dX12_cut_197 (fun r6 σ5 h => ?_)
                    refine p_if_eq C (X := r6.toInt) rfl dX12_cut_200 (tgt := 275) rfl h (fun h => ?_) (fun h => ?_)
                    ·
                      refine a_iload_n C dX12_cut_275 (i := 1) rfl rfl ?_
                      refine a_aload_n C dX12_cut_276 (i := 0) rfl rfl ?_
                      refine a_iload_n C dX12_cut_277 (i := 1) rfl rfl ?_
                      refine a_iload_n C dX12_cut_278 (i := 2) rfl rfl ?_
                      refine a_aload_n C dX12_cut_279 (i := 0) rfl rfl ?_
                      refine a_iload_n C dX12_cut_280 (i := 1) rfl rfl ?_
                      refine a_iconst C dX12_cut_281 (v := 1) rfl ?_
                      refine a_iadd C dX12_cut_282 ?_
                      refine p_callVi C (As := [.int (y1 + (1 : Int32))]) (i := 236) kd_236 (hid 236 (by decide)) ⟨_, _, rfl⟩ (by decide) h (fun _ _ e => Z_X12_byteAt hid e) mi_X12_byteAt ml_RX12_172 rfl rfl (Nat.le_of_ble_eq_true rfl) (Nat.le_of_ble_eq_true rfl) (Nat.le_of_ble_eq_true rfl) dX12_cut_283 (fun r8 σ7 h => ?_)
                      refine p_callVi C (As := [.int y1, .int r2, .int r8]) (i := 236) kd_236 (hid 236 (by decide)) ⟨_, _, rfl⟩ (by decide) h (fun _ _ e => Z_X12_sign hid e) mi_X12_sign ml_RX12_187 rfl rfl (Nat.le_of_ble_eq_true rfl) (Nat.le_of_ble_eq_true rfl) (Nat.le_of_ble_eq_true rfl) dX12_cut_286 (fun r10 σ9 h => ?_)
                      refine a_iadd C dX12_cut_289 ?_
                      refine p_istore_n C (fun z11 => [some (.ref (ad 236)), some (.int z11), some (.int r2), none, none, none, none, none]) dX12_cut_290 (i := 1) rfl (by decide) rfl (fun _ => rfl) h (fun z11 h => ?_)
                      refine AW.sub (vs' := [some (.ref (ad 236)), some (.int z11), none, none, none, none, none, none]) (lsub_of (by simp [lsubB])) ?_
                      exact j291 (f_X12_cut_7 n) (fun y1 σ h => ih y1 σ h) _ _ h
                    ·
                      refine a_iconst C dX12_cut_203 (v := 0) rfl ?_
                      refine a_istore_n C dX12_cut_204 (i := 3) rfl (by decide) rfl (vs1 := [some (.ref (ad 236)), some (.int y1), some (.int r2), some (.int 0), none, none, none, none]) rfl ?_
                      refine a_iconst C dX12_cut_205 (v := 0) rfl ?_
                      refine a_istore C dX12_cut_206 (by decide) rfl (vs1 := [some (.ref (ad 236)), some (.int y1), some (.int r2), some (.int 0), some (.int 0), none, none, none]) rfl ?_
                      refine AW.sub (vs' := [some (.ref (ad 236)), some (.int y1), none, some (.int 0), some (.int 0), none, none, none]) (lsub_of (by simp [lsubB])) ?_
                      exact j208 (f_X12_cut_7 n) (fun y1 σ h => ih y1 σ h) _ _ _ _ _ h
                  ·
                    refine a_iconst C dX12_cut_80 (v := 0) rfl ?_
                    refine a_istore_n C dX12_cut_81 (i := 3) rfl (by decide) rfl (vs1 := [some (.ref (ad 236)), some (.int y1), some (.int r2), some (.int 0), none, none, none, none]) rfl ?_
                    refine a_lconst C dX12_cut_82 (v := 0) rfl ?_
                    refine a_lstore C dX12_cut_83 (by decide) rfl (vs1 := [some (.ref (ad 236)), some (.int y1), some (.int r2), some (.int 0), some (.long 0), none, none, none]) rfl ?_
                    refine AW.sub (vs' := [some (.ref (ad 236)), some (.int y1), none, some (.int 0), some (.long 0), none, none, none]) (lsub_of (by simp [lsubB])) ?_
                    exact j85 (f_X12_cut_7 n) (fun y1 σ h => ih y1 σ h) _ _ _ _ _ h
                ·
                  refine AW.sub (vs' := [some (.ref (ad 236)), some (.int y1), none, none, none, none, none, none]) (lsub_of (by simp [lsubB])) ?_
                  exact j67 (f_X12_cut_7 n) (fun y1 σ h => ih y1 σ h) _ _ h
        ·
          refine a_aload_n C dX12_cut_31 (i := 0) rfl rfl ?_
          refine a_iconst C dX12_cut_32 (v := 0) rfl ?_
          refine a_aload_n C dX12_cut_33 (i := 0) rfl rfl ?_
          refine a_get C fl_RX12_160 (i := 236) kd_236 (hid 236 (by decide)) (v := .int (σ1.1 236 4)) rfl dX12_cut_34 ?_
          refine a_iconst C dX12_cut_37 (v := 0) rfl ?_
          refine a_lconst C dX12_cut_38 (v := 0) rfl ?_
          refine p_callVv C (As := [.int 0, .int (σ1.1 236 4), .int 0, .long 0]) (i := 236) kd_236 (hid 236 (by decide)) ⟨_, _, rfl⟩ (by decide) h (fun _ e => Z_X12_token hid e) mi_X12_token ml_RX12_176 rfl rfl (Nat.le_of_ble_eq_true rfl) (Nat.le_of_ble_eq_true rfl) (Nat.le_of_ble_eq_true rfl) dX12_cut_39 (fun σ12 h => ?_)
          exact a_vret Rt dX12_cut_42 (retv_eq (h.trans (congrArg some hR.symm)))
  refine a_aload_n C dX12_cut_0 (i := 0) rfl rfl ?_
  refine a_iconst C dX12_cut_1 (v := 0) rfl ?_
  refine p_put C fp_RX12_169 (i := 236) kd_236 (hid 236 (by decide)) rfl rfl dX12_cut_2 h (fun σ1 h => ?_)
  refine a_iconst C dX12_cut_5 (v := 0) rfl ?_
  refine a_istore_n C dX12_cut_6 (i := 1) rfl (by decide) rfl (vs1 := [some (.ref (ad 236)), some (.int 0), none, none, none, none, none, none]) rfl ?_
  exact j7 _ _ _ h
set_option maxHeartbeats 4000000 in
set_option maxRecDepth 100000 in
theorem Z_X12_is {l : Launch} {D : va_G} {ids : List Nat} {ad : Nat → Nat} {ca : Nat → ClassId} {σ : HS} {x1 : Int32} {r0 : Int32} {s0 : HS} (hid : ∀ i, i < 277 → i ∈ ids) (h : f_X12_is x1 σ = some (r0, s0)) : Ki l D ids ad ca yX12_is cX12_is 2 .boolean 0 0 [.ref (ad 236), .int x1] σ (fun r σ1 => r = r0 ∧ σ1 = s0) := by
  obtain ⟨R, hR⟩ : ∃ R, (r0, s0) = R := ⟨_, rfl⟩
  replace h := h.trans (congrArg some hR)
  refine Ki.of (by decide) (Nat.le_of_ble_eq_true rfl) 0 (fun Γ C Rt => ?_)
  show AW ids ad ca Γ 0 [some (.ref (ad 236)), some (.int x1)] [] σ
  unfold f_X12_is at h
  refine a_aload_n C dX12_is_0 (i := 0) rfl rfl ?_
  refine a_get C fl_RX12_191 (i := 236) kd_236 (hid 236 (by decide)) (v := .int (σ.1 236 13)) rfl dX12_is_1 ?_
  refine p_if_ne C (X := (σ.1 236 13).toInt) rfl dX12_is_4 (tgt := 24) rfl h (fun h => ?_) (fun h => ?_)
  ·
    refine a_iconst C dX12_is_24 (v := 0) rfl ?_
    exact a_iret Rt dX12_is_25 (nar_z (by decide)).1 (ret_eq (h.trans (congrArg some hR.symm)))
  ·
    refine a_aload_n C dX12_is_7 (i := 0) rfl rfl ?_
    refine a_get C fl_RX12_20 (i := 236) kd_236 (hid 236 (by decide)) (v := .ref (ad 239)) rfl dX12_is_8 ?_
    refine a_aload_n C dX12_is_11 (i := 0) rfl rfl ?_
    refine a_get C fl_RX12_194 (i := 236) kd_236 (hid 236 (by decide)) (v := .int (σ.1 236 11)) rfl dX12_is_12 ?_
    refine p_iald C (i := 239) (show rowOK 239 from ⟨kd_239, by decide⟩) hid (by rw [al_239]; rfl) dX12_is_15 h (fun h => ?_)
    refine a_iload_n C dX12_is_16 (i := 1) rfl rfl ?_
    refine p_ic_ne C (X := (σ.1 239 (σ.1 236 11).toInt.toNat).toInt) (Y := x1.toInt) rfl rfl dX12_is_17 (tgt := 24) rfl h (fun h => ?_) (fun h => ?_)
    ·
      refine a_iconst C dX12_is_24 (v := 0) rfl ?_
      exact a_iret Rt dX12_is_25 (nar_z (by decide)).1 (ret_eq (h.trans (congrArg some hR.symm)))
    ·
      refine a_iconst C dX12_is_20 (v := 1) rfl ?_
      refine a_goto C dX12_is_21 (tgt := 25) rfl ?_
      exact a_iret Rt dX12_is_25 (nar_z (by decide)).1 (ret_eq (h.trans (congrArg some hR.symm)))
set_option maxHeartbeats 4000000 in
set_option maxRecDepth 100000 in
theorem Z_X12_fail {l : Launch} {D : va_G} {ids : List Nat} {ad : Nat → Nat} {ca : Nat → ClassId} {σ : HS} {x1 : Int32} {s0 : HS} (hid : ∀ i, i < 277 → i ∈ ids) (h : f_X12_fail x1 σ = some s0) : Kv l D ids ad ca yX12_fail cX12_fail 2 0 0 [.ref (ad 236), .int x1] σ (fun σ1 => σ1 = s0) := by
  obtain ⟨R, hR⟩ : ∃ R, s0 = R := ⟨_, rfl⟩
  replace h := h.trans (congrArg some hR)
  refine Kv.of (by decide) (Nat.le_of_ble_eq_true rfl) 0 (fun Γ C Rt => ?_)
  show AW ids ad ca Γ 0 [some (.ref (ad 236)), some (.int x1)] [] σ
  unfold f_X12_fail at h
  refine a_aload_n C dX12_fail_0 (i := 0) rfl rfl ?_
  refine a_get C fl_RX12_191 (i := 236) kd_236 (hid 236 (by decide)) (v := .int (σ.1 236 13)) rfl dX12_fail_1 ?_
  refine p_if_le C (X := (σ.1 236 13).toInt) rfl dX12_fail_4 (tgt := 8) rfl h (fun h => ?_) (fun h => ?_)
  ·
    refine a_aload_n C dX12_fail_8 (i := 0) rfl rfl ?_
    refine a_iload_n C dX12_fail_9 (i := 1) rfl rfl ?_
    refine p_put C fp_RX12_191 (i := 236) kd_236 (hid 236 (by decide)) rfl rfl dX12_fail_10 h (fun σ1 h => ?_)
    refine a_aload_n C dX12_fail_13 (i := 0) rfl rfl ?_
    refine a_aload_n C dX12_fail_14 (i := 0) rfl rfl ?_
    refine a_get C fl_RX12_24 (i := 236) kd_236 (hid 236 (by decide)) (v := .ref (ad 240)) rfl dX12_fail_15 ?_
    refine a_aload_n C dX12_fail_18 (i := 0) rfl rfl ?_
    refine a_get C fl_RX12_194 (i := 236) kd_236 (hid 236 (by decide)) (v := .int (σ1.1 236 11)) rfl dX12_fail_19 ?_
    refine p_iald C (i := 240) (show rowOK 240 from ⟨kd_240, by decide⟩) hid (by rw [al_240]; rfl) dX12_fail_22 h (fun h => ?_)
    refine p_put C fp_RX12_197 (i := 236) kd_236 (hid 236 (by decide)) rfl rfl dX12_fail_23 h (fun σ2 h => ?_)
    exact a_vret Rt dX12_fail_26 (retv_eq (h.trans (congrArg some hR.symm)))
  ·
    exact a_vret Rt dX12_fail_7 (retv_eq (h.trans (congrArg some hR.symm)))
set_option maxHeartbeats 4000000 in
set_option maxRecDepth 100000 in
theorem Z_X12_wrong {l : Launch} {D : va_G} {ids : List Nat} {ad : Nat → Nat} {ca : Nat → ClassId} {σ : HS} {x1 : Int32} {x2 : Int32} {s0 : HS} (hid : ∀ i, i < 277 → i ∈ ids) (h : f_X12_wrong x1 x2 σ = some s0) : Kv l D ids ad ca yX12_wrong cX12_wrong 4 0 0 [.ref (ad 236), .int x1, .int x2] σ (fun σ1 => σ1 = s0) := by
  obtain ⟨R, hR⟩ : ∃ R, s0 = R := ⟨_, rfl⟩
  replace h := h.trans (congrArg some hR)
  refine Kv.of (by decide) (Nat.le_of_ble_eq_true rfl) 1 (fun Γ C Rt => ?_)
  show AW ids ad ca Γ 0 [some (.ref (ad 236)), some (.int x1), some (.int x2), none] [] σ
  unfold f_X12_wrong at h
  have j46 : ∀ (y1 : Int32) (y3 : Int32) (σ : HS), f_X12_wrong_46 y1 y3 σ = some R → AW ids ad ca Γ 46 [some (.ref (ad 236)), some (.int y1), none, some (.int y3)] [] σ := by
    intro y1 y3 σ h
    unfold f_X12_wrong_46 at h
    refine a_aload_n C dX12_wrong_46 (i := 0) rfl rfl ?_
    refine a_iload_n C dX12_wrong_47 (i := 1) rfl rfl ?_
    refine p_put C fp_RX12_200 (i := 236) kd_236 (hid 236 (by decide)) rfl rfl dX12_wrong_48 h (fun σ1 h => ?_)
    refine a_aload_n C dX12_wrong_51 (i := 0) rfl rfl ?_
    refine a_iload_n C dX12_wrong_52 (i := 3) rfl rfl ?_
    refine p_put C fp_RX12_203 (i := 236) kd_236 (hid 236 (by decide)) rfl rfl dX12_wrong_53 h (fun σ2 h => ?_)
    exact a_vret Rt dX12_wrong_56 (retv_eq (h.trans (congrArg some hR.symm)))
  refine a_aload_n C dX12_wrong_0 (i := 0) rfl rfl ?_
  refine a_get C fl_RX12_24 (i := 236) kd_236 (hid 236 (by decide)) (v := .ref (ad 240)) rfl dX12_wrong_1 ?_
  refine a_iload_n C dX12_wrong_4 (i := 2) rfl rfl ?_
  refine p_iald C (i := 240) (show rowOK 240 from ⟨kd_240, by decide⟩) hid (by rw [al_240]; rfl) dX12_wrong_5 h (fun h => ?_)
  refine p_istore_n C (fun z1 => [some (.ref (ad 236)), some (.int x1), some (.int x2), some (.int z1)]) dX12_wrong_6 (i := 3) rfl (by decide) rfl (fun _ => rfl) h (fun z1 h => ?_)
  refine a_aload_n C dX12_wrong_7 (i := 0) rfl rfl ?_
  refine a_get C fl_RX12_191 (i := 236) kd_236 (hid 236 (by decide)) (v := .int (σ.1 236 13)) rfl dX12_wrong_8 ?_
  refine p_if_gt C (X := (σ.1 236 13).toInt) rfl dX12_wrong_11 (tgt := 45) rfl h (fun h => ?_) (fun h => ?_)
  ·
    exact a_vret Rt dX12_wrong_45 (retv_eq (h.trans (congrArg some hR.symm)))
  ·
    refine a_aload_n C dX12_wrong_14 (i := 0) rfl rfl ?_
    refine a_get C fl_RX12_200 (i := 236) kd_236 (hid 236 (by decide)) (v := .int (σ.1 236 15)) rfl dX12_wrong_15 ?_
    refine p_if_eq C (X := (σ.1 236 15).toInt) rfl dX12_wrong_18 (tgt := 46) rfl h (fun h => ?_) (fun h => ?_)
    ·
      refine AW.sub (vs' := [some (.ref (ad 236)), some (.int x1), none, some (.int z1)]) (lsub_of (by simp [lsubB])) ?_
      exact j46 _ _ _ h
    ·
      refine a_iload_n C dX12_wrong_21 (i := 3) rfl rfl ?_
      refine a_aload_n C dX12_wrong_22 (i := 0) rfl rfl ?_
      refine a_get C fl_RX12_203 (i := 236) kd_236 (hid 236 (by decide)) (v := .int (σ.1 236 16)) rfl dX12_wrong_23 ?_
      refine p_ic_gt C (X := z1.toInt) (Y := (σ.1 236 16).toInt) rfl rfl dX12_wrong_26 (tgt := 45) rfl h (fun h => ?_) (fun h => ?_)
      ·
        exact a_vret Rt dX12_wrong_45 (retv_eq (h.trans (congrArg some hR.symm)))
      ·
        refine a_iload_n C dX12_wrong_29 (i := 3) rfl rfl ?_
        refine a_aload_n C dX12_wrong_30 (i := 0) rfl rfl ?_
        refine a_get C fl_RX12_203 (i := 236) kd_236 (hid 236 (by decide)) (v := .int (σ.1 236 16)) rfl dX12_wrong_31 ?_
        refine p_ic_ne C (X := z1.toInt) (Y := (σ.1 236 16).toInt) rfl rfl dX12_wrong_34 (tgt := 46) rfl h (fun h => ?_) (fun h => ?_)
        ·
          refine AW.sub (vs' := [some (.ref (ad 236)), some (.int x1), none, some (.int z1)]) (lsub_of (by simp [lsubB])) ?_
          exact j46 _ _ _ h
        ·
          refine a_iload_n C dX12_wrong_37 (i := 1) rfl rfl ?_
          refine a_aload_n C dX12_wrong_38 (i := 0) rfl rfl ?_
          refine a_get C fl_RX12_200 (i := 236) kd_236 (hid 236 (by decide)) (v := .int (σ.1 236 15)) rfl dX12_wrong_39 ?_
          refine p_ic_lt C (X := x1.toInt) (Y := (σ.1 236 15).toInt) rfl rfl dX12_wrong_42 (tgt := 46) rfl h (fun h => ?_) (fun h => ?_)
          ·
            refine AW.sub (vs' := [some (.ref (ad 236)), some (.int x1), none, some (.int z1)]) (lsub_of (by simp [lsubB])) ?_
            exact j46 _ _ _ h
          ·
            exact a_vret Rt dX12_wrong_45 (retv_eq (h.trans (congrArg some hR.symm)))
set_option maxHeartbeats 4000000 in
set_option maxRecDepth 100000 in
theorem Z_X12_goesOn {l : Launch} {D : va_G} {ids : List Nat} {ad : Nat → Nat} {ca : Nat → ClassId} {σ : HS} {s0 : HS} (hid : ∀ i, i < 277 → i ∈ ids) (h : f_X12_goesOn σ = some s0) : Kv l D ids ad ca yX12_goesOn cX12_goesOn 1 1 21 [.ref (ad 236)] σ (fun σ1 => σ1 = s0) := by
  obtain ⟨R, hR⟩ : ∃ R, s0 = R := ⟨_, rfl⟩
  replace h := h.trans (congrArg some hR)
  refine Kv.of (by decide) (Nat.le_of_ble_eq_true rfl) 0 (fun Γ C Rt => ?_)
  show AW ids ad ca Γ 0 [some (.ref (ad 236))] [] σ
  unfold f_X12_goesOn at h
  refine a_aload_n C dX12_goesOn_0 (i := 0) rfl rfl ?_
  refine a_get C fl_RX12_194 (i := 236) kd_236 (hid 236 (by decide)) (v := .int (σ.1 236 11)) rfl dX12_goesOn_1 ?_
  refine a_sipush C dX12_goesOn_4 (v := 400) rfl ?_
  refine p_ic_ne C (X := (σ.1 236 11).toInt) (Y := 400) rfl (by decide) dX12_goesOn_7 (tgt := 18) rfl h (fun h => ?_) (fun h => ?_)
  ·
    refine a_aload_n C dX12_goesOn_18 (i := 0) rfl rfl ?_
    refine a_dup C dX12_goesOn_19 rfl ?_
    refine a_get C fl_RX12_194 (i := 236) kd_236 (hid 236 (by decide)) (v := .int (σ.1 236 11)) rfl dX12_goesOn_20 ?_
    refine a_iconst C dX12_goesOn_23 (v := 1) rfl ?_
    refine a_iadd C dX12_goesOn_24 ?_
    refine p_put C fp_RX12_194 (i := 236) kd_236 (hid 236 (by decide)) rfl rfl dX12_goesOn_25 h (fun σ1 h => ?_)
    exact a_vret Rt dX12_goesOn_28 (retv_eq (h.trans (congrArg some hR.symm)))
  ·
    refine a_aload_n C dX12_goesOn_10 (i := 0) rfl rfl ?_
    refine a_iconst C dX12_goesOn_11 (v := 2) rfl ?_
    refine p_callVv C (As := [.int 2]) (i := 236) kd_236 (hid 236 (by decide)) ⟨_, _, rfl⟩ (by decide) h (fun _ e => Z_X12_fail hid e) mi_X12_fail ml_RX12_206 rfl rfl (Nat.le_of_ble_eq_true rfl) (Nat.le_of_ble_eq_true rfl) (Nat.le_of_ble_eq_true rfl) dX12_goesOn_12 (fun σ2 h => ?_)
    refine a_goto C dX12_goesOn_15 (tgt := 28) rfl ?_
    exact a_vret Rt dX12_goesOn_28 (retv_eq (h.trans (congrArg some hR.symm)))
set_option maxHeartbeats 4000000 in
set_option maxRecDepth 100000 in
theorem Z_X12_must {l : Launch} {D : va_G} {ids : List Nat} {ad : Nat → Nat} {ca : Nat → ClassId} {σ : HS} {x1 : Int32} {s0 : HS} (hid : ∀ i, i < 277 → i ∈ ids) (h : f_X12_must x1 σ = some s0) : Kv l D ids ad ca yX12_must cX12_must 2 2 41 [.ref (ad 236), .int x1] σ (fun σ1 => σ1 = s0) := by
  obtain ⟨R, hR⟩ : ∃ R, s0 = R := ⟨_, rfl⟩
  replace h := h.trans (congrArg some hR)
  refine Kv.of (by decide) (Nat.le_of_ble_eq_true rfl) 0 (fun Γ C Rt => ?_)
  show AW ids ad ca Γ 0 [some (.ref (ad 236)), some (.int x1)] [] σ
  unfold f_X12_must at h
  refine a_aload_n C dX12_must_0 (i := 0) rfl rfl ?_
  refine a_iload_n C dX12_must_1 (i := 1) rfl rfl ?_
  refine p_callVi C (As := [.int x1]) (i := 236) kd_236 (hid 236 (by decide)) ⟨_, _, rfl⟩ (by decide) h (fun _ _ e => Z_X12_is hid e) mi_X12_is ml_RX12_209 rfl rfl (Nat.le_of_ble_eq_true rfl) (Nat.le_of_ble_eq_true rfl) (Nat.le_of_ble_eq_true rfl) dX12_must_2 (fun r2 σ1 h => ?_)
  refine p_if_eq C (X := r2.toInt) rfl dX12_must_5 (tgt := 15) rfl h (fun h => ?_) (fun h => ?_)
  ·
    refine a_aload_n C dX12_must_15 (i := 0) rfl rfl ?_
    refine a_iconst C dX12_must_16 (v := 1) rfl ?_
    refine p_callVv C (As := [.int 1]) (i := 236) kd_236 (hid 236 (by decide)) ⟨_, _, rfl⟩ (by decide) h (fun _ e => Z_X12_fail hid e) mi_X12_fail ml_RX12_206 rfl rfl (Nat.le_of_ble_eq_true rfl) (Nat.le_of_ble_eq_true rfl) (Nat.le_of_ble_eq_true rfl) dX12_must_17 (fun σ3 h => ?_)
    exact a_vret Rt dX12_must_20 (retv_eq (h.trans (congrArg some hR.symm)))
  ·
    refine a_aload_n C dX12_must_8 (i := 0) rfl rfl ?_
    refine p_callVv C (As := []) (i := 236) kd_236 (hid 236 (by decide)) ⟨_, _, rfl⟩ (by decide) h (fun _ e => Z_X12_goesOn hid e) mi_X12_goesOn ml_RX12_212 rfl rfl (Nat.le_of_ble_eq_true rfl) (Nat.le_of_ble_eq_true rfl) (Nat.le_of_ble_eq_true rfl) dX12_must_9 (fun σ5 h => ?_)
    refine a_goto C dX12_must_12 (tgt := 20) rfl ?_
    exact a_vret Rt dX12_must_20 (retv_eq (h.trans (congrArg some hR.symm)))
set_option maxHeartbeats 4000000 in
set_option maxRecDepth 100000 in
theorem Z_X12_plain {l : Launch} {D : va_G} {ids : List Nat} {ad : Nat → Nat} {ca : Nat → ClassId} {σ : HS} {x1 : Int32} {s0 : HS} (hid : ∀ i, i < 277 → i ∈ ids) (h : f_X12_plain x1 σ = some s0) : Kv l D ids ad ca yX12_plain cX12_plain 3 0 0 [.ref (ad 236), .int x1] σ (fun σ1 => σ1 = s0) := by
  obtain ⟨R, hR⟩ : ∃ R, s0 = R := ⟨_, rfl⟩
  replace h := h.trans (congrArg some hR)
  refine Kv.of (by decide) (Nat.le_of_ble_eq_true rfl) 1 (fun Γ C Rt => ?_)
  show AW ids ad ca Γ 0 [some (.ref (ad 236)), some (.int x1), none] [] σ
  unfold f_X12_plain at h
  have j30 : ∀ (n : Nat) (y1 : Int32) (y2 : Int32) (σ : HS), f_X12_plain_30 n y1 y2 σ = some R → AW ids ad ca Γ 30 [some (.ref (ad 236)), some (.int y1), some (.int y2)] [] σ := by
    intro n
    induction n with
    | zero => intro y1 y2 σ h; exact nn h
    | succ n ih =>
      intro y1 y2 σ h
      have h : b_X12_plain_30 (f_X12_plain_30 n) y1 y2 σ = some R := h
      unfold b_X12_plain_30 at h
      refine a_iload_n C dX12_plain_30 (i := 2) rfl rfl ?_
      refine a_iconst C dX12_plain_31 (v := 4) rfl ?_
      refine p_ic_ge C (X := y2.toInt) (Y := 4) rfl (by decide) dX12_plain_32 (tgt := 63) rfl h (fun h => ?_) (fun h => ?_)
      ·
        exact a_vret Rt dX12_plain_63 (retv_eq (h.trans (congrArg some hR.symm)))
      ·
        refine a_aload_n C dX12_plain_35 (i := 0) rfl rfl ?_
        refine a_get C fl_RX12_70 (i := 236) kd_236 (hid 236 (by decide)) (v := .ref (ad 254)) rfl dX12_plain_36 ?_
        refine a_iconst C dX12_plain_39 (v := 4) rfl ?_
        refine a_iload_n C dX12_plain_40 (i := 1) rfl rfl ?_
        refine a_imul C dX12_plain_41 ?_
        refine a_iload_n C dX12_plain_42 (i := 2) rfl rfl ?_
        refine a_iadd C dX12_plain_43 ?_
        refine a_iconst C dX12_plain_44 (v := 0) rfl ?_
        refine p_iast C (i := 254) (show rowOK 254 from ⟨kd_254, by decide⟩) hid (by rw [al_254]; rfl) dX12_plain_45 h (fun σ1 h => ?_)
        refine a_aload_n C dX12_plain_46 (i := 0) rfl rfl ?_
        refine a_get C fl_RX12_73 (i := 236) kd_236 (hid 236 (by decide)) (v := .ref (ad 255)) rfl dX12_plain_47 ?_
        refine a_iconst C dX12_plain_50 (v := 4) rfl ?_
        refine a_iload_n C dX12_plain_51 (i := 1) rfl rfl ?_
        refine a_imul C dX12_plain_52 ?_
        refine a_iload_n C dX12_plain_53 (i := 2) rfl rfl ?_
        refine a_iadd C dX12_plain_54 ?_
        refine a_iconst C dX12_plain_55 (v := 0) rfl ?_
        refine p_iast C (i := 255) (show rowOK 255 from ⟨kd_255, by decide⟩) hid (by rw [al_255]; rfl) dX12_plain_56 h (fun σ2 h => ?_)
        refine p_iinc C (y := (y2 + 1)) (fun z3 => [some (.ref (ad 236)), some (.int y1), some (.int z3)]) dX12_plain_57 rfl rfl (by decide) rfl (fun _ => rfl) h (fun z3 h => ?_)
        refine a_goto C dX12_plain_60 (tgt := 30) rfl ?_
        exact ih _ _ _ h
  refine a_aload_n C dX12_plain_0 (i := 0) rfl rfl ?_
  refine a_get C fl_RX12_43 (i := 236) kd_236 (hid 236 (by decide)) (v := .ref (ad 245)) rfl dX12_plain_1 ?_
  refine a_iload_n C dX12_plain_4 (i := 1) rfl rfl ?_
  refine a_iconst C dX12_plain_5 (v := 0) rfl ?_
  refine p_iast C (i := 245) (show rowOK 245 from ⟨kd_245, by decide⟩) hid (by rw [al_245]; rfl) dX12_plain_6 h (fun σ1 h => ?_)
  refine a_aload_n C dX12_plain_7 (i := 0) rfl rfl ?_
  refine a_get C fl_RX12_55 (i := 236) kd_236 (hid 236 (by decide)) (v := .ref (ad 249)) rfl dX12_plain_8 ?_
  refine a_iload_n C dX12_plain_11 (i := 1) rfl rfl ?_
  refine a_iconst C dX12_plain_12 (v := 0) rfl ?_
  refine p_iast C (i := 249) (show rowOK 249 from ⟨kd_249, by decide⟩) hid (by rw [al_249]; rfl) dX12_plain_13 h (fun σ2 h => ?_)
  refine a_aload_n C dX12_plain_14 (i := 0) rfl rfl ?_
  refine a_get C fl_RX12_64 (i := 236) kd_236 (hid 236 (by decide)) (v := .ref (ad 252)) rfl dX12_plain_15 ?_
  refine a_iload_n C dX12_plain_18 (i := 1) rfl rfl ?_
  refine a_iconst C dX12_plain_19 (v := 1) rfl ?_
  refine p_iast C (i := 252) (show rowOK 252 from ⟨kd_252, by decide⟩) hid (by rw [al_252]; rfl) dX12_plain_20 h (fun σ3 h => ?_)
  refine a_aload_n C dX12_plain_21 (i := 0) rfl rfl ?_
  refine a_get C fl_RX12_67 (i := 236) kd_236 (hid 236 (by decide)) (v := .ref (ad 253)) rfl dX12_plain_22 ?_
  refine a_iload_n C dX12_plain_25 (i := 1) rfl rfl ?_
  refine a_iconst C dX12_plain_26 (v := 0) rfl ?_
  refine p_iast C (i := 253) (show rowOK 253 from ⟨kd_253, by decide⟩) hid (by rw [al_253]; rfl) dX12_plain_27 h (fun σ4 h => ?_)
  refine a_iconst C dX12_plain_28 (v := 0) rfl ?_
  refine a_istore_n C dX12_plain_29 (i := 2) rfl (by decide) rfl (vs1 := [some (.ref (ad 236)), some (.int x1), some (.int 0)]) rfl ?_
  exact j30 _ _ _ _ h
set_option maxHeartbeats 4000000 in
set_option maxRecDepth 100000 in
theorem Z_X12_begins {l : Launch} {D : va_G} {ids : List Nat} {ad : Nat → Nat} {ca : Nat → ClassId} {σ : HS} {s0 : HS} (hid : ∀ i, i < 277 → i ∈ ids) (h : f_X12_begins σ = some s0) : Kv l D ids ad ca yX12_begins cX12_begins 2 0 0 [.ref (ad 236)] σ (fun σ1 => σ1 = s0) := by
  obtain ⟨R, hR⟩ : ∃ R, s0 = R := ⟨_, rfl⟩
  replace h := h.trans (congrArg some hR)
  refine Kv.of (by decide) (Nat.le_of_ble_eq_true rfl) 1 (fun Γ C Rt => ?_)
  show AW ids ad ca Γ 0 [some (.ref (ad 236)), none] [] σ
  unfold f_X12_begins at h
  have j89 : ∀ (v0 : Int32) (v1 : Int32) (σ : HS), f_X12_begins_89 v0 v1 σ = some R → AW ids ad ca Γ 89 [some (.ref (ad 236)), none] [.int v0, .int v1, .ref (ad 267)] σ := by
    intro v0 v1 σ h
    unfold f_X12_begins_89 at h
    refine p_iast C (i := 267) (show rowOK 267 from ⟨kd_267, by decide⟩) hid (by rw [al_267]; rfl) dX12_begins_89 h (fun σ1 h => ?_)
    refine a_aload_n C dX12_begins_90 (i := 0) rfl rfl ?_
    refine a_get C fl_RX12_110 (i := 236) kd_236 (hid 236 (by decide)) (v := .ref (ad 267)) rfl dX12_begins_91 ?_
    refine a_bipush C dX12_begins_94 (v := 28) rfl ?_
    refine a_iconst C dX12_begins_96 (v := (-1)) rfl ?_
    refine p_iastc C (i := 267) 28 (show rowOK 267 from ⟨kd_267, by decide⟩) hid (by decide) (by rw [al_267]; decide) dX12_begins_97 h (fun σ2 h => ?_)
    refine a_aload_n C dX12_begins_98 (i := 0) rfl rfl ?_
    refine a_aload_n C dX12_begins_99 (i := 0) rfl rfl ?_
    refine a_get C fl_RX12_67 (i := 236) kd_236 (hid 236 (by decide)) (v := .ref (ad 253)) rfl dX12_begins_100 ?_
    refine a_aload_n C dX12_begins_103 (i := 0) rfl rfl ?_
    refine a_get C fl_RX12_221 (i := 236) kd_236 (hid 236 (by decide)) (v := .int (σ2.1 236 18)) rfl dX12_begins_104 ?_
    refine p_iald C (i := 253) (show rowOK 253 from ⟨kd_253, by decide⟩) hid (by rw [al_253]; rfl) dX12_begins_107 h (fun h => ?_)
    refine p_put C fp_RX12_305 (i := 236) kd_236 (hid 236 (by decide)) rfl rfl dX12_begins_108 h (fun σ3 h => ?_)
    refine a_aload_n C dX12_begins_111 (i := 0) rfl rfl ?_
    refine a_iconst C dX12_begins_112 (v := 0) rfl ?_
    refine p_put C fp_RX12_308 (i := 236) kd_236 (hid 236 (by decide)) (nar_z (by decide)).1 (nar_z (by decide)).2 dX12_begins_113 h (fun σ4 h => ?_)
    exact a_vret Rt dX12_begins_116 (retv_eq (h.trans (congrArg some hR.symm)))
  have j23 : ∀ (n : Nat) (y1 : Int32) (σ : HS), f_X12_begins_23 n y1 σ = some R → AW ids ad ca Γ 23 [some (.ref (ad 236)), some (.int y1)] [] σ := by
    intro n
    induction n with
    | zero => intro y1 σ h; exact nn h
    | succ n ih =>
      intro y1 σ h
      have h : b_X12_begins_23 (f_X12_begins_23 n) y1 σ = some R := h
      unfold b_X12_begins_23 at h
      refine a_iload_n C dX12_begins_23 (i := 1) rfl rfl ?_
      refine a_aload_n C dX12_begins_24 (i := 0) rfl rfl ?_
      refine a_get C fl_RX12_43 (i := 236) kd_236 (hid 236 (by decide)) (v := .ref (ad 245)) rfl dX12_begins_25 ?_
      refine a_aload_n C dX12_begins_28 (i := 0) rfl rfl ?_
      refine a_get C fl_RX12_221 (i := 236) kd_236 (hid 236 (by decide)) (v := .int (σ.1 236 18)) rfl dX12_begins_29 ?_
      refine p_iald C (i := 245) (show rowOK 245 from ⟨kd_245, by decide⟩) hid (by rw [al_245]; rfl) dX12_begins_32 h (fun h => ?_)
      refine p_ic_ge C (X := y1.toInt) (Y := (σ.1 245 (σ.1 236 18).toInt.toNat).toInt) rfl rfl dX12_begins_33 (tgt := 65) rfl h (fun h => ?_) (fun h => ?_)
      ·
        refine a_aload_n C dX12_begins_65 (i := 0) rfl rfl ?_
        refine a_get C fl_RX12_110 (i := 236) kd_236 (hid 236 (by decide)) (v := .ref (ad 267)) rfl dX12_begins_66 ?_
        refine a_bipush C dX12_begins_69 (v := 26) rfl ?_
        refine a_aload_n C dX12_begins_71 (i := 0) rfl rfl ?_
        refine a_get C fl_RX12_55 (i := 236) kd_236 (hid 236 (by decide)) (v := .ref (ad 249)) rfl dX12_begins_72 ?_
        refine a_aload_n C dX12_begins_75 (i := 0) rfl rfl ?_
        refine a_get C fl_RX12_221 (i := 236) kd_236 (hid 236 (by decide)) (v := .int (σ.1 236 18)) rfl dX12_begins_76 ?_
        refine p_iald C (i := 249) (show rowOK 249 from ⟨kd_249, by decide⟩) hid (by rw [al_249]; rfl) dX12_begins_79 h (fun h => ?_)
        refine p_if_le C (X := (σ.1 249 (σ.1 236 18).toInt.toNat).toInt) rfl dX12_begins_80 (tgt := 87) rfl h (fun h => ?_) (fun h => ?_)
        ·
          refine a_bipush C dX12_begins_87 (v := (-2)) rfl ?_
          refine AW.sub (vs' := [some (.ref (ad 236)), none]) (lsub_of (by simp [lsubB])) ?_
          exact j89 _ _ _ h
        ·
          refine a_iconst C dX12_begins_83 (v := 0) rfl ?_
          refine a_goto C dX12_begins_84 (tgt := 89) rfl ?_
          refine AW.sub (vs' := [some (.ref (ad 236)), none]) (lsub_of (by simp [lsubB])) ?_
          exact j89 _ _ _ h
      ·
        refine a_aload_n C dX12_begins_36 (i := 0) rfl rfl ?_
        refine a_get C fl_RX12_110 (i := 236) kd_236 (hid 236 (by decide)) (v := .ref (ad 267)) rfl dX12_begins_37 ?_
        refine a_bipush C dX12_begins_40 (v := 7) rfl ?_
        refine a_iload_n C dX12_begins_42 (i := 1) rfl rfl ?_
        refine a_iadd C dX12_begins_43 ?_
        refine a_aload_n C dX12_begins_44 (i := 0) rfl rfl ?_
        refine a_get C fl_RX12_52 (i := 236) kd_236 (hid 236 (by decide)) (v := .ref (ad 248)) rfl dX12_begins_45 ?_
        refine a_bipush C dX12_begins_48 (v := 7) rfl ?_
        refine a_aload_n C dX12_begins_50 (i := 0) rfl rfl ?_
        refine a_get C fl_RX12_221 (i := 236) kd_236 (hid 236 (by decide)) (v := .int (σ.1 236 18)) rfl dX12_begins_51 ?_
        refine a_imul C dX12_begins_54 ?_
        refine a_iload_n C dX12_begins_55 (i := 1) rfl rfl ?_
        refine a_iadd C dX12_begins_56 ?_
        refine p_iald C (i := 248) (show rowOK 248 from ⟨kd_248, by decide⟩) hid (by rw [al_248]; rfl) dX12_begins_57 h (fun h => ?_)
        refine p_iast C (i := 267) (show rowOK 267 from ⟨kd_267, by decide⟩) hid (by rw [al_267]; rfl) dX12_begins_58 h (fun σ1 h => ?_)
        refine p_iinc C (y := (y1 + 1)) (fun z2 => [some (.ref (ad 236)), some (.int z2)]) dX12_begins_59 rfl rfl (by decide) rfl (fun _ => rfl) h (fun z2 h => ?_)
        refine a_goto C dX12_begins_62 (tgt := 23) rfl ?_
        exact ih _ _ h
  have j2 : ∀ (n : Nat) (y1 : Int32) (σ : HS), f_X12_begins_2 n y1 σ = some R → AW ids ad ca Γ 2 [some (.ref (ad 236)), some (.int y1)] [] σ := by
    intro n
    induction n with
    | zero => intro y1 σ h; exact nn h
    | succ n ih =>
      intro y1 σ h
      have h : b_X12_begins_2 (f_X12_begins_2 n) y1 σ = some R := h
      unfold b_X12_begins_2 at h
      refine a_iload_n C dX12_begins_2 (i := 1) rfl rfl ?_
      refine a_bipush C dX12_begins_3 (v := 29) rfl ?_
      refine p_ic_ge C (X := y1.toInt) (Y := 29) rfl (by decide) dX12_begins_5 (tgt := 21) rfl h (fun h => ?_) (fun h => ?_)
      ·
        refine a_iconst C dX12_begins_21 (v := 0) rfl ?_
        refine a_istore_n C dX12_begins_22 (i := 1) rfl (by decide) rfl (vs1 := [some (.ref (ad 236)), some (.int 0)]) rfl ?_
        exact j23 _ _ _ h
      ·
        refine a_aload_n C dX12_begins_8 (i := 0) rfl rfl ?_
        refine a_get C fl_RX12_110 (i := 236) kd_236 (hid 236 (by decide)) (v := .ref (ad 267)) rfl dX12_begins_9 ?_
        refine a_iload_n C dX12_begins_12 (i := 1) rfl rfl ?_
        refine a_iconst C dX12_begins_13 (v := 0) rfl ?_
        refine p_iast C (i := 267) (show rowOK 267 from ⟨kd_267, by decide⟩) hid (by rw [al_267]; rfl) dX12_begins_14 h (fun σ1 h => ?_)
        refine p_iinc C (y := (y1 + 1)) (fun z2 => [some (.ref (ad 236)), some (.int z2)]) dX12_begins_15 rfl rfl (by decide) rfl (fun _ => rfl) h (fun z2 h => ?_)
        refine a_goto C dX12_begins_18 (tgt := 2) rfl ?_
        exact ih _ _ h
  refine a_iconst C dX12_begins_0 (v := 0) rfl ?_
  refine a_istore_n C dX12_begins_1 (i := 1) rfl (by decide) rfl (vs1 := [some (.ref (ad 236)), some (.int 0)]) rfl ?_
  exact j2 _ _ _ h
set_option maxHeartbeats 4000000 in
set_option maxRecDepth 100000 in
theorem Z_X12_keepsRow {l : Launch} {D : va_G} {ids : List Nat} {ad : Nat → Nat} {ca : Nat → ClassId} {σ : HS} {s0 : HS} (hid : ∀ i, i < 277 → i ∈ ids) (h : f_X12_keepsRow σ = some s0) : Kv l D ids ad ca yX12_keepsRow cX12_keepsRow 2 0 0 [.ref (ad 236)] σ (fun σ1 => σ1 = s0) := by
  obtain ⟨R, hR⟩ : ∃ R, s0 = R := ⟨_, rfl⟩
  replace h := h.trans (congrArg some hR)
  refine Kv.of (by decide) (Nat.le_of_ble_eq_true rfl) 1 (fun Γ C Rt => ?_)
  show AW ids ad ca Γ 0 [some (.ref (ad 236)), none] [] σ
  unfold f_X12_keepsRow at h
  have j2 : ∀ (n : Nat) (y1 : Int32) (σ : HS), f_X12_keepsRow_2 n y1 σ = some R → AW ids ad ca Γ 2 [some (.ref (ad 236)), some (.int y1)] [] σ := by
    intro n
    induction n with
    | zero => intro y1 σ h; exact nn h
    | succ n ih =>
      intro y1 σ h
      have h : b_X12_keepsRow_2 (f_X12_keepsRow_2 n) y1 σ = some R := h
      unfold b_X12_keepsRow_2 at h
      refine a_iload_n C dX12_keepsRow_2 (i := 1) rfl rfl ?_
      refine a_bipush C dX12_keepsRow_3 (v := 29) rfl ?_
      refine p_ic_ge C (X := y1.toInt) (Y := 29) rfl (by decide) dX12_keepsRow_5 (tgt := 26) rfl h (fun h => ?_) (fun h => ?_)
      ·
        exact a_vret Rt dX12_keepsRow_26 (retv_eq (h.trans (congrArg some hR.symm)))
      ·
        refine a_aload_n C dX12_keepsRow_8 (i := 0) rfl rfl ?_
        refine a_get C fl_RX12_107 (i := 236) kd_236 (hid 236 (by decide)) (v := .ref (ad 266)) rfl dX12_keepsRow_9 ?_
        refine a_iload_n C dX12_keepsRow_12 (i := 1) rfl rfl ?_
        refine a_aload_n C dX12_keepsRow_13 (i := 0) rfl rfl ?_
        refine a_get C fl_RX12_110 (i := 236) kd_236 (hid 236 (by decide)) (v := .ref (ad 267)) rfl dX12_keepsRow_14 ?_
        refine a_iload_n C dX12_keepsRow_17 (i := 1) rfl rfl ?_
        refine p_iald C (i := 267) (show rowOK 267 from ⟨kd_267, by decide⟩) hid (by rw [al_267]; rfl) dX12_keepsRow_18 h (fun h => ?_)
        refine p_iast C (i := 266) (show rowOK 266 from ⟨kd_266, by decide⟩) hid (by rw [al_266]; rfl) dX12_keepsRow_19 h (fun σ1 h => ?_)
        refine p_iinc C (y := (y1 + 1)) (fun z2 => [some (.ref (ad 236)), some (.int z2)]) dX12_keepsRow_20 rfl rfl (by decide) rfl (fun _ => rfl) h (fun z2 h => ?_)
        refine a_goto C dX12_keepsRow_23 (tgt := 2) rfl ?_
        exact ih _ _ h
  refine a_iconst C dX12_keepsRow_0 (v := 0) rfl ?_
  refine a_istore_n C dX12_keepsRow_1 (i := 1) rfl (by decide) rfl (vs1 := [some (.ref (ad 236)), some (.int 0)]) rfl ?_
  exact j2 _ _ _ h
set_option maxHeartbeats 4000000 in
set_option maxRecDepth 100000 in
theorem Z_X12_roomFor {l : Launch} {D : va_G} {ids : List Nat} {ad : Nat → Nat} {ca : Nat → ClassId} {σ : HS} {x1 : Int32} {x2 : Int32} {s0 : HS} (hid : ∀ i, i < 277 → i ∈ ids) (h : f_X12_roomFor x1 x2 σ = some s0) : Kv l D ids ad ca yX12_roomFor cX12_roomFor 3 2 41 [.ref (ad 236), .int x1, .int x2] σ (fun σ1 => σ1 = s0) := by
  obtain ⟨R, hR⟩ : ∃ R, s0 = R := ⟨_, rfl⟩
  replace h := h.trans (congrArg some hR)
  refine Kv.of (by decide) (Nat.le_of_ble_eq_true rfl) 0 (fun Γ C Rt => ?_)
  show AW ids ad ca Γ 0 [some (.ref (ad 236)), some (.int x1), some (.int x2)] [] σ
  unfold f_X12_roomFor at h
  have j10 : ∀ (σ : HS), f_X12_roomFor_10 σ = some R → AW ids ad ca Γ 10 [some (.ref (ad 236)), none, none] [] σ := by
    intro σ h
    unfold f_X12_roomFor_10 at h
    refine a_aload_n C dX12_roomFor_10 (i := 0) rfl rfl ?_
    refine a_get C fl_RX12_191 (i := 236) kd_236 (hid 236 (by decide)) (v := .int (σ.1 236 13)) rfl dX12_roomFor_11 ?_
    refine p_if_ne C (X := (σ.1 236 13).toInt) rfl dX12_roomFor_14 (tgt := 21) rfl h (fun h => ?_) (fun h => ?_)
    ·
      exact a_vret Rt dX12_roomFor_21 (retv_eq (h.trans (congrArg some hR.symm)))
    ·
      refine a_aload_n C dX12_roomFor_17 (i := 0) rfl rfl ?_
      refine p_callVv C (As := []) (i := 236) kd_236 (hid 236 (by decide)) ⟨_, _, rfl⟩ (by decide) h (fun _ e => Z_X12_goesOn hid e) mi_X12_goesOn ml_RX12_212 rfl rfl (Nat.le_of_ble_eq_true rfl) (Nat.le_of_ble_eq_true rfl) (Nat.le_of_ble_eq_true rfl) dX12_roomFor_18 (fun σ1 h => ?_)
      exact a_vret Rt dX12_roomFor_21 (retv_eq (h.trans (congrArg some hR.symm)))
  refine a_iload_n C dX12_roomFor_0 (i := 1) rfl rfl ?_
  refine a_iload_n C dX12_roomFor_1 (i := 2) rfl rfl ?_
  refine p_ic_ne C (X := x1.toInt) (Y := x2.toInt) rfl rfl dX12_roomFor_2 (tgt := 10) rfl h (fun h => ?_) (fun h => ?_)
  ·
    refine AW.sub (vs' := [some (.ref (ad 236)), none, none]) (lsub_of (by simp [lsubB])) ?_
    exact j10 _ h
  ·
    refine a_aload_n C dX12_roomFor_5 (i := 0) rfl rfl ?_
    refine a_iconst C dX12_roomFor_6 (v := 2) rfl ?_
    refine p_callVv C (As := [.int 2]) (i := 236) kd_236 (hid 236 (by decide)) ⟨_, _, rfl⟩ (by decide) h (fun _ e => Z_X12_fail hid e) mi_X12_fail ml_RX12_206 rfl rfl (Nat.le_of_ble_eq_true rfl) (Nat.le_of_ble_eq_true rfl) (Nat.le_of_ble_eq_true rfl) dX12_roomFor_7 (fun σ1 h => ?_)
    refine AW.sub (vs' := [some (.ref (ad 236)), none, none]) (lsub_of (by simp [lsubB])) ?_
    exact j10 _ h
set_option maxHeartbeats 4000000 in
set_option maxRecDepth 100000 in
theorem Z_X12_named {l : Launch} {D : va_G} {ids : List Nat} {ad : Nat → Nat} {ca : Nat → ClassId} {σ : HS} {r0 : Int32} {s0 : HS} (hid : ∀ i, i < 277 → i ∈ ids) (h : f_X12_named σ = some (r0, s0)) : Ki l D ids ad ca yX12_named cX12_named 3 .int 3 62 [.ref (ad 236)] σ (fun r σ1 => r = r0 ∧ σ1 = s0) := by
  obtain ⟨R, hR⟩ : ∃ R, (r0, s0) = R := ⟨_, rfl⟩
  replace h := h.trans (congrArg some hR)
  refine Ki.of (by decide) (Nat.le_of_ble_eq_true rfl) 2 (fun Γ C Rt => ?_)
  show AW ids ad ca Γ 0 [some (.ref (ad 236)), none, none] [] σ
  unfold f_X12_named at h
  have j49 : ∀ (k12 : Int32 → Int32 → HS → Option (Int32 × HS)) (hk12 : ∀ (y1 : Int32) (y2 : Int32) (σ : HS), k12 y1 y2 σ = some R → AW ids ad ca Γ 12 [some (.ref (ad 236)), some (.int y1), some (.int y2)] [] σ) (y1 : Int32) (y2 : Int32) (σ : HS), f_X12_named_49 k12 y1 y2 σ = some R → AW ids ad ca Γ 49 [some (.ref (ad 236)), some (.int y1), some (.int y2)] [] σ := by
    intro k12 hk12 y1 y2 σ h
    unfold f_X12_named_49 at h
    refine p_iinc C (y := (y2 + 1)) (fun z1 => [some (.ref (ad 236)), some (.int y1), some (.int z1)]) dX12_named_49 rfl rfl (by decide) rfl (fun _ => rfl) h (fun z1 h => ?_)
    refine a_goto C dX12_named_52 (tgt := 12) rfl ?_
    exact hk12 _ _ _ h
  have j12 : ∀ (n : Nat) (y1 : Int32) (y2 : Int32) (σ : HS), f_X12_named_12 n y1 y2 σ = some R → AW ids ad ca Γ 12 [some (.ref (ad 236)), some (.int y1), some (.int y2)] [] σ := by
    intro n
    induction n with
    | zero => intro y1 y2 σ h; exact nn h
    | succ n ih =>
      intro y1 y2 σ h
      have h : b_X12_named_12 (f_X12_named_12 n) y1 y2 σ = some R := h
      unfold b_X12_named_12 at h
      refine a_iload_n C dX12_named_12 (i := 2) rfl rfl ?_
      refine a_aload_n C dX12_named_13 (i := 0) rfl rfl ?_
      refine a_get C fl_RX12_227 (i := 236) kd_236 (hid 236 (by decide)) (v := .int (σ.1 236 20)) rfl dX12_named_14 ?_
      refine p_ic_ge C (X := y2.toInt) (Y := (σ.1 236 20).toInt) rfl rfl dX12_named_17 (tgt := 55) rfl h (fun h => ?_) (fun h => ?_)
      ·
        refine a_iload_n C dX12_named_55 (i := 1) rfl rfl ?_
        exact a_iret Rt dX12_named_56 rfl (ret_eq (h.trans (congrArg some hR.symm)))
      ·
        refine a_aload_n C dX12_named_20 (i := 0) rfl rfl ?_
        refine a_get C fl_RX12_191 (i := 236) kd_236 (hid 236 (by decide)) (v := .int (σ.1 236 13)) rfl dX12_named_21 ?_
        refine p_if_ne C (X := (σ.1 236 13).toInt) rfl dX12_named_24 (tgt := 55) rfl h (fun h => ?_) (fun h => ?_)
        ·
          refine a_iload_n C dX12_named_55 (i := 1) rfl rfl ?_
          exact a_iret Rt dX12_named_56 rfl (ret_eq (h.trans (congrArg some hR.symm)))
        ·
          refine a_aload_n C dX12_named_27 (i := 0) rfl rfl ?_
          refine a_get C fl_RX12_40 (i := 236) kd_236 (hid 236 (by decide)) (v := .ref (ad 244)) rfl dX12_named_28 ?_
          refine a_iload_n C dX12_named_31 (i := 2) rfl rfl ?_
          refine p_lald C (i := 244) kd_244 (hid 244 (by decide)) (by rw [al_244]; rfl) dX12_named_32 h (fun h => ?_)
          refine a_aload_n C dX12_named_33 (i := 0) rfl rfl ?_
          refine a_get C fl_RX12_30 (i := 236) kd_236 (hid 236 (by decide)) (v := .ref (ad 242)) rfl dX12_named_34 ?_
          refine a_iload_n C dX12_named_37 (i := 1) rfl rfl ?_
          refine p_lald C (i := 242) kd_242 (hid 242 (by decide)) (by rw [al_242]; rfl) dX12_named_38 h (fun h => ?_)
          refine a_lcmp C dX12_named_39 ?_
          refine p_if_ne C (X := (lg_cmp (σ.2.1 244 y2.toInt.toNat) (σ.2.1 242 y1.toInt.toNat)).toInt) rfl dX12_named_40 (tgt := 49) rfl h (fun h => ?_) (fun h => ?_)
          ·
            exact j49 (f_X12_named_12 n) (fun y1 y2 σ h => ih y1 y2 σ h) _ _ _ h
          ·
            refine a_aload_n C dX12_named_43 (i := 0) rfl rfl ?_
            refine a_iconst C dX12_named_44 (v := 3) rfl ?_
            refine a_iload_n C dX12_named_45 (i := 1) rfl rfl ?_
            refine p_callVv C (As := [.int 3, .int y1]) (i := 236) kd_236 (hid 236 (by decide)) ⟨_, _, rfl⟩ (by decide) h (fun _ e => Z_X12_wrong hid e) mi_X12_wrong ml_RX12_268 rfl rfl (Nat.le_of_ble_eq_true rfl) (Nat.le_of_ble_eq_true rfl) (Nat.le_of_ble_eq_true rfl) dX12_named_46 (fun σ1 h => ?_)
            exact j49 (f_X12_named_12 n) (fun y1 y2 σ h => ih y1 y2 σ h) _ _ _ h
  refine a_aload_n C dX12_named_0 (i := 0) rfl rfl ?_
  refine a_get C fl_RX12_194 (i := 236) kd_236 (hid 236 (by decide)) (v := .int (σ.1 236 11)) rfl dX12_named_1 ?_
  refine p_istore_n C (fun z1 => [some (.ref (ad 236)), some (.int z1), none]) dX12_named_4 (i := 1) rfl (by decide) rfl (fun _ => rfl) h (fun z1 h => ?_)
  refine a_aload_n C dX12_named_5 (i := 0) rfl rfl ?_
  refine a_iconst C dX12_named_6 (v := 1) rfl ?_
  refine p_callVv C (As := [.int 1]) (i := 236) kd_236 (hid 236 (by decide)) ⟨_, _, rfl⟩ (by decide) h (fun _ e => Z_X12_must hid e) mi_X12_must ml_RX12_249 rfl rfl (Nat.le_of_ble_eq_true rfl) (Nat.le_of_ble_eq_true rfl) (Nat.le_of_ble_eq_true rfl) dX12_named_7 (fun σ2 h => ?_)
  refine a_iconst C dX12_named_10 (v := 0) rfl ?_
  refine a_istore_n C dX12_named_11 (i := 2) rfl (by decide) rfl (vs1 := [some (.ref (ad 236)), some (.int z1), some (.int 0)]) rfl ?_
  exact j12 _ _ _ _ h
set_option maxHeartbeats 4000000 in
set_option maxRecDepth 100000 in
theorem Z_X12_bounded {l : Launch} {D : va_G} {ids : List Nat} {ad : Nat → Nat} {ca : Nat → ClassId} {σ : HS} {x1 : Int32} {x2 : Int32} {r0 : Int32} {s0 : HS} (hid : ∀ i, i < 277 → i ∈ ids) (h : f_X12_bounded x1 x2 σ = some (r0, s0)) : Ki l D ids ad ca yX12_bounded cX12_bounded 4 .int 2 41 [.ref (ad 236), .int x1, .int x2] σ (fun r σ1 => r = r0 ∧ σ1 = s0) := by
  obtain ⟨R, hR⟩ : ∃ R, (r0, s0) = R := ⟨_, rfl⟩
  replace h := h.trans (congrArg some hR)
  refine Ki.of (by decide) (Nat.le_of_ble_eq_true rfl) 1 (fun Γ C Rt => ?_)
  show AW ids ad ca Γ 0 [some (.ref (ad 236)), some (.int x1), some (.int x2), none] [] σ
  unfold f_X12_bounded at h
  have j15 : ∀ (y1 : Int32) (σ : HS), f_X12_bounded_15 y1 σ = some R → AW ids ad ca Γ 15 [some (.ref (ad 236)), some (.int y1), none, none] [] σ := by
    intro y1 σ h
    unfold f_X12_bounded_15 at h
    refine a_aload_n C dX12_bounded_15 (i := 0) rfl rfl ?_
    refine a_iconst C dX12_bounded_16 (v := 1) rfl ?_
    refine p_callVv C (As := [.int 1]) (i := 236) kd_236 (hid 236 (by decide)) ⟨_, _, rfl⟩ (by decide) h (fun _ e => Z_X12_fail hid e) mi_X12_fail ml_RX12_206 rfl rfl (Nat.le_of_ble_eq_true rfl) (Nat.le_of_ble_eq_true rfl) (Nat.le_of_ble_eq_true rfl) dX12_bounded_17 (fun σ1 h => ?_)
    refine a_iload_n C dX12_bounded_20 (i := 1) rfl rfl ?_
    exact a_iret Rt dX12_bounded_21 rfl (ret_eq (h.trans (congrArg some hR.symm)))
  have j51 : ∀ (y3 : Int32) (σ : HS), f_X12_bounded_51 y3 σ = some R → AW ids ad ca Γ 51 [some (.ref (ad 236)), none, none, some (.int y3)] [] σ := by
    intro y3 σ h
    unfold f_X12_bounded_51 at h
    refine a_aload_n C dX12_bounded_51 (i := 0) rfl rfl ?_
    refine p_callVv C (As := []) (i := 236) kd_236 (hid 236 (by decide)) ⟨_, _, rfl⟩ (by decide) h (fun _ e => Z_X12_goesOn hid e) mi_X12_goesOn ml_RX12_212 rfl rfl (Nat.le_of_ble_eq_true rfl) (Nat.le_of_ble_eq_true rfl) (Nat.le_of_ble_eq_true rfl) dX12_bounded_52 (fun σ1 h => ?_)
    refine a_iload_n C dX12_bounded_55 (i := 3) rfl rfl ?_
    exact a_iret Rt dX12_bounded_56 rfl (ret_eq (h.trans (congrArg some hR.symm)))
  have j42 : ∀ (y3 : Int32) (σ : HS), f_X12_bounded_42 y3 σ = some R → AW ids ad ca Γ 42 [some (.ref (ad 236)), none, none, some (.int y3)] [] σ := by
    intro y3 σ h
    unfold f_X12_bounded_42 at h
    refine a_aload_n C dX12_bounded_42 (i := 0) rfl rfl ?_
    refine a_iconst C dX12_bounded_43 (v := 5) rfl ?_
    refine a_aload_n C dX12_bounded_44 (i := 0) rfl rfl ?_
    refine a_get C fl_RX12_194 (i := 236) kd_236 (hid 236 (by decide)) (v := .int (σ.1 236 11)) rfl dX12_bounded_45 ?_
    refine p_callVv C (As := [.int 5, .int (σ.1 236 11)]) (i := 236) kd_236 (hid 236 (by decide)) ⟨_, _, rfl⟩ (by decide) h (fun _ e => Z_X12_wrong hid e) mi_X12_wrong ml_RX12_268 rfl rfl (Nat.le_of_ble_eq_true rfl) (Nat.le_of_ble_eq_true rfl) (Nat.le_of_ble_eq_true rfl) dX12_bounded_48 (fun σ1 h => ?_)
    exact j51 _ _ h
  refine a_aload_n C dX12_bounded_0 (i := 0) rfl rfl ?_
  refine a_get C fl_RX12_191 (i := 236) kd_236 (hid 236 (by decide)) (v := .int (σ.1 236 13)) rfl dX12_bounded_1 ?_
  refine p_if_gt C (X := (σ.1 236 13).toInt) rfl dX12_bounded_4 (tgt := 15) rfl h (fun h => ?_) (fun h => ?_)
  ·
    refine AW.sub (vs' := [some (.ref (ad 236)), some (.int x1), none, none]) (lsub_of (by simp [lsubB])) ?_
    exact j15 _ _ h
  ·
    refine a_aload_n C dX12_bounded_7 (i := 0) rfl rfl ?_
    refine a_iconst C dX12_bounded_8 (v := 2) rfl ?_
    refine p_callVi C (As := [.int 2]) (i := 236) kd_236 (hid 236 (by decide)) ⟨_, _, rfl⟩ (by decide) h (fun _ _ e => Z_X12_is hid e) mi_X12_is ml_RX12_209 rfl rfl (Nat.le_of_ble_eq_true rfl) (Nat.le_of_ble_eq_true rfl) (Nat.le_of_ble_eq_true rfl) dX12_bounded_9 (fun r2 σ1 h => ?_)
    refine p_if_ne C (X := r2.toInt) rfl dX12_bounded_12 (tgt := 22) rfl h (fun h => ?_) (fun h => ?_)
    ·
      refine a_aload_n C dX12_bounded_22 (i := 0) rfl rfl ?_
      refine a_get C fl_RX12_27 (i := 236) kd_236 (hid 236 (by decide)) (v := .ref (ad 241)) rfl dX12_bounded_23 ?_
      refine a_aload_n C dX12_bounded_26 (i := 0) rfl rfl ?_
      refine a_get C fl_RX12_194 (i := 236) kd_236 (hid 236 (by decide)) (v := .int (σ1.1 236 11)) rfl dX12_bounded_27 ?_
      refine p_iald C (i := 241) (show rowOK 241 from ⟨kd_241, by decide⟩) hid (by rw [al_241]; rfl) dX12_bounded_30 h (fun h => ?_)
      refine p_istore_n C (fun z3 => [some (.ref (ad 236)), some (.int x1), some (.int x2), some (.int z3)]) dX12_bounded_31 (i := 3) rfl (by decide) rfl (fun _ => rfl) h (fun z3 h => ?_)
      refine a_iload_n C dX12_bounded_32 (i := 3) rfl rfl ?_
      refine a_iload_n C dX12_bounded_33 (i := 1) rfl rfl ?_
      refine p_ic_lt C (X := z3.toInt) (Y := x1.toInt) rfl rfl dX12_bounded_34 (tgt := 42) rfl h (fun h => ?_) (fun h => ?_)
      ·
        refine AW.sub (vs' := [some (.ref (ad 236)), none, none, some (.int z3)]) (lsub_of (by simp [lsubB])) ?_
        exact j42 _ _ h
      ·
        refine a_iload_n C dX12_bounded_37 (i := 3) rfl rfl ?_
        refine a_iload_n C dX12_bounded_38 (i := 2) rfl rfl ?_
        refine p_ic_le C (X := z3.toInt) (Y := x2.toInt) rfl rfl dX12_bounded_39 (tgt := 51) rfl h (fun h => ?_) (fun h => ?_)
        ·
          refine AW.sub (vs' := [some (.ref (ad 236)), none, none, some (.int z3)]) (lsub_of (by simp [lsubB])) ?_
          exact j51 _ _ h
        ·
          refine AW.sub (vs' := [some (.ref (ad 236)), none, none, some (.int z3)]) (lsub_of (by simp [lsubB])) ?_
          exact j42 _ _ h
    ·
      refine AW.sub (vs' := [some (.ref (ad 236)), some (.int x1), none, none]) (lsub_of (by simp [lsubB])) ?_
      exact j15 _ _ h
set_option maxHeartbeats 4000000 in
set_option maxRecDepth 100000 in
theorem Z_X12_ends {l : Launch} {D : va_G} {ids : List Nat} {ad : Nat → Nat} {ca : Nat → ClassId} {σ : HS} {x1 : Int32} {s0 : HS} (hid : ∀ i, i < 277 → i ∈ ids) (h : f_X12_ends x1 σ = some s0) : Kv l D ids ad ca yX12_ends cX12_ends 2 3 62 [.ref (ad 236), .int x1] σ (fun σ1 => σ1 = s0) := by
  obtain ⟨R, hR⟩ : ∃ R, s0 = R := ⟨_, rfl⟩
  replace h := h.trans (congrArg some hR)
  refine Kv.of (by decide) (Nat.le_of_ble_eq_true rfl) 0 (fun Γ C Rt => ?_)
  show AW ids ad ca Γ 0 [some (.ref (ad 236)), some (.int x1)] [] σ
  unfold f_X12_ends at h
  refine a_aload_n C dX12_ends_0 (i := 0) rfl rfl ?_
  refine a_iconst C dX12_ends_1 (v := 4) rfl ?_
  refine p_callVv C (As := [.int 4]) (i := 236) kd_236 (hid 236 (by decide)) ⟨_, _, rfl⟩ (by decide) h (fun _ e => Z_X12_must hid e) mi_X12_must ml_RX12_249 rfl rfl (Nat.le_of_ble_eq_true rfl) (Nat.le_of_ble_eq_true rfl) (Nat.le_of_ble_eq_true rfl) dX12_ends_2 (fun σ1 h => ?_)
  refine a_aload_n C dX12_ends_5 (i := 0) rfl rfl ?_
  refine a_get C fl_RX12_191 (i := 236) kd_236 (hid 236 (by decide)) (v := .int (σ1.1 236 13)) rfl dX12_ends_6 ?_
  refine p_if_le C (X := (σ1.1 236 13).toInt) rfl dX12_ends_9 (tgt := 13) rfl h (fun h => ?_) (fun h => ?_)
  ·
    refine a_aload_n C dX12_ends_13 (i := 0) rfl rfl ?_
    refine a_get C fl_RX12_40 (i := 236) kd_236 (hid 236 (by decide)) (v := .ref (ad 244)) rfl dX12_ends_14 ?_
    refine a_aload_n C dX12_ends_17 (i := 0) rfl rfl ?_
    refine a_get C fl_RX12_227 (i := 236) kd_236 (hid 236 (by decide)) (v := .int (σ1.1 236 20)) rfl dX12_ends_18 ?_
    refine a_aload_n C dX12_ends_21 (i := 0) rfl rfl ?_
    refine a_get C fl_RX12_30 (i := 236) kd_236 (hid 236 (by decide)) (v := .ref (ad 242)) rfl dX12_ends_22 ?_
    refine a_iload_n C dX12_ends_25 (i := 1) rfl rfl ?_
    refine p_lald C (i := 242) kd_242 (hid 242 (by decide)) (by rw [al_242]; rfl) dX12_ends_26 h (fun h => ?_)
    refine p_last C (i := 244) kd_244 (hid 244 (by decide)) (by rw [al_244]; rfl) dX12_ends_27 h (fun σ3 h => ?_)
    refine a_aload_n C dX12_ends_28 (i := 0) rfl rfl ?_
    refine a_dup C dX12_ends_29 rfl ?_
    refine a_get C fl_RX12_227 (i := 236) kd_236 (hid 236 (by decide)) (v := .int (σ3.1 236 20)) rfl dX12_ends_30 ?_
    refine a_iconst C dX12_ends_33 (v := 1) rfl ?_
    refine a_iadd C dX12_ends_34 ?_
    refine p_put C fp_RX12_227 (i := 236) kd_236 (hid 236 (by decide)) rfl rfl dX12_ends_35 h (fun σ4 h => ?_)
    exact a_vret Rt dX12_ends_38 (retv_eq (h.trans (congrArg some hR.symm)))
  ·
    exact a_vret Rt dX12_ends_12 (retv_eq (h.trans (congrArg some hR.symm)))
set_option maxHeartbeats 4000000 in
set_option maxRecDepth 100000 in
theorem Z_X12_tellThing {l : Launch} {D : va_G} {ids : List Nat} {ad : Nat → Nat} {ca : Nat → ClassId} {σ : HS} {s0 : HS} (hid : ∀ i, i < 277 → i ∈ ids) (h : f_X12_tellThing σ = some s0) : Kv l D ids ad ca yX12_tellThing cX12_tellThing 3 4 84 [.ref (ad 236)] σ (fun σ1 => σ1 = s0) := by
  obtain ⟨R, hR⟩ : ∃ R, s0 = R := ⟨_, rfl⟩
  replace h := h.trans (congrArg some hR)
  refine Kv.of (by decide) (Nat.le_of_ble_eq_true rfl) 2 (fun Γ C Rt => ?_)
  show AW ids ad ca Γ 0 [some (.ref (ad 236)), none, none] [] σ
  unfold f_X12_tellThing at h
  refine a_bipush C dX12_tellThing_0 (v := 7) rfl ?_
  refine a_aload_n C dX12_tellThing_2 (i := 0) rfl rfl ?_
  refine a_get C fl_RX12_224 (i := 236) kd_236 (hid 236 (by decide)) (v := .int (σ.1 236 19)) rfl dX12_tellThing_3 ?_
  refine a_imul C dX12_tellThing_6 ?_
  refine a_aload_n C dX12_tellThing_7 (i := 0) rfl rfl ?_
  refine a_get C fl_RX12_43 (i := 236) kd_236 (hid 236 (by decide)) (v := .ref (ad 245)) rfl dX12_tellThing_8 ?_
  refine a_aload_n C dX12_tellThing_11 (i := 0) rfl rfl ?_
  refine a_get C fl_RX12_224 (i := 236) kd_236 (hid 236 (by decide)) (v := .int (σ.1 236 19)) rfl dX12_tellThing_12 ?_
  refine p_iald C (i := 245) (show rowOK 245 from ⟨kd_245, by decide⟩) hid (by rw [al_245]; rfl) dX12_tellThing_15 h (fun h => ?_)
  refine a_iadd C dX12_tellThing_16 ?_
  refine p_istore_n C (fun z1 => [some (.ref (ad 236)), some (.int z1), none]) dX12_tellThing_17 (i := 1) rfl (by decide) rfl (fun _ => rfl) h (fun z1 h => ?_)
  refine a_aload_n C dX12_tellThing_18 (i := 0) rfl rfl ?_
  refine p_callVi C (As := []) (i := 236) kd_236 (hid 236 (by decide)) ⟨_, _, rfl⟩ (by decide) h (fun _ _ e => Z_X12_named hid e) mi_X12_named ml_RX12_271 rfl rfl (Nat.le_of_ble_eq_true rfl) (Nat.le_of_ble_eq_true rfl) (Nat.le_of_ble_eq_true rfl) dX12_tellThing_19 (fun r3 σ2 h => ?_)
  refine a_istore_n C dX12_tellThing_22 (i := 2) rfl (by decide) rfl (vs1 := [some (.ref (ad 236)), some (.int z1), some (.int r3)]) rfl ?_
  refine a_aload_n C dX12_tellThing_23 (i := 0) rfl rfl ?_
  refine a_get C fl_RX12_46 (i := 236) kd_236 (hid 236 (by decide)) (v := .ref (ad 246)) rfl dX12_tellThing_24 ?_
  refine a_iload_n C dX12_tellThing_27 (i := 1) rfl rfl ?_
  refine a_aload_n C dX12_tellThing_28 (i := 0) rfl rfl ?_
  refine a_iconst C dX12_tellThing_29 (v := 1) rfl ?_
  refine a_bipush C dX12_tellThing_30 (v := 9) rfl ?_
  refine p_callVi C (As := [.int 1, .int 9]) (i := 236) kd_236 (hid 236 (by decide)) ⟨_, _, rfl⟩ (by decide) h (fun _ _ e => Z_X12_bounded hid e) mi_X12_bounded ml_RX12_245 rfl rfl (Nat.le_of_ble_eq_true rfl) (Nat.le_of_ble_eq_true rfl) (Nat.le_of_ble_eq_true rfl) dX12_tellThing_32 (fun r5 σ4 h => ?_)
  refine p_iast C (i := 246) (show rowOK 246 from ⟨kd_246, by decide⟩) hid (by rw [al_246]; rfl) dX12_tellThing_35 h (fun σ6 h => ?_)
  refine a_aload_n C dX12_tellThing_36 (i := 0) rfl rfl ?_
  refine a_get C fl_RX12_49 (i := 236) kd_236 (hid 236 (by decide)) (v := .ref (ad 247)) rfl dX12_tellThing_37 ?_
  refine a_iload_n C dX12_tellThing_40 (i := 1) rfl rfl ?_
  refine a_aload_n C dX12_tellThing_41 (i := 0) rfl rfl ?_
  refine a_iconst C dX12_tellThing_42 (v := 0) rfl ?_
  refine a_bipush C dX12_tellThing_43 (v := 9) rfl ?_
  refine p_callVi C (As := [.int 0, .int 9]) (i := 236) kd_236 (hid 236 (by decide)) ⟨_, _, rfl⟩ (by decide) h (fun _ _ e => Z_X12_bounded hid e) mi_X12_bounded ml_RX12_245 rfl rfl (Nat.le_of_ble_eq_true rfl) (Nat.le_of_ble_eq_true rfl) (Nat.le_of_ble_eq_true rfl) dX12_tellThing_45 (fun r8 σ7 h => ?_)
  refine p_iast C (i := 247) (show rowOK 247 from ⟨kd_247, by decide⟩) hid (by rw [al_247]; rfl) dX12_tellThing_48 h (fun σ9 h => ?_)
  refine a_aload_n C dX12_tellThing_49 (i := 0) rfl rfl ?_
  refine a_get C fl_RX12_52 (i := 236) kd_236 (hid 236 (by decide)) (v := .ref (ad 248)) rfl dX12_tellThing_50 ?_
  refine a_iload_n C dX12_tellThing_53 (i := 1) rfl rfl ?_
  refine a_aload_n C dX12_tellThing_54 (i := 0) rfl rfl ?_
  refine a_iconst C dX12_tellThing_55 (v := 0) rfl ?_
  refine a_bipush C dX12_tellThing_56 (v := 9) rfl ?_
  refine p_callVi C (As := [.int 0, .int 9]) (i := 236) kd_236 (hid 236 (by decide)) ⟨_, _, rfl⟩ (by decide) h (fun _ _ e => Z_X12_bounded hid e) mi_X12_bounded ml_RX12_245 rfl rfl (Nat.le_of_ble_eq_true rfl) (Nat.le_of_ble_eq_true rfl) (Nat.le_of_ble_eq_true rfl) dX12_tellThing_58 (fun r11 σ10 h => ?_)
  refine p_iast C (i := 248) (show rowOK 248 from ⟨kd_248, by decide⟩) hid (by rw [al_248]; rfl) dX12_tellThing_61 h (fun σ12 h => ?_)
  refine a_aload_n C dX12_tellThing_62 (i := 0) rfl rfl ?_
  refine a_iload_n C dX12_tellThing_63 (i := 2) rfl rfl ?_
  refine p_callVv C (As := [.int r3]) (i := 236) kd_236 (hid 236 (by decide)) ⟨_, _, rfl⟩ (by decide) h (fun _ e => Z_X12_ends hid e) mi_X12_ends ml_RX12_275 rfl rfl (Nat.le_of_ble_eq_true rfl) (Nat.le_of_ble_eq_true rfl) (Nat.le_of_ble_eq_true rfl) dX12_tellThing_64 (fun σ13 h => ?_)
  refine a_aload_n C dX12_tellThing_67 (i := 0) rfl rfl ?_
  refine a_get C fl_RX12_191 (i := 236) kd_236 (hid 236 (by decide)) (v := .int (σ13.1 236 13)) rfl dX12_tellThing_68 ?_
  refine p_if_ne C (X := (σ13.1 236 13).toInt) rfl dX12_tellThing_71 (tgt := 87) rfl h (fun h => ?_) (fun h => ?_)
  ·
    exact a_vret Rt dX12_tellThing_87 (retv_eq (h.trans (congrArg some hR.symm)))
  ·
    refine a_aload_n C dX12_tellThing_74 (i := 0) rfl rfl ?_
    refine a_get C fl_RX12_43 (i := 236) kd_236 (hid 236 (by decide)) (v := .ref (ad 245)) rfl dX12_tellThing_75 ?_
    refine a_aload_n C dX12_tellThing_78 (i := 0) rfl rfl ?_
    refine a_get C fl_RX12_224 (i := 236) kd_236 (hid 236 (by decide)) (v := .int (σ13.1 236 19)) rfl dX12_tellThing_79 ?_
    refine a_dup2 C dX12_tellThing_82 rfl rfl ?_
    refine p_iald C (i := 245) (show rowOK 245 from ⟨kd_245, by decide⟩) hid (by rw [al_245]; rfl) dX12_tellThing_83 h (fun h => ?_)
    refine a_iconst C dX12_tellThing_84 (v := 1) rfl ?_
    refine a_iadd C dX12_tellThing_85 ?_
    refine p_iast C (i := 245) (show rowOK 245 from ⟨kd_245, by decide⟩) hid (by rw [al_245]; rfl) dX12_tellThing_86 h (fun σ15 h => ?_)
    exact a_vret Rt dX12_tellThing_87 (retv_eq (h.trans (congrArg some hR.symm)))
set_option maxHeartbeats 4000000 in
set_option maxRecDepth 100000 in
theorem Z_X12_tellPattern {l : Launch} {D : va_G} {ids : List Nat} {ad : Nat → Nat} {ca : Nat → ClassId} {σ : HS} {s0 : HS} (hid : ∀ i, i < 277 → i ∈ ids) (h : f_X12_tellPattern σ = some s0) : Kv l D ids ad ca yX12_tellPattern cX12_tellPattern 3 4 84 [.ref (ad 236)] σ (fun σ1 => σ1 = s0) := by
  obtain ⟨R, hR⟩ : ∃ R, s0 = R := ⟨_, rfl⟩
  replace h := h.trans (congrArg some hR)
  refine Kv.of (by decide) (Nat.le_of_ble_eq_true rfl) 2 (fun Γ C Rt => ?_)
  show AW ids ad ca Γ 0 [some (.ref (ad 236)), none, none] [] σ
  unfold f_X12_tellPattern at h
  have j120 : ∀ (y2 : Int32) (σ : HS), f_X12_tellPattern_120 y2 σ = some R → AW ids ad ca Γ 120 [some (.ref (ad 236)), none, some (.int y2)] [] σ := by
    intro y2 σ h
    unfold f_X12_tellPattern_120 at h
    refine a_aload_n C dX12_tellPattern_120 (i := 0) rfl rfl ?_
    refine a_iload_n C dX12_tellPattern_121 (i := 2) rfl rfl ?_
    refine p_callVv C (As := [.int y2]) (i := 236) kd_236 (hid 236 (by decide)) ⟨_, _, rfl⟩ (by decide) h (fun _ e => Z_X12_ends hid e) mi_X12_ends ml_RX12_275 rfl rfl (Nat.le_of_ble_eq_true rfl) (Nat.le_of_ble_eq_true rfl) (Nat.le_of_ble_eq_true rfl) dX12_tellPattern_122 (fun σ1 h => ?_)
    refine a_aload_n C dX12_tellPattern_125 (i := 0) rfl rfl ?_
    refine a_get C fl_RX12_191 (i := 236) kd_236 (hid 236 (by decide)) (v := .int (σ1.1 236 13)) rfl dX12_tellPattern_126 ?_
    refine p_if_ne C (X := (σ1.1 236 13).toInt) rfl dX12_tellPattern_129 (tgt := 145) rfl h (fun h => ?_) (fun h => ?_)
    ·
      exact a_vret Rt dX12_tellPattern_145 (retv_eq (h.trans (congrArg some hR.symm)))
    ·
      refine a_aload_n C dX12_tellPattern_132 (i := 0) rfl rfl ?_
      refine a_get C fl_RX12_55 (i := 236) kd_236 (hid 236 (by decide)) (v := .ref (ad 249)) rfl dX12_tellPattern_133 ?_
      refine a_aload_n C dX12_tellPattern_136 (i := 0) rfl rfl ?_
      refine a_get C fl_RX12_224 (i := 236) kd_236 (hid 236 (by decide)) (v := .int (σ1.1 236 19)) rfl dX12_tellPattern_137 ?_
      refine a_dup2 C dX12_tellPattern_140 rfl rfl ?_
      refine p_iald C (i := 249) (show rowOK 249 from ⟨kd_249, by decide⟩) hid (by rw [al_249]; rfl) dX12_tellPattern_141 h (fun h => ?_)
      refine a_iconst C dX12_tellPattern_142 (v := 1) rfl ?_
      refine a_iadd C dX12_tellPattern_143 ?_
      refine p_iast C (i := 249) (show rowOK 249 from ⟨kd_249, by decide⟩) hid (by rw [al_249]; rfl) dX12_tellPattern_144 h (fun σ3 h => ?_)
      exact a_vret Rt dX12_tellPattern_145 (retv_eq (h.trans (congrArg some hR.symm)))
  have j76 : ∀ (k45 : Int32 → Int32 → HS → Option (HS)) (hk45 : ∀ (y1 : Int32) (y2 : Int32) (σ : HS), k45 y1 y2 σ = some R → AW ids ad ca Γ 45 [some (.ref (ad 236)), some (.int y1), some (.int y2)] [] σ) (y1 : Int32) (y2 : Int32) (σ : HS), f_X12_tellPattern_76 k45 y1 y2 σ = some R → AW ids ad ca Γ 76 [some (.ref (ad 236)), some (.int y1), some (.int y2)] [] σ := by
    intro k45 hk45 y1 y2 σ h
    unfold f_X12_tellPattern_76 at h
    refine a_aload_n C dX12_tellPattern_76 (i := 0) rfl rfl ?_
    refine a_get C fl_RX12_191 (i := 236) kd_236 (hid 236 (by decide)) (v := .int (σ.1 236 13)) rfl dX12_tellPattern_77 ?_
    refine p_if_le C (X := (σ.1 236 13).toInt) rfl dX12_tellPattern_80 (tgt := 84) rfl h (fun h => ?_) (fun h => ?_)
    ·
      refine a_aload_n C dX12_tellPattern_84 (i := 0) rfl rfl ?_
      refine a_get C fl_RX12_61 (i := 236) kd_236 (hid 236 (by decide)) (v := .ref (ad 251)) rfl dX12_tellPattern_85 ?_
      refine a_bipush C dX12_tellPattern_88 (v := 8) rfl ?_
      refine a_iload_n C dX12_tellPattern_90 (i := 1) rfl rfl ?_
      refine a_imul C dX12_tellPattern_91 ?_
      refine a_aload_n C dX12_tellPattern_92 (i := 0) rfl rfl ?_
      refine a_get C fl_RX12_58 (i := 236) kd_236 (hid 236 (by decide)) (v := .ref (ad 250)) rfl dX12_tellPattern_93 ?_
      refine a_iload_n C dX12_tellPattern_96 (i := 1) rfl rfl ?_
      refine p_iald C (i := 250) (show rowOK 250 from ⟨kd_250, by decide⟩) hid (by rw [al_250]; rfl) dX12_tellPattern_97 h (fun h => ?_)
      refine a_iadd C dX12_tellPattern_98 ?_
      refine a_aload_n C dX12_tellPattern_99 (i := 0) rfl rfl ?_
      refine a_iconst C dX12_tellPattern_100 (v := 0) rfl ?_
      refine a_bipush C dX12_tellPattern_101 (v := 9) rfl ?_
      refine p_callVi C (As := [.int 0, .int 9]) (i := 236) kd_236 (hid 236 (by decide)) ⟨_, _, rfl⟩ (by decide) h (fun _ _ e => Z_X12_bounded hid e) mi_X12_bounded ml_RX12_245 rfl rfl (Nat.le_of_ble_eq_true rfl) (Nat.le_of_ble_eq_true rfl) (Nat.le_of_ble_eq_true rfl) dX12_tellPattern_103 (fun r2 σ1 h => ?_)
      refine p_iast C (i := 251) (show rowOK 251 from ⟨kd_251, by decide⟩) hid (by rw [al_251]; rfl) dX12_tellPattern_106 h (fun σ3 h => ?_)
      refine a_aload_n C dX12_tellPattern_107 (i := 0) rfl rfl ?_
      refine a_get C fl_RX12_58 (i := 236) kd_236 (hid 236 (by decide)) (v := .ref (ad 250)) rfl dX12_tellPattern_108 ?_
      refine a_iload_n C dX12_tellPattern_111 (i := 1) rfl rfl ?_
      refine a_dup2 C dX12_tellPattern_112 rfl rfl ?_
      refine p_iald C (i := 250) (show rowOK 250 from ⟨kd_250, by decide⟩) hid (by rw [al_250]; rfl) dX12_tellPattern_113 h (fun h => ?_)
      refine a_iconst C dX12_tellPattern_114 (v := 1) rfl ?_
      refine a_iadd C dX12_tellPattern_115 ?_
      refine p_iast C (i := 250) (show rowOK 250 from ⟨kd_250, by decide⟩) hid (by rw [al_250]; rfl) dX12_tellPattern_116 h (fun σ4 h => ?_)
      refine a_goto C dX12_tellPattern_117 (tgt := 45) rfl ?_
      exact hk45 _ _ _ h
    ·
      exact a_vret Rt dX12_tellPattern_83 (retv_eq (h.trans (congrArg some hR.symm)))
  have j45 : ∀ (n : Nat) (y1 : Int32) (y2 : Int32) (σ : HS), f_X12_tellPattern_45 n y1 y2 σ = some R → AW ids ad ca Γ 45 [some (.ref (ad 236)), some (.int y1), some (.int y2)] [] σ := by
    intro n
    induction n with
    | zero => intro y1 y2 σ h; exact nn h
    | succ n ih =>
      intro y1 y2 σ h
      have h : b_X12_tellPattern_45 (f_X12_tellPattern_45 n) y1 y2 σ = some R := h
      unfold b_X12_tellPattern_45 at h
      refine a_aload_n C dX12_tellPattern_45 (i := 0) rfl rfl ?_
      refine a_get C fl_RX12_191 (i := 236) kd_236 (hid 236 (by decide)) (v := .int (σ.1 236 13)) rfl dX12_tellPattern_46 ?_
      refine p_if_ne C (X := (σ.1 236 13).toInt) rfl dX12_tellPattern_49 (tgt := 120) rfl h (fun h => ?_) (fun h => ?_)
      ·
        refine AW.sub (vs' := [some (.ref (ad 236)), none, some (.int y2)]) (lsub_of (by simp [lsubB])) ?_
        exact j120 _ _ h
      ·
        refine a_aload_n C dX12_tellPattern_52 (i := 0) rfl rfl ?_
        refine a_iconst C dX12_tellPattern_53 (v := 2) rfl ?_
        refine p_callVi C (As := [.int 2]) (i := 236) kd_236 (hid 236 (by decide)) ⟨_, _, rfl⟩ (by decide) h (fun _ _ e => Z_X12_is hid e) mi_X12_is ml_RX12_209 rfl rfl (Nat.le_of_ble_eq_true rfl) (Nat.le_of_ble_eq_true rfl) (Nat.le_of_ble_eq_true rfl) dX12_tellPattern_54 (fun r2 σ1 h => ?_)
        refine p_if_eq C (X := r2.toInt) rfl dX12_tellPattern_57 (tgt := 120) rfl h (fun h => ?_) (fun h => ?_)
        ·
          refine AW.sub (vs' := [some (.ref (ad 236)), none, some (.int y2)]) (lsub_of (by simp [lsubB])) ?_
          exact j120 _ _ h
        ·
          refine a_aload_n C dX12_tellPattern_60 (i := 0) rfl rfl ?_
          refine a_get C fl_RX12_58 (i := 236) kd_236 (hid 236 (by decide)) (v := .ref (ad 250)) rfl dX12_tellPattern_61 ?_
          refine a_iload_n C dX12_tellPattern_64 (i := 1) rfl rfl ?_
          refine p_iald C (i := 250) (show rowOK 250 from ⟨kd_250, by decide⟩) hid (by rw [al_250]; rfl) dX12_tellPattern_65 h (fun h => ?_)
          refine a_bipush C dX12_tellPattern_66 (v := 8) rfl ?_
          refine p_ic_ne C (X := (σ1.1 250 y1.toInt.toNat).toInt) (Y := 8) rfl (by decide) dX12_tellPattern_68 (tgt := 76) rfl h (fun h => ?_) (fun h => ?_)
          ·
            exact j76 (f_X12_tellPattern_45 n) (fun y1 y2 σ h => ih y1 y2 σ h) _ _ _ h
          ·
            refine a_aload_n C dX12_tellPattern_71 (i := 0) rfl rfl ?_
            refine a_iconst C dX12_tellPattern_72 (v := 2) rfl ?_
            refine p_callVv C (As := [.int 2]) (i := 236) kd_236 (hid 236 (by decide)) ⟨_, _, rfl⟩ (by decide) h (fun _ e => Z_X12_fail hid e) mi_X12_fail ml_RX12_206 rfl rfl (Nat.le_of_ble_eq_true rfl) (Nat.le_of_ble_eq_true rfl) (Nat.le_of_ble_eq_true rfl) dX12_tellPattern_73 (fun σ3 h => ?_)
            exact j76 (f_X12_tellPattern_45 n) (fun y1 y2 σ h => ih y1 y2 σ h) _ _ _ h
  refine a_iconst C dX12_tellPattern_0 (v := 5) rfl ?_
  refine a_aload_n C dX12_tellPattern_1 (i := 0) rfl rfl ?_
  refine a_get C fl_RX12_224 (i := 236) kd_236 (hid 236 (by decide)) (v := .int (σ.1 236 19)) rfl dX12_tellPattern_2 ?_
  refine a_imul C dX12_tellPattern_5 ?_
  refine a_aload_n C dX12_tellPattern_6 (i := 0) rfl rfl ?_
  refine a_get C fl_RX12_55 (i := 236) kd_236 (hid 236 (by decide)) (v := .ref (ad 249)) rfl dX12_tellPattern_7 ?_
  refine a_aload_n C dX12_tellPattern_10 (i := 0) rfl rfl ?_
  refine a_get C fl_RX12_224 (i := 236) kd_236 (hid 236 (by decide)) (v := .int (σ.1 236 19)) rfl dX12_tellPattern_11 ?_
  refine p_iald C (i := 249) (show rowOK 249 from ⟨kd_249, by decide⟩) hid (by rw [al_249]; rfl) dX12_tellPattern_14 h (fun h => ?_)
  refine a_iadd C dX12_tellPattern_15 ?_
  refine p_istore_n C (fun z1 => [some (.ref (ad 236)), some (.int z1), none]) dX12_tellPattern_16 (i := 1) rfl (by decide) rfl (fun _ => rfl) h (fun z1 h => ?_)
  refine a_aload_n C dX12_tellPattern_17 (i := 0) rfl rfl ?_
  refine p_callVi C (As := []) (i := 236) kd_236 (hid 236 (by decide)) ⟨_, _, rfl⟩ (by decide) h (fun _ _ e => Z_X12_named hid e) mi_X12_named ml_RX12_271 rfl rfl (Nat.le_of_ble_eq_true rfl) (Nat.le_of_ble_eq_true rfl) (Nat.le_of_ble_eq_true rfl) dX12_tellPattern_18 (fun r3 σ2 h => ?_)
  refine a_istore_n C dX12_tellPattern_21 (i := 2) rfl (by decide) rfl (vs1 := [some (.ref (ad 236)), some (.int z1), some (.int r3)]) rfl ?_
  refine a_aload_n C dX12_tellPattern_22 (i := 0) rfl rfl ?_
  refine a_get C fl_RX12_61 (i := 236) kd_236 (hid 236 (by decide)) (v := .ref (ad 251)) rfl dX12_tellPattern_23 ?_
  refine a_bipush C dX12_tellPattern_26 (v := 8) rfl ?_
  refine a_iload_n C dX12_tellPattern_28 (i := 1) rfl rfl ?_
  refine a_imul C dX12_tellPattern_29 ?_
  refine a_aload_n C dX12_tellPattern_30 (i := 0) rfl rfl ?_
  refine a_iconst C dX12_tellPattern_31 (v := 0) rfl ?_
  refine a_bipush C dX12_tellPattern_32 (v := 9) rfl ?_
  refine p_callVi C (As := [.int 0, .int 9]) (i := 236) kd_236 (hid 236 (by decide)) ⟨_, _, rfl⟩ (by decide) h (fun _ _ e => Z_X12_bounded hid e) mi_X12_bounded ml_RX12_245 rfl rfl (Nat.le_of_ble_eq_true rfl) (Nat.le_of_ble_eq_true rfl) (Nat.le_of_ble_eq_true rfl) dX12_tellPattern_34 (fun r5 σ4 h => ?_)
  refine p_iast C (i := 251) (show rowOK 251 from ⟨kd_251, by decide⟩) hid (by rw [al_251]; rfl) dX12_tellPattern_37 h (fun σ6 h => ?_)
  refine a_aload_n C dX12_tellPattern_38 (i := 0) rfl rfl ?_
  refine a_get C fl_RX12_58 (i := 236) kd_236 (hid 236 (by decide)) (v := .ref (ad 250)) rfl dX12_tellPattern_39 ?_
  refine a_iload_n C dX12_tellPattern_42 (i := 1) rfl rfl ?_
  refine a_iconst C dX12_tellPattern_43 (v := 1) rfl ?_
  refine p_iast C (i := 250) (show rowOK 250 from ⟨kd_250, by decide⟩) hid (by rw [al_250]; rfl) dX12_tellPattern_44 h (fun σ7 h => ?_)
  exact j45 _ _ _ _ h

set_option maxHeartbeats 4000000 in
set_option maxRecDepth 100000 in
theorem Z_X12_toldInt {l : Launch} {D : va_G} {ids : List Nat} {ad : Nat → Nat} {ca : Nat → ClassId} {σ : HS} {x1 : Int32} {x2 : Int32} {r0 : Int32} {s0 : HS} (hid : ∀ i, i < 277 → i ∈ ids) (h : f_X12_toldInt x1 x2 σ = some (r0, s0)) : Ki l D ids ad ca yX12_toldInt cX12_toldInt 4 .int 3 64 [.ref (ad 236), .int x1, .int x2] σ (fun r σ1 => r = r0 ∧ σ1 = s0) := by
  obtain ⟨R, hR⟩ : ∃ R, (r0, s0) = R := ⟨_, rfl⟩
  replace h := h.trans (congrArg some hR)
  refine Ki.of (by decide) (Nat.le_of_ble_eq_true rfl) 1 (fun Γ C Rt => ?_)
  show AW ids ad ca Γ 0 [some (.ref (ad 236)), some (.int x1), some (.int x2), none] [] σ
  unfold f_X12_toldInt at h
  refine a_aload_n C dX12_toldInt_0 (i := 0) rfl rfl ?_
  refine p_callVv C (As := []) (i := 236) kd_236 (hid 236 (by decide)) ⟨_, _, rfl⟩ (by decide) h (fun _ e => Z_X12_goesOn hid e) mi_X12_goesOn ml_RX12_212 rfl rfl (Nat.le_of_ble_eq_true rfl) (Nat.le_of_ble_eq_true rfl) (Nat.le_of_ble_eq_true rfl) dX12_toldInt_1 (fun σ1 h => ?_)
  refine a_aload_n C dX12_toldInt_4 (i := 0) rfl rfl ?_
  refine a_iload_n C dX12_toldInt_5 (i := 1) rfl rfl ?_
  refine a_iload_n C dX12_toldInt_6 (i := 2) rfl rfl ?_
  refine p_callVi C (As := [.int x1, .int x2]) (i := 236) kd_236 (hid 236 (by decide)) ⟨_, _, rfl⟩ (by decide) h (fun _ _ e => Z_X12_bounded hid e) mi_X12_bounded ml_RX12_245 rfl rfl (Nat.le_of_ble_eq_true rfl) (Nat.le_of_ble_eq_true rfl) (Nat.le_of_ble_eq_true rfl) dX12_toldInt_7 (fun r4 σ3 h => ?_)
  refine a_istore_n C dX12_toldInt_10 (i := 3) rfl (by decide) rfl (vs1 := [some (.ref (ad 236)), some (.int x1), some (.int x2), some (.int r4)]) rfl ?_
  refine a_aload_n C dX12_toldInt_11 (i := 0) rfl rfl ?_
  refine a_iconst C dX12_toldInt_12 (v := 4) rfl ?_
  refine p_callVv C (As := [.int 4]) (i := 236) kd_236 (hid 236 (by decide)) ⟨_, _, rfl⟩ (by decide) h (fun _ e => Z_X12_must hid e) mi_X12_must ml_RX12_249 rfl rfl (Nat.le_of_ble_eq_true rfl) (Nat.le_of_ble_eq_true rfl) (Nat.le_of_ble_eq_true rfl) dX12_toldInt_13 (fun σ5 h => ?_)
  refine a_iload_n C dX12_toldInt_16 (i := 3) rfl rfl ?_
  exact a_iret Rt dX12_toldInt_17 rfl (ret_eq (h.trans (congrArg some hR.symm)))
set_option maxHeartbeats 4000000 in
set_option maxRecDepth 100000 in
theorem Z_X12_emit {l : Launch} {D : va_G} {ids : List Nat} {ad : Nat → Nat} {ca : Nat → ClassId} {σ : HS} {x1 : Int32} {x2 : Int32} {s0 : HS} (hid : ∀ i, i < 277 → i ∈ ids) (h : f_X12_emit x1 x2 σ = some s0) : Kv l D ids ad ca yX12_emit cX12_emit 3 0 0 [.ref (ad 236), .int x1, .int x2] σ (fun σ1 => σ1 = s0) := by
  obtain ⟨R, hR⟩ : ∃ R, s0 = R := ⟨_, rfl⟩
  replace h := h.trans (congrArg some hR)
  refine Kv.of (by decide) (Nat.le_of_ble_eq_true rfl) 0 (fun Γ C Rt => ?_)
  show AW ids ad ca Γ 0 [some (.ref (ad 236)), some (.int x1), some (.int x2)] [] σ
  unfold f_X12_emit at h
  refine a_aload_n C dX12_emit_0 (i := 0) rfl rfl ?_
  refine a_get C fl_RX12_92 (i := 236) kd_236 (hid 236 (by decide)) (v := .ref (ad 261)) rfl dX12_emit_1 ?_
  refine a_aload_n C dX12_emit_4 (i := 0) rfl rfl ?_
  refine a_get C fl_RX12_233 (i := 236) kd_236 (hid 236 (by decide)) (v := .int (σ.1 236 39)) rfl dX12_emit_5 ?_
  refine a_iload_n C dX12_emit_8 (i := 1) rfl rfl ?_
  refine p_iast C (i := 261) (show rowOK 261 from ⟨kd_261, by decide⟩) hid (by rw [al_261]; rfl) dX12_emit_9 h (fun σ1 h => ?_)
  refine a_aload_n C dX12_emit_10 (i := 0) rfl rfl ?_
  refine a_get C fl_RX12_95 (i := 236) kd_236 (hid 236 (by decide)) (v := .ref (ad 262)) rfl dX12_emit_11 ?_
  refine a_aload_n C dX12_emit_14 (i := 0) rfl rfl ?_
  refine a_get C fl_RX12_233 (i := 236) kd_236 (hid 236 (by decide)) (v := .int (σ1.1 236 39)) rfl dX12_emit_15 ?_
  refine a_iload_n C dX12_emit_18 (i := 2) rfl rfl ?_
  refine p_iast C (i := 262) (show rowOK 262 from ⟨kd_262, by decide⟩) hid (by rw [al_262]; rfl) dX12_emit_19 h (fun σ2 h => ?_)
  refine a_aload_n C dX12_emit_20 (i := 0) rfl rfl ?_
  refine a_dup C dX12_emit_21 rfl ?_
  refine a_get C fl_RX12_233 (i := 236) kd_236 (hid 236 (by decide)) (v := .int (σ2.1 236 39)) rfl dX12_emit_22 ?_
  refine a_iconst C dX12_emit_25 (v := 1) rfl ?_
  refine a_iadd C dX12_emit_26 ?_
  refine p_put C fp_RX12_233 (i := 236) kd_236 (hid 236 (by decide)) rfl rfl dX12_emit_27 h (fun σ3 h => ?_)
  exact a_vret Rt dX12_emit_30 (retv_eq (h.trans (congrArg some hR.symm)))
set_option maxHeartbeats 4000000 in
set_option maxRecDepth 100000 in
theorem Z_X12_unit {l : Launch} {D : va_G} {ids : List Nat} {ad : Nat → Nat} {ca : Nat → ClassId} {σ : HS} {s0 : HS} (hid : ∀ i, i < 277 → i ∈ ids) (h : f_X12_unit σ = some s0) : Kv l D ids ad ca yX12_unit cX12_unit 1 2 41 [.ref (ad 236)] σ (fun σ1 => σ1 = s0) := by
  obtain ⟨R, hR⟩ : ∃ R, s0 = R := ⟨_, rfl⟩
  replace h := h.trans (congrArg some hR)
  refine Kv.of (by decide) (Nat.le_of_ble_eq_true rfl) 0 (fun Γ C Rt => ?_)
  show AW ids ad ca Γ 0 [some (.ref (ad 236))] [] σ
  unfold f_X12_unit at h
  have j88 : ∀ (σ : HS), f_X12_unit_88 σ = some R → AW ids ad ca Γ 88 [some (.ref (ad 236))] [] σ := by
    intro σ h
    unfold f_X12_unit_88 at h
    refine a_aload_n C dX12_unit_88 (i := 0) rfl rfl ?_
    refine a_iconst C dX12_unit_89 (v := 1) rfl ?_
    refine p_callVv C (As := [.int 1]) (i := 236) kd_236 (hid 236 (by decide)) ⟨_, _, rfl⟩ (by decide) h (fun _ e => Z_X12_fail hid e) mi_X12_fail ml_RX12_206 rfl rfl (Nat.le_of_ble_eq_true rfl) (Nat.le_of_ble_eq_true rfl) (Nat.le_of_ble_eq_true rfl) dX12_unit_90 (fun σ1 h => ?_)
    exact a_vret Rt dX12_unit_93 (retv_eq (h.trans (congrArg some hR.symm)))
  refine a_aload_n C dX12_unit_0 (i := 0) rfl rfl ?_
  refine a_iconst C dX12_unit_1 (v := 2) rfl ?_
  refine p_callVi C (As := [.int 2]) (i := 236) kd_236 (hid 236 (by decide)) ⟨_, _, rfl⟩ (by decide) h (fun _ _ e => Z_X12_is hid e) mi_X12_is ml_RX12_209 rfl rfl (Nat.le_of_ble_eq_true rfl) (Nat.le_of_ble_eq_true rfl) (Nat.le_of_ble_eq_true rfl) dX12_unit_2 (fun r2 σ1 h => ?_)
  refine p_if_eq C (X := r2.toInt) rfl dX12_unit_5 (tgt := 29) rfl h (fun h => ?_) (fun h => ?_)
  ·
    refine a_aload_n C dX12_unit_29 (i := 0) rfl rfl ?_
    refine a_get C fl_RX12_191 (i := 236) kd_236 (hid 236 (by decide)) (v := .int (σ1.1 236 13)) rfl dX12_unit_30 ?_
    refine p_if_ne C (X := (σ1.1 236 13).toInt) rfl dX12_unit_33 (tgt := 88) rfl h (fun h => ?_) (fun h => ?_)
    ·
      exact j88 _ h
    ·
      refine a_aload_n C dX12_unit_36 (i := 0) rfl rfl ?_
      refine a_get C fl_RX12_20 (i := 236) kd_236 (hid 236 (by decide)) (v := .ref (ad 239)) rfl dX12_unit_37 ?_
      refine a_aload_n C dX12_unit_40 (i := 0) rfl rfl ?_
      refine a_get C fl_RX12_194 (i := 236) kd_236 (hid 236 (by decide)) (v := .int (σ1.1 236 11)) rfl dX12_unit_41 ?_
      refine p_iald C (i := 239) (show rowOK 239 from ⟨kd_239, by decide⟩) hid (by rw [al_239]; rfl) dX12_unit_44 h (fun h => ?_)
      refine a_bipush C dX12_unit_45 (v := 31) rfl ?_
      refine p_ic_lt C (X := (σ1.1 239 (σ1.1 236 11).toInt.toNat).toInt) (Y := 31) rfl (by decide) dX12_unit_47 (tgt := 88) rfl h (fun h => ?_) (fun h => ?_)
      ·
        exact j88 _ h
      ·
        refine a_aload_n C dX12_unit_50 (i := 0) rfl rfl ?_
        refine a_get C fl_RX12_20 (i := 236) kd_236 (hid 236 (by decide)) (v := .ref (ad 239)) rfl dX12_unit_51 ?_
        refine a_aload_n C dX12_unit_54 (i := 0) rfl rfl ?_
        refine a_get C fl_RX12_194 (i := 236) kd_236 (hid 236 (by decide)) (v := .int (σ1.1 236 11)) rfl dX12_unit_55 ?_
        refine p_iald C (i := 239) (show rowOK 239 from ⟨kd_239, by decide⟩) hid (by rw [al_239]; rfl) dX12_unit_58 h (fun h => ?_)
        refine a_bipush C dX12_unit_59 (v := 39) rfl ?_
        refine p_ic_gt C (X := (σ1.1 239 (σ1.1 236 11).toInt.toNat).toInt) (Y := 39) rfl (by decide) dX12_unit_61 (tgt := 88) rfl h (fun h => ?_) (fun h => ?_)
        ·
          exact j88 _ h
        ·
          refine a_aload_n C dX12_unit_64 (i := 0) rfl rfl ?_
          refine a_iconst C dX12_unit_65 (v := 1) rfl ?_
          refine a_aload_n C dX12_unit_66 (i := 0) rfl rfl ?_
          refine a_get C fl_RX12_20 (i := 236) kd_236 (hid 236 (by decide)) (v := .ref (ad 239)) rfl dX12_unit_67 ?_
          refine a_aload_n C dX12_unit_70 (i := 0) rfl rfl ?_
          refine a_get C fl_RX12_194 (i := 236) kd_236 (hid 236 (by decide)) (v := .int (σ1.1 236 11)) rfl dX12_unit_71 ?_
          refine p_iald C (i := 239) (show rowOK 239 from ⟨kd_239, by decide⟩) hid (by rw [al_239]; rfl) dX12_unit_74 h (fun h => ?_)
          refine a_bipush C dX12_unit_75 (v := 31) rfl ?_
          refine a_isub C dX12_unit_77 ?_
          refine p_callVv C (As := [.int 1, .int ((σ1.1 239 (σ1.1 236 11).toInt.toNat) - (31 : Int32))]) (i := 236) kd_236 (hid 236 (by decide)) ⟨_, _, rfl⟩ (by decide) h (fun _ e => Z_X12_emit hid e) mi_X12_emit ml_RX12_287 rfl rfl (Nat.le_of_ble_eq_true rfl) (Nat.le_of_ble_eq_true rfl) (Nat.le_of_ble_eq_true rfl) dX12_unit_78 (fun σ3 h => ?_)
          refine a_aload_n C dX12_unit_81 (i := 0) rfl rfl ?_
          refine p_callVv C (As := []) (i := 236) kd_236 (hid 236 (by decide)) ⟨_, _, rfl⟩ (by decide) h (fun _ e => Z_X12_goesOn hid e) mi_X12_goesOn ml_RX12_212 rfl rfl (Nat.le_of_ble_eq_true rfl) (Nat.le_of_ble_eq_true rfl) (Nat.le_of_ble_eq_true rfl) dX12_unit_82 (fun σ5 h => ?_)
          refine a_goto C dX12_unit_85 (tgt := 93) rfl ?_
          exact a_vret Rt dX12_unit_93 (retv_eq (h.trans (congrArg some hR.symm)))
  ·
    refine a_aload_n C dX12_unit_8 (i := 0) rfl rfl ?_
    refine a_iconst C dX12_unit_9 (v := 0) rfl ?_
    refine a_aload_n C dX12_unit_10 (i := 0) rfl rfl ?_
    refine a_get C fl_RX12_27 (i := 236) kd_236 (hid 236 (by decide)) (v := .ref (ad 241)) rfl dX12_unit_11 ?_
    refine a_aload_n C dX12_unit_14 (i := 0) rfl rfl ?_
    refine a_get C fl_RX12_194 (i := 236) kd_236 (hid 236 (by decide)) (v := .int (σ1.1 236 11)) rfl dX12_unit_15 ?_
    refine p_iald C (i := 241) (show rowOK 241 from ⟨kd_241, by decide⟩) hid (by rw [al_241]; rfl) dX12_unit_18 h (fun h => ?_)
    refine p_callVv C (As := [.int 0, .int (σ1.1 241 (σ1.1 236 11).toInt.toNat)]) (i := 236) kd_236 (hid 236 (by decide)) ⟨_, _, rfl⟩ (by decide) h (fun _ e => Z_X12_emit hid e) mi_X12_emit ml_RX12_287 rfl rfl (Nat.le_of_ble_eq_true rfl) (Nat.le_of_ble_eq_true rfl) (Nat.le_of_ble_eq_true rfl) dX12_unit_19 (fun σ7 h => ?_)
    refine a_aload_n C dX12_unit_22 (i := 0) rfl rfl ?_
    refine p_callVv C (As := []) (i := 236) kd_236 (hid 236 (by decide)) ⟨_, _, rfl⟩ (by decide) h (fun _ e => Z_X12_goesOn hid e) mi_X12_goesOn ml_RX12_212 rfl rfl (Nat.le_of_ble_eq_true rfl) (Nat.le_of_ble_eq_true rfl) (Nat.le_of_ble_eq_true rfl) dX12_unit_23 (fun σ9 h => ?_)
    refine a_goto C dX12_unit_26 (tgt := 93) rfl ?_
    exact a_vret Rt dX12_unit_93 (retv_eq (h.trans (congrArg some hR.symm)))
set_option maxHeartbeats 4000000 in
set_option maxRecDepth 100000 in
theorem Z_X12_comesOut {l : Launch} {D : va_G} {ids : List Nat} {ad : Nat → Nat} {ca : Nat → ClassId} {σ : HS} {x1 : Int32} {s0 : HS} (hid : ∀ i, i < 277 → i ∈ ids) (h : f_X12_comesOut x1 σ = some s0) : Kv l D ids ad ca yX12_comesOut cX12_comesOut 3 1 22 [.ref (ad 236), .int x1] σ (fun σ1 => σ1 = s0) := by
  obtain ⟨R, hR⟩ : ∃ R, s0 = R := ⟨_, rfl⟩
  replace h := h.trans (congrArg some hR)
  refine Kv.of (by decide) (Nat.le_of_ble_eq_true rfl) 1 (fun Γ C Rt => ?_)
  show AW ids ad ca Γ 0 [some (.ref (ad 236)), some (.int x1), none] [] σ
  unfold f_X12_comesOut at h
  have j84 : ∀ (k0 : Int32 → HS → Option (HS)) (hk0 : ∀ (y1 : Int32) (σ : HS), k0 y1 σ = some R → AW ids ad ca Γ 0 [some (.ref (ad 236)), some (.int y1), none] [] σ) (y1 : Int32) (v0 : Int32) (σ : HS), f_X12_comesOut_84 k0 y1 v0 σ = some R → AW ids ad ca Γ 84 [some (.ref (ad 236)), some (.int y1), none] [.int v0, .ref (ad 236)] σ := by
    intro k0 hk0 y1 v0 σ h
    unfold f_X12_comesOut_84 at h
    refine a_iconst C dX12_comesOut_84 (v := 0) rfl ?_
    refine p_callVv C (As := [.int v0, .int 0]) (i := 236) kd_236 (hid 236 (by decide)) ⟨_, _, rfl⟩ (by decide) h (fun _ e => Z_X12_emit hid e) mi_X12_emit ml_RX12_287 rfl rfl (Nat.le_of_ble_eq_true rfl) (Nat.le_of_ble_eq_true rfl) (Nat.le_of_ble_eq_true rfl) dX12_comesOut_85 (fun σ1 h => ?_)
    refine a_goto C dX12_comesOut_88 (tgt := 0) rfl ?_
    exact hk0 _ _ h
  have j42 : ∀ (k0 : Int32 → HS → Option (HS)) (hk0 : ∀ (y1 : Int32) (σ : HS), k0 y1 σ = some R → AW ids ad ca Γ 0 [some (.ref (ad 236)), some (.int y1), none] [] σ) (y1 : Int32) (y2 : Int32) (σ : HS), f_X12_comesOut_42 k0 y1 y2 σ = some R → AW ids ad ca Γ 42 [some (.ref (ad 236)), some (.int y1), some (.int y2)] [] σ := by
    intro k0 hk0 y1 y2 σ h
    unfold f_X12_comesOut_42 at h
    refine a_aload_n C dX12_comesOut_42 (i := 0) rfl rfl ?_
    refine a_dup C dX12_comesOut_43 rfl ?_
    refine a_get C fl_RX12_284 (i := 236) kd_236 (hid 236 (by decide)) (v := .int (σ.1 236 43)) rfl dX12_comesOut_44 ?_
    refine a_iconst C dX12_comesOut_47 (v := 1) rfl ?_
    refine a_isub C dX12_comesOut_48 ?_
    refine p_put C fp_RX12_284 (i := 236) kd_236 (hid 236 (by decide)) rfl rfl dX12_comesOut_49 h (fun σ1 h => ?_)
    refine a_aload_n C dX12_comesOut_52 (i := 0) rfl rfl ?_
    refine a_iload_n C dX12_comesOut_53 (i := 2) rfl rfl ?_
    refine a_bipush C dX12_comesOut_54 (v := 8) rfl ?_
    refine p_ic_ne C (X := y2.toInt) (Y := 8) rfl (by decide) dX12_comesOut_56 (tgt := 63) rfl h (fun h => ?_) (fun h => ?_)
    ·
      refine a_iload_n C dX12_comesOut_63 (i := 2) rfl rfl ?_
      refine a_bipush C dX12_comesOut_64 (v := 9) rfl ?_
      refine p_ic_ne C (X := y2.toInt) (Y := 9) rfl (by decide) dX12_comesOut_66 (tgt := 73) rfl h (fun h => ?_) (fun h => ?_)
      ·
        refine a_iload_n C dX12_comesOut_73 (i := 2) rfl rfl ?_
        refine a_bipush C dX12_comesOut_74 (v := 10) rfl ?_
        refine p_ic_ne C (X := y2.toInt) (Y := 10) rfl (by decide) dX12_comesOut_76 (tgt := 83) rfl h (fun h => ?_) (fun h => ?_)
        ·
          refine a_iconst C dX12_comesOut_83 (v := 5) rfl ?_
          refine AW.sub (vs' := [some (.ref (ad 236)), some (.int y1), none]) (lsub_of (by simp [lsubB])) ?_
          exact j84 k0 hk0 _ _ _ h
        ·
          refine a_iconst C dX12_comesOut_79 (v := 4) rfl ?_
          refine a_goto C dX12_comesOut_80 (tgt := 84) rfl ?_
          refine AW.sub (vs' := [some (.ref (ad 236)), some (.int y1), none]) (lsub_of (by simp [lsubB])) ?_
          exact j84 k0 hk0 _ _ _ h
      ·
        refine a_iconst C dX12_comesOut_69 (v := 3) rfl ?_
        refine a_goto C dX12_comesOut_70 (tgt := 84) rfl ?_
        refine AW.sub (vs' := [some (.ref (ad 236)), some (.int y1), none]) (lsub_of (by simp [lsubB])) ?_
        exact j84 k0 hk0 _ _ _ h
    ·
      refine a_iconst C dX12_comesOut_59 (v := 2) rfl ?_
      refine a_goto C dX12_comesOut_60 (tgt := 84) rfl ?_
      refine AW.sub (vs' := [some (.ref (ad 236)), some (.int y1), none]) (lsub_of (by simp [lsubB])) ?_
      exact j84 k0 hk0 _ _ _ h
  have j0 : ∀ (n : Nat) (y1 : Int32) (σ : HS), f_X12_comesOut_0 n y1 σ = some R → AW ids ad ca Γ 0 [some (.ref (ad 236)), some (.int y1), none] [] σ := by
    intro n
    induction n with
    | zero => intro y1 σ h; exact nn h
    | succ n ih =>
      intro y1 σ h
      have h : b_X12_comesOut_0 (f_X12_comesOut_0 n) y1 σ = some R := h
      unfold b_X12_comesOut_0 at h
      refine a_aload_n C dX12_comesOut_0 (i := 0) rfl rfl ?_
      refine a_get C fl_RX12_284 (i := 236) kd_236 (hid 236 (by decide)) (v := .int (σ.1 236 43)) rfl dX12_comesOut_1 ?_
      refine p_if_le C (X := (σ.1 236 43).toInt) rfl dX12_comesOut_4 (tgt := 91) rfl h (fun h => ?_) (fun h => ?_)
      ·
        exact a_vret Rt dX12_comesOut_91 (retv_eq (h.trans (congrArg some hR.symm)))
      ·
        refine a_aload_n C dX12_comesOut_7 (i := 0) rfl rfl ?_
        refine a_get C fl_RX12_98 (i := 236) kd_236 (hid 236 (by decide)) (v := .ref (ad 263)) rfl dX12_comesOut_8 ?_
        refine a_aload_n C dX12_comesOut_11 (i := 0) rfl rfl ?_
        refine a_get C fl_RX12_284 (i := 236) kd_236 (hid 236 (by decide)) (v := .int (σ.1 236 43)) rfl dX12_comesOut_12 ?_
        refine a_iconst C dX12_comesOut_15 (v := 1) rfl ?_
        refine a_isub C dX12_comesOut_16 ?_
        refine p_iald C (i := 263) (show rowOK 263 from ⟨kd_263, by decide⟩) hid (by rw [al_263]; rfl) dX12_comesOut_17 h (fun h => ?_)
        refine p_istore_n C (fun z1 => [some (.ref (ad 236)), some (.int y1), some (.int z1)]) dX12_comesOut_18 (i := 2) rfl (by decide) rfl (fun _ => rfl) h (fun z1 h => ?_)
        refine a_iload_n C dX12_comesOut_19 (i := 2) rfl rfl ?_
        refine a_bipush C dX12_comesOut_20 (v := 6) rfl ?_
        refine p_ic_eq C (X := z1.toInt) (Y := 6) rfl (by decide) dX12_comesOut_22 (tgt := 41) rfl h (fun h => ?_) (fun h => ?_)
        ·
          exact a_vret Rt dX12_comesOut_41 (retv_eq (h.trans (congrArg some hR.symm)))
        ·
          refine a_iload_n C dX12_comesOut_25 (i := 1) rfl rfl ?_
          refine p_if_eq C (X := y1.toInt) rfl dX12_comesOut_26 (tgt := 42) rfl h (fun h => ?_) (fun h => ?_)
          ·
            exact j42 (f_X12_comesOut_0 n) (fun y1 σ h => ih y1 σ h) _ _ _ h
          ·
            refine a_iload_n C dX12_comesOut_29 (i := 2) rfl rfl ?_
            refine a_bipush C dX12_comesOut_30 (v := 8) rfl ?_
            refine p_ic_eq C (X := z1.toInt) (Y := 8) rfl (by decide) dX12_comesOut_32 (tgt := 41) rfl h (fun h => ?_) (fun h => ?_)
            ·
              exact a_vret Rt dX12_comesOut_41 (retv_eq (h.trans (congrArg some hR.symm)))
            ·
              refine a_iload_n C dX12_comesOut_35 (i := 2) rfl rfl ?_
              refine a_bipush C dX12_comesOut_36 (v := 9) rfl ?_
              refine p_ic_ne C (X := z1.toInt) (Y := 9) rfl (by decide) dX12_comesOut_38 (tgt := 42) rfl h (fun h => ?_) (fun h => ?_)
              ·
                exact j42 (f_X12_comesOut_0 n) (fun y1 σ h => ih y1 σ h) _ _ _ h
              ·
                exact a_vret Rt dX12_comesOut_41 (retv_eq (h.trans (congrArg some hR.symm)))
  exact j0 _ _ _ h
set_option maxHeartbeats 4000000 in
set_option maxRecDepth 100000 in
theorem Z_X12_expression {l : Launch} {D : va_G} {ids : List Nat} {ad : Nat → Nat} {ca : Nat → ClassId} {σ : HS} {s0 : HS} (hid : ∀ i, i < 277 → i ∈ ids) (h : f_X12_expression σ = some s0) : Kv l D ids ad ca yX12_expression cX12_expression 3 3 61 [.ref (ad 236)] σ (fun σ1 => σ1 = s0) := by
  obtain ⟨R, hR⟩ : ∃ R, s0 = R := ⟨_, rfl⟩
  replace h := h.trans (congrArg some hR)
  refine Kv.of (by decide) (Nat.le_of_ble_eq_true rfl) 2 (fun Γ C Rt => ?_)
  show AW ids ad ca Γ 0 [some (.ref (ad 236)), none, none] [] σ
  unfold f_X12_expression at h
  have j234 : ∀ (k12 : Int32 → Int32 → HS → Option (HS)) (hk12 : ∀ (y1 : Int32) (y2 : Int32) (σ : HS), k12 y1 y2 σ = some R → AW ids ad ca Γ 12 [some (.ref (ad 236)), some (.int y1), some (.int y2)] [] σ) (y1 : Int32) (y2 : Int32) (v0 : Int32) (σ : HS), f_X12_expression_234 k12 y1 y2 v0 σ = some R → AW ids ad ca Γ 234 [some (.ref (ad 236)), some (.int y1), some (.int y2)] [.int v0, .ref (ad 236)] σ := by
    intro k12 hk12 y1 y2 v0 σ h
    unfold f_X12_expression_234 at h
    refine p_callVv C (As := [.int v0]) (i := 236) kd_236 (hid 236 (by decide)) ⟨_, _, rfl⟩ (by decide) h (fun _ e => Z_X12_comesOut hid e) mi_X12_comesOut ml_RX12_293 rfl rfl (Nat.le_of_ble_eq_true rfl) (Nat.le_of_ble_eq_true rfl) (Nat.le_of_ble_eq_true rfl) dX12_expression_234 (fun σ1 h => ?_)
    refine a_aload_n C dX12_expression_237 (i := 0) rfl rfl ?_
    refine a_get C fl_RX12_98 (i := 236) kd_236 (hid 236 (by decide)) (v := .ref (ad 263)) rfl dX12_expression_238 ?_
    refine a_aload_n C dX12_expression_241 (i := 0) rfl rfl ?_
    refine a_get C fl_RX12_284 (i := 236) kd_236 (hid 236 (by decide)) (v := .int (σ1.1 236 43)) rfl dX12_expression_242 ?_
    refine a_aload_n C dX12_expression_245 (i := 0) rfl rfl ?_
    refine a_get C fl_RX12_20 (i := 236) kd_236 (hid 236 (by decide)) (v := .ref (ad 239)) rfl dX12_expression_246 ?_
    refine a_aload_n C dX12_expression_249 (i := 0) rfl rfl ?_
    refine a_get C fl_RX12_194 (i := 236) kd_236 (hid 236 (by decide)) (v := .int (σ1.1 236 11)) rfl dX12_expression_250 ?_
    refine p_iald C (i := 239) (show rowOK 239 from ⟨kd_239, by decide⟩) hid (by rw [al_239]; rfl) dX12_expression_253 h (fun h => ?_)
    refine p_iast C (i := 263) (show rowOK 263 from ⟨kd_263, by decide⟩) hid (by rw [al_263]; rfl) dX12_expression_254 h (fun σ3 h => ?_)
    refine a_aload_n C dX12_expression_255 (i := 0) rfl rfl ?_
    refine a_dup C dX12_expression_256 rfl ?_
    refine a_get C fl_RX12_284 (i := 236) kd_236 (hid 236 (by decide)) (v := .int (σ3.1 236 43)) rfl dX12_expression_257 ?_
    refine a_iconst C dX12_expression_260 (v := 1) rfl ?_
    refine a_iadd C dX12_expression_261 ?_
    refine p_put C fp_RX12_284 (i := 236) kd_236 (hid 236 (by decide)) rfl rfl dX12_expression_262 h (fun σ4 h => ?_)
    refine a_aload_n C dX12_expression_265 (i := 0) rfl rfl ?_
    refine p_callVv C (As := []) (i := 236) kd_236 (hid 236 (by decide)) ⟨_, _, rfl⟩ (by decide) h (fun _ e => Z_X12_goesOn hid e) mi_X12_goesOn ml_RX12_212 rfl rfl (Nat.le_of_ble_eq_true rfl) (Nat.le_of_ble_eq_true rfl) (Nat.le_of_ble_eq_true rfl) dX12_expression_266 (fun σ5 h => ?_)
    refine a_goto C dX12_expression_269 (tgt := 12) rfl ?_
    exact hk12 _ _ _ h
  have j229 : ∀ (k12 : Int32 → Int32 → HS → Option (HS)) (hk12 : ∀ (y1 : Int32) (y2 : Int32) (σ : HS), k12 y1 y2 σ = some R → AW ids ad ca Γ 12 [some (.ref (ad 236)), some (.int y1), some (.int y2)] [] σ) (y1 : Int32) (y2 : Int32) (σ : HS), f_X12_expression_229 k12 y1 y2 σ = some R → AW ids ad ca Γ 229 [some (.ref (ad 236)), some (.int y1), some (.int y2)] [.ref (ad 236)] σ := by
    intro k12 hk12 y1 y2 σ h
    unfold f_X12_expression_229 at h
    refine a_iconst C dX12_expression_229 (v := 1) rfl ?_
    refine a_goto C dX12_expression_230 (tgt := 234) rfl ?_
    exact j234 k12 hk12 _ _ _ _ h
  have j204 : ∀ (σ : HS), f_X12_expression_204 σ = some R → AW ids ad ca Γ 204 [some (.ref (ad 236)), none, none] [] σ := by
    intro σ h
    unfold f_X12_expression_204 at h
    refine a_aload_n C dX12_expression_204 (i := 0) rfl rfl ?_
    refine a_iconst C dX12_expression_205 (v := 0) rfl ?_
    refine p_callVv C (As := [.int 0]) (i := 236) kd_236 (hid 236 (by decide)) ⟨_, _, rfl⟩ (by decide) h (fun _ e => Z_X12_comesOut hid e) mi_X12_comesOut ml_RX12_293 rfl rfl (Nat.le_of_ble_eq_true rfl) (Nat.le_of_ble_eq_true rfl) (Nat.le_of_ble_eq_true rfl) dX12_expression_206 (fun σ1 h => ?_)
    exact a_vret Rt dX12_expression_209 (retv_eq (h.trans (congrArg some hR.symm)))
  have j186 : ∀ (k12 : Int32 → Int32 → HS → Option (HS)) (hk12 : ∀ (y1 : Int32) (y2 : Int32) (σ : HS), k12 y1 y2 σ = some R → AW ids ad ca Γ 12 [some (.ref (ad 236)), some (.int y1), some (.int y2)] [] σ) (y1 : Int32) (v0 : Int32) (σ : HS), f_X12_expression_186 k12 y1 v0 σ = some R → AW ids ad ca Γ 186 [some (.ref (ad 236)), some (.int y1), none] [.int v0] σ := by
    intro k12 hk12 y1 v0 σ h
    unfold f_X12_expression_186 at h
    refine a_istore_n C dX12_expression_186 (i := 2) rfl (by decide) rfl (vs1 := [some (.ref (ad 236)), some (.int y1), some (.int v0)]) rfl ?_
    refine a_iload_n C dX12_expression_187 (i := 2) rfl rfl ?_
    refine p_if_ne C (X := v0.toInt) rfl dX12_expression_188 (tgt := 210) rfl h (fun h => ?_) (fun h => ?_)
    ·
      refine a_aload_n C dX12_expression_210 (i := 0) rfl rfl ?_
      refine a_aload_n C dX12_expression_211 (i := 0) rfl rfl ?_
      refine a_bipush C dX12_expression_212 (v := 10) rfl ?_
      refine p_callVi C (As := [.int 10]) (i := 236) kd_236 (hid 236 (by decide)) ⟨_, _, rfl⟩ (by decide) h (fun _ _ e => Z_X12_is hid e) mi_X12_is ml_RX12_209 rfl rfl (Nat.le_of_ble_eq_true rfl) (Nat.le_of_ble_eq_true rfl) (Nat.le_of_ble_eq_true rfl) dX12_expression_214 (fun r2 σ1 h => ?_)
      refine p_if_ne C (X := r2.toInt) rfl dX12_expression_217 (tgt := 229) rfl h (fun h => ?_) (fun h => ?_)
      ·
        exact j229 k12 hk12 _ _ _ h
      ·
        refine a_aload_n C dX12_expression_220 (i := 0) rfl rfl ?_
        refine a_bipush C dX12_expression_221 (v := 15) rfl ?_
        refine p_callVi C (As := [.int 15]) (i := 236) kd_236 (hid 236 (by decide)) ⟨_, _, rfl⟩ (by decide) h (fun _ _ e => Z_X12_is hid e) mi_X12_is ml_RX12_209 rfl rfl (Nat.le_of_ble_eq_true rfl) (Nat.le_of_ble_eq_true rfl) (Nat.le_of_ble_eq_true rfl) dX12_expression_223 (fun r4 σ3 h => ?_)
        refine p_if_eq C (X := r4.toInt) rfl dX12_expression_226 (tgt := 233) rfl h (fun h => ?_) (fun h => ?_)
        ·
          refine a_iconst C dX12_expression_233 (v := 0) rfl ?_
          exact j234 k12 hk12 _ _ _ _ h
        ·
          exact j229 k12 hk12 _ _ _ h
    ·
      refine a_aload_n C dX12_expression_191 (i := 0) rfl rfl ?_
      refine a_get C fl_RX12_218 (i := 236) kd_236 (hid 236 (by decide)) (v := .int (σ.1 236 12)) rfl dX12_expression_192 ?_
      refine a_iload_n C dX12_expression_195 (i := 1) rfl rfl ?_
      refine p_ic_le C (X := (σ.1 236 12).toInt) (Y := y1.toInt) rfl rfl dX12_expression_196 (tgt := 204) rfl h (fun h => ?_) (fun h => ?_)
      ·
        refine AW.sub (vs' := [some (.ref (ad 236)), none, none]) (lsub_of (by simp [lsubB])) ?_
        exact j204 _ h
      ·
        refine a_aload_n C dX12_expression_199 (i := 0) rfl rfl ?_
        refine a_iconst C dX12_expression_200 (v := 1) rfl ?_
        refine p_callVv C (As := [.int 1]) (i := 236) kd_236 (hid 236 (by decide)) ⟨_, _, rfl⟩ (by decide) h (fun _ e => Z_X12_fail hid e) mi_X12_fail ml_RX12_206 rfl rfl (Nat.le_of_ble_eq_true rfl) (Nat.le_of_ble_eq_true rfl) (Nat.le_of_ble_eq_true rfl) dX12_expression_201 (fun σ5 h => ?_)
        refine AW.sub (vs' := [some (.ref (ad 236)), none, none]) (lsub_of (by simp [lsubB])) ?_
        exact j204 _ h
  have j181 : ∀ (k12 : Int32 → Int32 → HS → Option (HS)) (hk12 : ∀ (y1 : Int32) (y2 : Int32) (σ : HS), k12 y1 y2 σ = some R → AW ids ad ca Γ 12 [some (.ref (ad 236)), some (.int y1), some (.int y2)] [] σ) (y1 : Int32) (σ : HS), f_X12_expression_181 k12 y1 σ = some R → AW ids ad ca Γ 181 [some (.ref (ad 236)), some (.int y1), none] [] σ := by
    intro k12 hk12 y1 σ h
    unfold f_X12_expression_181 at h
    refine a_iconst C dX12_expression_181 (v := 1) rfl ?_
    refine a_goto C dX12_expression_182 (tgt := 186) rfl ?_
    exact j186 k12 hk12 _ _ _ h
  have j145 : ∀ (k12 : Int32 → Int32 → HS → Option (HS)) (hk12 : ∀ (y1 : Int32) (y2 : Int32) (σ : HS), k12 y1 y2 σ = some R → AW ids ad ca Γ 12 [some (.ref (ad 236)), some (.int y1), some (.int y2)] [] σ) (y1 : Int32) (σ : HS), f_X12_expression_145 k12 y1 σ = some R → AW ids ad ca Γ 145 [some (.ref (ad 236)), some (.int y1), none] [] σ := by
    intro k12 hk12 y1 σ h
    unfold f_X12_expression_145 at h
    refine a_aload_n C dX12_expression_145 (i := 0) rfl rfl ?_
    refine a_bipush C dX12_expression_146 (v := 8) rfl ?_
    refine p_callVi C (As := [.int 8]) (i := 236) kd_236 (hid 236 (by decide)) ⟨_, _, rfl⟩ (by decide) h (fun _ _ e => Z_X12_is hid e) mi_X12_is ml_RX12_209 rfl rfl (Nat.le_of_ble_eq_true rfl) (Nat.le_of_ble_eq_true rfl) (Nat.le_of_ble_eq_true rfl) dX12_expression_148 (fun r2 σ1 h => ?_)
    refine p_if_ne C (X := r2.toInt) rfl dX12_expression_151 (tgt := 181) rfl h (fun h => ?_) (fun h => ?_)
    ·
      exact j181 k12 hk12 _ _ h
    ·
      refine a_aload_n C dX12_expression_154 (i := 0) rfl rfl ?_
      refine a_bipush C dX12_expression_155 (v := 9) rfl ?_
      refine p_callVi C (As := [.int 9]) (i := 236) kd_236 (hid 236 (by decide)) ⟨_, _, rfl⟩ (by decide) h (fun _ _ e => Z_X12_is hid e) mi_X12_is ml_RX12_209 rfl rfl (Nat.le_of_ble_eq_true rfl) (Nat.le_of_ble_eq_true rfl) (Nat.le_of_ble_eq_true rfl) dX12_expression_157 (fun r4 σ3 h => ?_)
      refine p_if_ne C (X := r4.toInt) rfl dX12_expression_160 (tgt := 181) rfl h (fun h => ?_) (fun h => ?_)
      ·
        exact j181 k12 hk12 _ _ h
      ·
        refine a_aload_n C dX12_expression_163 (i := 0) rfl rfl ?_
        refine a_bipush C dX12_expression_164 (v := 10) rfl ?_
        refine p_callVi C (As := [.int 10]) (i := 236) kd_236 (hid 236 (by decide)) ⟨_, _, rfl⟩ (by decide) h (fun _ _ e => Z_X12_is hid e) mi_X12_is ml_RX12_209 rfl rfl (Nat.le_of_ble_eq_true rfl) (Nat.le_of_ble_eq_true rfl) (Nat.le_of_ble_eq_true rfl) dX12_expression_166 (fun r6 σ5 h => ?_)
        refine p_if_ne C (X := r6.toInt) rfl dX12_expression_169 (tgt := 181) rfl h (fun h => ?_) (fun h => ?_)
        ·
          exact j181 k12 hk12 _ _ h
        ·
          refine a_aload_n C dX12_expression_172 (i := 0) rfl rfl ?_
          refine a_bipush C dX12_expression_173 (v := 15) rfl ?_
          refine p_callVi C (As := [.int 15]) (i := 236) kd_236 (hid 236 (by decide)) ⟨_, _, rfl⟩ (by decide) h (fun _ _ e => Z_X12_is hid e) mi_X12_is ml_RX12_209 rfl rfl (Nat.le_of_ble_eq_true rfl) (Nat.le_of_ble_eq_true rfl) (Nat.le_of_ble_eq_true rfl) dX12_expression_175 (fun r8 σ7 h => ?_)
          refine p_if_eq C (X := r8.toInt) rfl dX12_expression_178 (tgt := 185) rfl h (fun h => ?_) (fun h => ?_)
          ·
            refine a_iconst C dX12_expression_185 (v := 0) rfl ?_
            exact j186 k12 hk12 _ _ _ h
          ·
            exact j181 k12 hk12 _ _ h
  have j96 : ∀ (k12 : Int32 → Int32 → HS → Option (HS)) (hk12 : ∀ (y1 : Int32) (y2 : Int32) (σ : HS), k12 y1 y2 σ = some R → AW ids ad ca Γ 12 [some (.ref (ad 236)), some (.int y1), some (.int y2)] [] σ) (n : Nat) (y1 : Int32) (σ : HS), f_X12_expression_96 k12 n y1 σ = some R → AW ids ad ca Γ 96 [some (.ref (ad 236)), some (.int y1), none] [] σ := by
    intro k12 hk12 n
    induction n with
    | zero => intro y1 σ h; exact nn h
    | succ n ih =>
      intro y1 σ h
      have h : b_X12_expression_96 k12 (f_X12_expression_96 k12 n) y1 σ = some R := h
      unfold b_X12_expression_96 at h
      refine a_aload_n C dX12_expression_96 (i := 0) rfl rfl ?_
      refine a_bipush C dX12_expression_97 (v := 7) rfl ?_
      refine p_callVi C (As := [.int 7]) (i := 236) kd_236 (hid 236 (by decide)) ⟨_, _, rfl⟩ (by decide) h (fun _ _ e => Z_X12_is hid e) mi_X12_is ml_RX12_209 rfl rfl (Nat.le_of_ble_eq_true rfl) (Nat.le_of_ble_eq_true rfl) (Nat.le_of_ble_eq_true rfl) dX12_expression_99 (fun r2 σ1 h => ?_)
      refine p_if_eq C (X := r2.toInt) rfl dX12_expression_102 (tgt := 145) rfl h (fun h => ?_) (fun h => ?_)
      ·
        exact j145 k12 hk12 _ _ h
      ·
        refine a_aload_n C dX12_expression_105 (i := 0) rfl rfl ?_
        refine a_get C fl_RX12_218 (i := 236) kd_236 (hid 236 (by decide)) (v := .int (σ1.1 236 12)) rfl dX12_expression_106 ?_
        refine a_iload_n C dX12_expression_109 (i := 1) rfl rfl ?_
        refine p_ic_le C (X := (σ1.1 236 12).toInt) (Y := y1.toInt) rfl rfl dX12_expression_110 (tgt := 145) rfl h (fun h => ?_) (fun h => ?_)
        ·
          exact j145 k12 hk12 _ _ h
        ·
          refine a_aload_n C dX12_expression_113 (i := 0) rfl rfl ?_
          refine a_iconst C dX12_expression_114 (v := 0) rfl ?_
          refine p_callVv C (As := [.int 0]) (i := 236) kd_236 (hid 236 (by decide)) ⟨_, _, rfl⟩ (by decide) h (fun _ e => Z_X12_comesOut hid e) mi_X12_comesOut ml_RX12_293 rfl rfl (Nat.le_of_ble_eq_true rfl) (Nat.le_of_ble_eq_true rfl) (Nat.le_of_ble_eq_true rfl) dX12_expression_115 (fun σ3 h => ?_)
          refine a_aload_n C dX12_expression_118 (i := 0) rfl rfl ?_
          refine a_dup C dX12_expression_119 rfl ?_
          refine a_get C fl_RX12_284 (i := 236) kd_236 (hid 236 (by decide)) (v := .int (σ3.1 236 43)) rfl dX12_expression_120 ?_
          refine a_iconst C dX12_expression_123 (v := 1) rfl ?_
          refine a_isub C dX12_expression_124 ?_
          refine p_put C fp_RX12_284 (i := 236) kd_236 (hid 236 (by decide)) rfl rfl dX12_expression_125 h (fun σ5 h => ?_)
          refine a_aload_n C dX12_expression_128 (i := 0) rfl rfl ?_
          refine a_dup C dX12_expression_129 rfl ?_
          refine a_get C fl_RX12_218 (i := 236) kd_236 (hid 236 (by decide)) (v := .int (σ5.1 236 12)) rfl dX12_expression_130 ?_
          refine a_iconst C dX12_expression_133 (v := 1) rfl ?_
          refine a_isub C dX12_expression_134 ?_
          refine p_put C fp_RX12_218 (i := 236) kd_236 (hid 236 (by decide)) rfl rfl dX12_expression_135 h (fun σ6 h => ?_)
          refine a_aload_n C dX12_expression_138 (i := 0) rfl rfl ?_
          refine p_callVv C (As := []) (i := 236) kd_236 (hid 236 (by decide)) ⟨_, _, rfl⟩ (by decide) h (fun _ e => Z_X12_goesOn hid e) mi_X12_goesOn ml_RX12_212 rfl rfl (Nat.le_of_ble_eq_true rfl) (Nat.le_of_ble_eq_true rfl) (Nat.le_of_ble_eq_true rfl) dX12_expression_139 (fun σ7 h => ?_)
          refine a_goto C dX12_expression_142 (tgt := 96) rfl ?_
          exact ih _ _ h
  have j46 : ∀ (k12 : Int32 → Int32 → HS → Option (HS)) (hk12 : ∀ (y1 : Int32) (y2 : Int32) (σ : HS), k12 y1 y2 σ = some R → AW ids ad ca Γ 12 [some (.ref (ad 236)), some (.int y1), some (.int y2)] [] σ) (k23 : Int32 → HS → Option (HS)) (hk23 : ∀ (y1 : Int32) (σ : HS), k23 y1 σ = some R → AW ids ad ca Γ 23 [some (.ref (ad 236)), some (.int y1), none] [] σ) (y1 : Int32) (σ : HS), f_X12_expression_46 k12 k23 y1 σ = some R → AW ids ad ca Γ 46 [some (.ref (ad 236)), some (.int y1), none] [] σ := by
    intro k12 hk12 k23 hk23 y1 σ h
    unfold f_X12_expression_46 at h
    refine a_aload_n C dX12_expression_46 (i := 0) rfl rfl ?_
    refine a_dup C dX12_expression_47 rfl ?_
    refine a_get C fl_RX12_218 (i := 236) kd_236 (hid 236 (by decide)) (v := .int (σ.1 236 12)) rfl dX12_expression_48 ?_
    refine a_iconst C dX12_expression_51 (v := 1) rfl ?_
    refine a_iadd C dX12_expression_52 ?_
    refine p_put C fp_RX12_218 (i := 236) kd_236 (hid 236 (by decide)) rfl rfl dX12_expression_53 h (fun σ1 h => ?_)
    refine a_aload_n C dX12_expression_56 (i := 0) rfl rfl ?_
    refine p_callVv C (As := []) (i := 236) kd_236 (hid 236 (by decide)) ⟨_, _, rfl⟩ (by decide) h (fun _ e => Z_X12_goesOn hid e) mi_X12_goesOn ml_RX12_212 rfl rfl (Nat.le_of_ble_eq_true rfl) (Nat.le_of_ble_eq_true rfl) (Nat.le_of_ble_eq_true rfl) dX12_expression_57 (fun σ2 h => ?_)
    refine a_aload_n C dX12_expression_60 (i := 0) rfl rfl ?_
    refine a_get C fl_RX12_98 (i := 236) kd_236 (hid 236 (by decide)) (v := .ref (ad 263)) rfl dX12_expression_61 ?_
    refine a_aload_n C dX12_expression_64 (i := 0) rfl rfl ?_
    refine a_get C fl_RX12_284 (i := 236) kd_236 (hid 236 (by decide)) (v := .int (σ2.1 236 43)) rfl dX12_expression_65 ?_
    refine a_bipush C dX12_expression_68 (v := 6) rfl ?_
    refine p_iast C (i := 263) (show rowOK 263 from ⟨kd_263, by decide⟩) hid (by rw [al_263]; rfl) dX12_expression_70 h (fun σ4 h => ?_)
    refine a_aload_n C dX12_expression_71 (i := 0) rfl rfl ?_
    refine a_dup C dX12_expression_72 rfl ?_
    refine a_get C fl_RX12_284 (i := 236) kd_236 (hid 236 (by decide)) (v := .int (σ4.1 236 43)) rfl dX12_expression_73 ?_
    refine a_iconst C dX12_expression_76 (v := 1) rfl ?_
    refine a_iadd C dX12_expression_77 ?_
    refine p_put C fp_RX12_284 (i := 236) kd_236 (hid 236 (by decide)) rfl rfl dX12_expression_78 h (fun σ5 h => ?_)
    refine a_goto C dX12_expression_81 (tgt := 23) rfl ?_
    exact hk23 _ _ h
  have j23 : ∀ (k12 : Int32 → Int32 → HS → Option (HS)) (hk12 : ∀ (y1 : Int32) (y2 : Int32) (σ : HS), k12 y1 y2 σ = some R → AW ids ad ca Γ 12 [some (.ref (ad 236)), some (.int y1), some (.int y2)] [] σ) (n : Nat) (y1 : Int32) (σ : HS), f_X12_expression_23 k12 n y1 σ = some R → AW ids ad ca Γ 23 [some (.ref (ad 236)), some (.int y1), none] [] σ := by
    intro k12 hk12 n
    induction n with
    | zero => intro y1 σ h; exact nn h
    | succ n ih =>
      intro y1 σ h
      have h : b_X12_expression_23 k12 (f_X12_expression_23 k12 n) y1 σ = some R := h
      unfold b_X12_expression_23 at h
      refine a_aload_n C dX12_expression_23 (i := 0) rfl rfl ?_
      refine a_bipush C dX12_expression_24 (v := 6) rfl ?_
      refine p_callVi C (As := [.int 6]) (i := 236) kd_236 (hid 236 (by decide)) ⟨_, _, rfl⟩ (by decide) h (fun _ _ e => Z_X12_is hid e) mi_X12_is ml_RX12_209 rfl rfl (Nat.le_of_ble_eq_true rfl) (Nat.le_of_ble_eq_true rfl) (Nat.le_of_ble_eq_true rfl) dX12_expression_26 (fun r2 σ1 h => ?_)
      refine p_if_eq C (X := r2.toInt) rfl dX12_expression_29 (tgt := 84) rfl h (fun h => ?_) (fun h => ?_)
      ·
        refine a_aload_n C dX12_expression_84 (i := 0) rfl rfl ?_
        refine p_callVv C (As := []) (i := 236) kd_236 (hid 236 (by decide)) ⟨_, _, rfl⟩ (by decide) h (fun _ e => Z_X12_unit hid e) mi_X12_unit ml_RX12_290 rfl rfl (Nat.le_of_ble_eq_true rfl) (Nat.le_of_ble_eq_true rfl) (Nat.le_of_ble_eq_true rfl) dX12_expression_85 (fun σ3 h => ?_)
        refine a_aload_n C dX12_expression_88 (i := 0) rfl rfl ?_
        refine a_get C fl_RX12_191 (i := 236) kd_236 (hid 236 (by decide)) (v := .int (σ3.1 236 13)) rfl dX12_expression_89 ?_
        refine p_if_le C (X := (σ3.1 236 13).toInt) rfl dX12_expression_92 (tgt := 96) rfl h (fun h => ?_) (fun h => ?_)
        ·
          exact j96 k12 hk12 _ _ _ h
        ·
          exact a_vret Rt dX12_expression_95 (retv_eq (h.trans (congrArg some hR.symm)))
      ·
        refine a_aload_n C dX12_expression_32 (i := 0) rfl rfl ?_
        refine a_get C fl_RX12_218 (i := 236) kd_236 (hid 236 (by decide)) (v := .int (σ1.1 236 12)) rfl dX12_expression_33 ?_
        refine a_bipush C dX12_expression_36 (v := 6) rfl ?_
        refine p_ic_ne C (X := (σ1.1 236 12).toInt) (Y := 6) rfl (by decide) dX12_expression_38 (tgt := 46) rfl h (fun h => ?_) (fun h => ?_)
        ·
          exact j46 k12 hk12 (f_X12_expression_23 k12 n) (fun y1 σ h => ih y1 σ h) _ _ h
        ·
          refine a_aload_n C dX12_expression_41 (i := 0) rfl rfl ?_
          refine a_iconst C dX12_expression_42 (v := 2) rfl ?_
          refine p_callVv C (As := [.int 2]) (i := 236) kd_236 (hid 236 (by decide)) ⟨_, _, rfl⟩ (by decide) h (fun _ e => Z_X12_fail hid e) mi_X12_fail ml_RX12_206 rfl rfl (Nat.le_of_ble_eq_true rfl) (Nat.le_of_ble_eq_true rfl) (Nat.le_of_ble_eq_true rfl) dX12_expression_43 (fun σ5 h => ?_)
          exact j46 k12 hk12 (f_X12_expression_23 k12 n) (fun y1 σ h => ih y1 σ h) _ _ h
  have j12 : ∀ (n : Nat) (y1 : Int32) (y2 : Int32) (σ : HS), f_X12_expression_12 n y1 y2 σ = some R → AW ids ad ca Γ 12 [some (.ref (ad 236)), some (.int y1), some (.int y2)] [] σ := by
    intro n
    induction n with
    | zero => intro y1 y2 σ h; exact nn h
    | succ n ih =>
      intro y1 y2 σ h
      have h : b_X12_expression_12 (f_X12_expression_12 n) y1 y2 σ = some R := h
      unfold b_X12_expression_12 at h
      refine a_iload_n C dX12_expression_12 (i := 2) rfl rfl ?_
      refine p_if_eq C (X := y2.toInt) rfl dX12_expression_13 (tgt := 272) rfl h (fun h => ?_) (fun h => ?_)
      ·
        exact a_vret Rt dX12_expression_272 (retv_eq (h.trans (congrArg some hR.symm)))
      ·
        refine a_aload_n C dX12_expression_16 (i := 0) rfl rfl ?_
        refine a_get C fl_RX12_191 (i := 236) kd_236 (hid 236 (by decide)) (v := .int (σ.1 236 13)) rfl dX12_expression_17 ?_
        refine p_if_ne C (X := (σ.1 236 13).toInt) rfl dX12_expression_20 (tgt := 272) rfl h (fun h => ?_) (fun h => ?_)
        ·
          exact a_vret Rt dX12_expression_272 (retv_eq (h.trans (congrArg some hR.symm)))
        ·
          refine AW.sub (vs' := [some (.ref (ad 236)), some (.int y1), none]) (lsub_of (by simp [lsubB])) ?_
          exact j23 (f_X12_expression_12 n) (fun y1 y2 σ h => ih y1 y2 σ h) _ _ _ h
  refine a_aload_n C dX12_expression_0 (i := 0) rfl rfl ?_
  refine a_iconst C dX12_expression_1 (v := 0) rfl ?_
  refine p_put C fp_RX12_284 (i := 236) kd_236 (hid 236 (by decide)) rfl rfl dX12_expression_2 h (fun σ1 h => ?_)
  refine a_aload_n C dX12_expression_5 (i := 0) rfl rfl ?_
  refine a_get C fl_RX12_218 (i := 236) kd_236 (hid 236 (by decide)) (v := .int (σ1.1 236 12)) rfl dX12_expression_6 ?_
  refine p_istore_n C (fun z2 => [some (.ref (ad 236)), some (.int z2), none]) dX12_expression_9 (i := 1) rfl (by decide) rfl (fun _ => rfl) h (fun z2 h => ?_)
  refine a_iconst C dX12_expression_10 (v := 1) rfl ?_
  refine a_istore_n C dX12_expression_11 (i := 2) rfl (by decide) rfl (vs1 := [some (.ref (ad 236)), some (.int z2), some (.int 1)]) rfl ?_
  exact j12 _ _ _ _ h
set_option maxHeartbeats 4000000 in
set_option maxRecDepth 100000 in
theorem Z_X12_term {l : Launch} {D : va_G} {ids : List Nat} {ad : Nat → Nat} {ca : Nat → ClassId} {σ : HS} {s0 : HS} (hid : ∀ i, i < 277 → i ∈ ids) (h : f_X12_term σ = some s0) : Kv l D ids ad ca yX12_term cX12_term 1 4 83 [.ref (ad 236)] σ (fun σ1 => σ1 = s0) := by
  obtain ⟨R, hR⟩ : ∃ R, s0 = R := ⟨_, rfl⟩
  replace h := h.trans (congrArg some hR)
  refine Kv.of (by decide) (Nat.le_of_ble_eq_true rfl) 0 (fun Γ C Rt => ?_)
  show AW ids ad ca Γ 0 [some (.ref (ad 236))] [] σ
  unfold f_X12_term at h
  have j24 : ∀ (σ : HS), f_X12_term_24 σ = some R → AW ids ad ca Γ 24 [some (.ref (ad 236))] [] σ := by
    intro σ h
    unfold f_X12_term_24 at h
    refine a_aload_n C dX12_term_24 (i := 0) rfl rfl ?_
    refine a_get C fl_RX12_89 (i := 236) kd_236 (hid 236 (by decide)) (v := .ref (ad 260)) rfl dX12_term_25 ?_
    refine a_aload_n C dX12_term_28 (i := 0) rfl rfl ?_
    refine a_get C fl_RX12_230 (i := 236) kd_236 (hid 236 (by decide)) (v := .int (σ.1 236 33)) rfl dX12_term_29 ?_
    refine a_aload_n C dX12_term_32 (i := 0) rfl rfl ?_
    refine a_get C fl_RX12_233 (i := 236) kd_236 (hid 236 (by decide)) (v := .int (σ.1 236 39)) rfl dX12_term_33 ?_
    refine p_iast C (i := 260) (show rowOK 260 from ⟨kd_260, by decide⟩) hid (by rw [al_260]; rfl) dX12_term_36 h (fun σ1 h => ?_)
    refine a_aload_n C dX12_term_37 (i := 0) rfl rfl ?_
    refine a_dup C dX12_term_38 rfl ?_
    refine a_get C fl_RX12_230 (i := 236) kd_236 (hid 236 (by decide)) (v := .int (σ1.1 236 33)) rfl dX12_term_39 ?_
    refine a_iconst C dX12_term_42 (v := 1) rfl ?_
    refine a_iadd C dX12_term_43 ?_
    refine p_put C fp_RX12_230 (i := 236) kd_236 (hid 236 (by decide)) rfl rfl dX12_term_44 h (fun σ2 h => ?_)
    exact a_vret Rt dX12_term_47 (retv_eq (h.trans (congrArg some hR.symm)))
  refine a_aload_n C dX12_term_0 (i := 0) rfl rfl ?_
  refine a_get C fl_RX12_86 (i := 236) kd_236 (hid 236 (by decide)) (v := .ref (ad 259)) rfl dX12_term_1 ?_
  refine a_aload_n C dX12_term_4 (i := 0) rfl rfl ?_
  refine a_get C fl_RX12_230 (i := 236) kd_236 (hid 236 (by decide)) (v := .int (σ.1 236 33)) rfl dX12_term_5 ?_
  refine a_aload_n C dX12_term_8 (i := 0) rfl rfl ?_
  refine a_get C fl_RX12_233 (i := 236) kd_236 (hid 236 (by decide)) (v := .int (σ.1 236 39)) rfl dX12_term_9 ?_
  refine p_iast C (i := 259) (show rowOK 259 from ⟨kd_259, by decide⟩) hid (by rw [al_259]; rfl) dX12_term_12 h (fun σ1 h => ?_)
  refine a_aload_n C dX12_term_13 (i := 0) rfl rfl ?_
  refine a_get C fl_RX12_191 (i := 236) kd_236 (hid 236 (by decide)) (v := .int (σ1.1 236 13)) rfl dX12_term_14 ?_
  refine p_if_ne C (X := (σ1.1 236 13).toInt) rfl dX12_term_17 (tgt := 24) rfl h (fun h => ?_) (fun h => ?_)
  ·
    exact j24 _ h
  ·
    refine a_aload_n C dX12_term_20 (i := 0) rfl rfl ?_
    refine p_callVv C (As := []) (i := 236) kd_236 (hid 236 (by decide)) ⟨_, _, rfl⟩ (by decide) h (fun _ e => Z_X12_expression hid e) mi_X12_expression ml_RX12_278 rfl rfl (Nat.le_of_ble_eq_true rfl) (Nat.le_of_ble_eq_true rfl) (Nat.le_of_ble_eq_true rfl) dX12_term_21 (fun σ2 h => ?_)
    exact j24 _ h
set_option maxHeartbeats 4000000 in
set_option maxRecDepth 100000 in
theorem Z_X12_tellLaw {l : Launch} {D : va_G} {ids : List Nat} {ad : Nat → Nat} {ca : Nat → ClassId} {σ : HS} {x1 : Int32} {s0 : HS} (hid : ∀ i, i < 277 → i ∈ ids) (h : f_X12_tellLaw x1 σ = some s0) : Kv l D ids ad ca yX12_tellLaw cX12_tellLaw 4 5 103 [.ref (ad 236), .int x1] σ (fun σ1 => σ1 = s0) := by
  obtain ⟨R, hR⟩ : ∃ R, s0 = R := ⟨_, rfl⟩
  replace h := h.trans (congrArg some hR)
  refine Kv.of (by decide) (Nat.le_of_ble_eq_true rfl) 2 (fun Γ C Rt => ?_)
  show AW ids ad ca Γ 0 [some (.ref (ad 236)), some (.int x1), none, none] [] σ
  unfold f_X12_tellLaw at h
  have j129 : ∀ (y1 : Int32) (y2 : Int32) (σ : HS), f_X12_tellLaw_129 y1 y2 σ = some R → AW ids ad ca Γ 129 [some (.ref (ad 236)), some (.int y1), some (.int y2), none] [] σ := by
    intro y1 y2 σ h
    unfold f_X12_tellLaw_129 at h
    refine a_aload_n C dX12_tellLaw_129 (i := 0) rfl rfl ?_
    refine a_get C fl_RX12_76 (i := 236) kd_236 (hid 236 (by decide)) (v := .ref (ad 256)) rfl dX12_tellLaw_130 ?_
    refine a_aload_n C dX12_tellLaw_133 (i := 0) rfl rfl ?_
    refine a_get C fl_RX12_230 (i := 236) kd_236 (hid 236 (by decide)) (v := .int (σ.1 236 33)) rfl dX12_tellLaw_134 ?_
    refine a_iconst C dX12_tellLaw_137 (v := 0) rfl ?_
    refine p_zast C (i := 256) kd_256 (hid 256 (by decide)) (by rw [al_256]; rfl) (by decide) dX12_tellLaw_138 h (fun σ1 h => ?_)
    refine a_aload_n C dX12_tellLaw_139 (i := 0) rfl rfl ?_
    refine p_callVv C (As := []) (i := 236) kd_236 (hid 236 (by decide)) ⟨_, _, rfl⟩ (by decide) h (fun _ e => Z_X12_term hid e) mi_X12_term ml_RX12_281 rfl rfl (Nat.le_of_ble_eq_true rfl) (Nat.le_of_ble_eq_true rfl) (Nat.le_of_ble_eq_true rfl) dX12_tellLaw_140 (fun σ2 h => ?_)
    refine a_aload_n C dX12_tellLaw_143 (i := 0) rfl rfl ?_
    refine a_iconst C dX12_tellLaw_144 (v := 4) rfl ?_
    refine p_callVv C (As := [.int 4]) (i := 236) kd_236 (hid 236 (by decide)) ⟨_, _, rfl⟩ (by decide) h (fun _ e => Z_X12_must hid e) mi_X12_must ml_RX12_249 rfl rfl (Nat.le_of_ble_eq_true rfl) (Nat.le_of_ble_eq_true rfl) (Nat.le_of_ble_eq_true rfl) dX12_tellLaw_145 (fun σ4 h => ?_)
    refine a_aload_n C dX12_tellLaw_148 (i := 0) rfl rfl ?_
    refine a_get C fl_RX12_191 (i := 236) kd_236 (hid 236 (by decide)) (v := .int (σ4.1 236 13)) rfl dX12_tellLaw_149 ?_
    refine p_if_le C (X := (σ4.1 236 13).toInt) rfl dX12_tellLaw_152 (tgt := 156) rfl h (fun h => ?_) (fun h => ?_)
    ·
      refine a_aload_n C dX12_tellLaw_156 (i := 0) rfl rfl ?_
      refine a_get C fl_RX12_70 (i := 236) kd_236 (hid 236 (by decide)) (v := .ref (ad 254)) rfl dX12_tellLaw_157 ?_
      refine a_iconst C dX12_tellLaw_160 (v := 4) rfl ?_
      refine a_aload_n C dX12_tellLaw_161 (i := 0) rfl rfl ?_
      refine a_get C fl_RX12_224 (i := 236) kd_236 (hid 236 (by decide)) (v := .int (σ4.1 236 19)) rfl dX12_tellLaw_162 ?_
      refine a_imul C dX12_tellLaw_165 ?_
      refine a_iload_n C dX12_tellLaw_166 (i := 1) rfl rfl ?_
      refine a_iadd C dX12_tellLaw_167 ?_
      refine a_iload_n C dX12_tellLaw_168 (i := 2) rfl rfl ?_
      refine p_iast C (i := 254) (show rowOK 254 from ⟨kd_254, by decide⟩) hid (by rw [al_254]; rfl) dX12_tellLaw_169 h (fun σ6 h => ?_)
      refine a_aload_n C dX12_tellLaw_170 (i := 0) rfl rfl ?_
      refine a_get C fl_RX12_73 (i := 236) kd_236 (hid 236 (by decide)) (v := .ref (ad 255)) rfl dX12_tellLaw_171 ?_
      refine a_iconst C dX12_tellLaw_174 (v := 4) rfl ?_
      refine a_aload_n C dX12_tellLaw_175 (i := 0) rfl rfl ?_
      refine a_get C fl_RX12_224 (i := 236) kd_236 (hid 236 (by decide)) (v := .int (σ6.1 236 19)) rfl dX12_tellLaw_176 ?_
      refine a_imul C dX12_tellLaw_179 ?_
      refine a_iload_n C dX12_tellLaw_180 (i := 1) rfl rfl ?_
      refine a_iadd C dX12_tellLaw_181 ?_
      refine a_aload_n C dX12_tellLaw_182 (i := 0) rfl rfl ?_
      refine a_get C fl_RX12_230 (i := 236) kd_236 (hid 236 (by decide)) (v := .int (σ6.1 236 33)) rfl dX12_tellLaw_183 ?_
      refine p_iast C (i := 255) (show rowOK 255 from ⟨kd_255, by decide⟩) hid (by rw [al_255]; rfl) dX12_tellLaw_186 h (fun σ7 h => ?_)
      exact a_vret Rt dX12_tellLaw_187 (retv_eq (h.trans (congrArg some hR.symm)))
    ·
      exact a_vret Rt dX12_tellLaw_155 (retv_eq (h.trans (congrArg some hR.symm)))
  have j110 : ∀ (k12 : Int32 → Int32 → Int32 → HS → Option (HS)) (hk12 : ∀ (y1 : Int32) (y2 : Int32) (y3 : Int32) (σ : HS), k12 y1 y2 y3 σ = some R → AW ids ad ca Γ 12 [some (.ref (ad 236)), some (.int y1), some (.int y2), some (.int y3)] [] σ) (y1 : Int32) (y2 : Int32) (y3 : Int32) (σ : HS), f_X12_tellLaw_110 k12 y1 y2 y3 σ = some R → AW ids ad ca Γ 110 [some (.ref (ad 236)), some (.int y1), some (.int y2), some (.int y3)] [] σ := by
    intro k12 hk12 y1 y2 y3 σ h
    unfold f_X12_tellLaw_110 at h
    refine a_aload_n C dX12_tellLaw_110 (i := 0) rfl rfl ?_
    refine a_bipush C dX12_tellLaw_111 (v := 29) rfl ?_
    refine p_callVv C (As := [.int 29]) (i := 236) kd_236 (hid 236 (by decide)) ⟨_, _, rfl⟩ (by decide) h (fun _ e => Z_X12_must hid e) mi_X12_must ml_RX12_249 rfl rfl (Nat.le_of_ble_eq_true rfl) (Nat.le_of_ble_eq_true rfl) (Nat.le_of_ble_eq_true rfl) dX12_tellLaw_113 (fun σ1 h => ?_)
    refine a_aload_n C dX12_tellLaw_116 (i := 0) rfl rfl ?_
    refine p_callVv C (As := []) (i := 236) kd_236 (hid 236 (by decide)) ⟨_, _, rfl⟩ (by decide) h (fun _ e => Z_X12_term hid e) mi_X12_term ml_RX12_281 rfl rfl (Nat.le_of_ble_eq_true rfl) (Nat.le_of_ble_eq_true rfl) (Nat.le_of_ble_eq_true rfl) dX12_tellLaw_117 (fun σ3 h => ?_)
    refine a_aload_n C dX12_tellLaw_120 (i := 0) rfl rfl ?_
    refine a_bipush C dX12_tellLaw_121 (v := 30) rfl ?_
    refine p_callVv C (As := [.int 30]) (i := 236) kd_236 (hid 236 (by decide)) ⟨_, _, rfl⟩ (by decide) h (fun _ e => Z_X12_must hid e) mi_X12_must ml_RX12_249 rfl rfl (Nat.le_of_ble_eq_true rfl) (Nat.le_of_ble_eq_true rfl) (Nat.le_of_ble_eq_true rfl) dX12_tellLaw_123 (fun σ5 h => ?_)
    refine a_goto C dX12_tellLaw_126 (tgt := 12) rfl ?_
    exact hk12 _ _ _ _ h
  have j38 : ∀ (k12 : Int32 → Int32 → Int32 → HS → Option (HS)) (hk12 : ∀ (y1 : Int32) (y2 : Int32) (y3 : Int32) (σ : HS), k12 y1 y2 y3 σ = some R → AW ids ad ca Γ 12 [some (.ref (ad 236)), some (.int y1), some (.int y2), some (.int y3)] [] σ) (y1 : Int32) (y2 : Int32) (y3 : Int32) (σ : HS), f_X12_tellLaw_38 k12 y1 y2 y3 σ = some R → AW ids ad ca Γ 38 [some (.ref (ad 236)), some (.int y1), some (.int y2), some (.int y3)] [] σ := by
    intro k12 hk12 y1 y2 y3 σ h
    unfold f_X12_tellLaw_38 at h
    refine a_aload_n C dX12_tellLaw_38 (i := 0) rfl rfl ?_
    refine a_get C fl_RX12_191 (i := 236) kd_236 (hid 236 (by decide)) (v := .int (σ.1 236 13)) rfl dX12_tellLaw_39 ?_
    refine p_if_le C (X := (σ.1 236 13).toInt) rfl dX12_tellLaw_42 (tgt := 46) rfl h (fun h => ?_) (fun h => ?_)
    ·
      refine p_iinc C (y := (y3 + 1)) (fun z1 => [some (.ref (ad 236)), some (.int y1), some (.int y2), some (.int z1)]) dX12_tellLaw_46 rfl rfl (by decide) rfl (fun _ => rfl) h (fun z1 h => ?_)
      refine a_aload_n C dX12_tellLaw_49 (i := 0) rfl rfl ?_
      refine p_callVv C (As := []) (i := 236) kd_236 (hid 236 (by decide)) ⟨_, _, rfl⟩ (by decide) h (fun _ e => Z_X12_goesOn hid e) mi_X12_goesOn ml_RX12_212 rfl rfl (Nat.le_of_ble_eq_true rfl) (Nat.le_of_ble_eq_true rfl) (Nat.le_of_ble_eq_true rfl) dX12_tellLaw_50 (fun σ2 h => ?_)
      refine a_aload_n C dX12_tellLaw_53 (i := 0) rfl rfl ?_
      refine a_get C fl_RX12_76 (i := 236) kd_236 (hid 236 (by decide)) (v := .ref (ad 256)) rfl dX12_tellLaw_54 ?_
      refine a_aload_n C dX12_tellLaw_57 (i := 0) rfl rfl ?_
      refine a_get C fl_RX12_230 (i := 236) kd_236 (hid 236 (by decide)) (v := .int (σ2.1 236 33)) rfl dX12_tellLaw_58 ?_
      refine a_iconst C dX12_tellLaw_61 (v := 1) rfl ?_
      refine p_zast C (i := 256) kd_256 (hid 256 (by decide)) (by rw [al_256]; rfl) (by decide) dX12_tellLaw_62 h (fun σ4 h => ?_)
      refine a_aload_n C dX12_tellLaw_63 (i := 0) rfl rfl ?_
      refine a_get C fl_RX12_80 (i := 236) kd_236 (hid 236 (by decide)) (v := .ref (ad 257)) rfl dX12_tellLaw_64 ?_
      refine a_aload_n C dX12_tellLaw_67 (i := 0) rfl rfl ?_
      refine a_get C fl_RX12_230 (i := 236) kd_236 (hid 236 (by decide)) (v := .int (σ4.1 236 33)) rfl dX12_tellLaw_68 ?_
      refine a_aload_n C dX12_tellLaw_71 (i := 0) rfl rfl ?_
      refine a_get C fl_RX12_233 (i := 236) kd_236 (hid 236 (by decide)) (v := .int (σ4.1 236 39)) rfl dX12_tellLaw_72 ?_
      refine p_iast C (i := 257) (show rowOK 257 from ⟨kd_257, by decide⟩) hid (by rw [al_257]; rfl) dX12_tellLaw_75 h (fun σ5 h => ?_)
      refine a_aload_n C dX12_tellLaw_76 (i := 0) rfl rfl ?_
      refine p_callVv C (As := []) (i := 236) kd_236 (hid 236 (by decide)) ⟨_, _, rfl⟩ (by decide) h (fun _ e => Z_X12_expression hid e) mi_X12_expression ml_RX12_278 rfl rfl (Nat.le_of_ble_eq_true rfl) (Nat.le_of_ble_eq_true rfl) (Nat.le_of_ble_eq_true rfl) dX12_tellLaw_77 (fun σ6 h => ?_)
      refine a_aload_n C dX12_tellLaw_80 (i := 0) rfl rfl ?_
      refine a_bipush C dX12_tellLaw_81 (v := 13) rfl ?_
      refine p_callVv C (As := [.int 13]) (i := 236) kd_236 (hid 236 (by decide)) ⟨_, _, rfl⟩ (by decide) h (fun _ e => Z_X12_must hid e) mi_X12_must ml_RX12_249 rfl rfl (Nat.le_of_ble_eq_true rfl) (Nat.le_of_ble_eq_true rfl) (Nat.le_of_ble_eq_true rfl) dX12_tellLaw_83 (fun σ8 h => ?_)
      refine a_aload_n C dX12_tellLaw_86 (i := 0) rfl rfl ?_
      refine a_get C fl_RX12_83 (i := 236) kd_236 (hid 236 (by decide)) (v := .ref (ad 258)) rfl dX12_tellLaw_87 ?_
      refine a_aload_n C dX12_tellLaw_90 (i := 0) rfl rfl ?_
      refine a_get C fl_RX12_230 (i := 236) kd_236 (hid 236 (by decide)) (v := .int (σ8.1 236 33)) rfl dX12_tellLaw_91 ?_
      refine a_aload_n C dX12_tellLaw_94 (i := 0) rfl rfl ?_
      refine a_get C fl_RX12_233 (i := 236) kd_236 (hid 236 (by decide)) (v := .int (σ8.1 236 39)) rfl dX12_tellLaw_95 ?_
      refine p_iast C (i := 258) (show rowOK 258 from ⟨kd_258, by decide⟩) hid (by rw [al_258]; rfl) dX12_tellLaw_98 h (fun σ10 h => ?_)
      refine a_aload_n C dX12_tellLaw_99 (i := 0) rfl rfl ?_
      refine a_get C fl_RX12_191 (i := 236) kd_236 (hid 236 (by decide)) (v := .int (σ10.1 236 13)) rfl dX12_tellLaw_100 ?_
      refine p_if_ne C (X := (σ10.1 236 13).toInt) rfl dX12_tellLaw_103 (tgt := 110) rfl h (fun h => ?_) (fun h => ?_)
      ·
        exact j110 k12 hk12 _ _ _ _ h
      ·
        refine a_aload_n C dX12_tellLaw_106 (i := 0) rfl rfl ?_
        refine p_callVv C (As := []) (i := 236) kd_236 (hid 236 (by decide)) ⟨_, _, rfl⟩ (by decide) h (fun _ e => Z_X12_expression hid e) mi_X12_expression ml_RX12_278 rfl rfl (Nat.le_of_ble_eq_true rfl) (Nat.le_of_ble_eq_true rfl) (Nat.le_of_ble_eq_true rfl) dX12_tellLaw_107 (fun σ11 h => ?_)
        exact j110 k12 hk12 _ _ _ _ h
    ·
      exact a_vret Rt dX12_tellLaw_45 (retv_eq (h.trans (congrArg some hR.symm)))
  have j12 : ∀ (n : Nat) (y1 : Int32) (y2 : Int32) (y3 : Int32) (σ : HS), f_X12_tellLaw_12 n y1 y2 y3 σ = some R → AW ids ad ca Γ 12 [some (.ref (ad 236)), some (.int y1), some (.int y2), some (.int y3)] [] σ := by
    intro n
    induction n with
    | zero => intro y1 y2 y3 σ h; exact nn h
    | succ n ih =>
      intro y1 y2 y3 σ h
      have h : b_X12_tellLaw_12 (f_X12_tellLaw_12 n) y1 y2 y3 σ = some R := h
      unfold b_X12_tellLaw_12 at h
      refine a_aload_n C dX12_tellLaw_12 (i := 0) rfl rfl ?_
      refine a_get C fl_RX12_191 (i := 236) kd_236 (hid 236 (by decide)) (v := .int (σ.1 236 13)) rfl dX12_tellLaw_13 ?_
      refine p_if_ne C (X := (σ.1 236 13).toInt) rfl dX12_tellLaw_16 (tgt := 129) rfl h (fun h => ?_) (fun h => ?_)
      ·
        refine AW.sub (vs' := [some (.ref (ad 236)), some (.int y1), some (.int y2), none]) (lsub_of (by simp [lsubB])) ?_
        exact j129 _ _ _ h
      ·
        refine a_aload_n C dX12_tellLaw_19 (i := 0) rfl rfl ?_
        refine a_bipush C dX12_tellLaw_20 (v := 28) rfl ?_
        refine p_callVi C (As := [.int 28]) (i := 236) kd_236 (hid 236 (by decide)) ⟨_, _, rfl⟩ (by decide) h (fun _ _ e => Z_X12_is hid e) mi_X12_is ml_RX12_209 rfl rfl (Nat.le_of_ble_eq_true rfl) (Nat.le_of_ble_eq_true rfl) (Nat.le_of_ble_eq_true rfl) dX12_tellLaw_22 (fun r2 σ1 h => ?_)
        refine p_if_eq C (X := r2.toInt) rfl dX12_tellLaw_25 (tgt := 129) rfl h (fun h => ?_) (fun h => ?_)
        ·
          refine AW.sub (vs' := [some (.ref (ad 236)), some (.int y1), some (.int y2), none]) (lsub_of (by simp [lsubB])) ?_
          exact j129 _ _ _ h
        ·
          refine a_iload_n C dX12_tellLaw_28 (i := 3) rfl rfl ?_
          refine a_iconst C dX12_tellLaw_29 (v := 4) rfl ?_
          refine p_ic_ne C (X := y3.toInt) (Y := 4) rfl (by decide) dX12_tellLaw_30 (tgt := 38) rfl h (fun h => ?_) (fun h => ?_)
          ·
            exact j38 (f_X12_tellLaw_12 n) (fun y1 y2 y3 σ h => ih y1 y2 y3 σ h) _ _ _ _ h
          ·
            refine a_aload_n C dX12_tellLaw_33 (i := 0) rfl rfl ?_
            refine a_iconst C dX12_tellLaw_34 (v := 2) rfl ?_
            refine p_callVv C (As := [.int 2]) (i := 236) kd_236 (hid 236 (by decide)) ⟨_, _, rfl⟩ (by decide) h (fun _ e => Z_X12_fail hid e) mi_X12_fail ml_RX12_206 rfl rfl (Nat.le_of_ble_eq_true rfl) (Nat.le_of_ble_eq_true rfl) (Nat.le_of_ble_eq_true rfl) dX12_tellLaw_35 (fun σ3 h => ?_)
            exact j38 (f_X12_tellLaw_12 n) (fun y1 y2 y3 σ h => ih y1 y2 y3 σ h) _ _ _ _ h
  refine a_aload_n C dX12_tellLaw_0 (i := 0) rfl rfl ?_
  refine a_iconst C dX12_tellLaw_1 (v := 5) rfl ?_
  refine p_callVv C (As := [.int 5]) (i := 236) kd_236 (hid 236 (by decide)) ⟨_, _, rfl⟩ (by decide) h (fun _ e => Z_X12_must hid e) mi_X12_must ml_RX12_249 rfl rfl (Nat.le_of_ble_eq_true rfl) (Nat.le_of_ble_eq_true rfl) (Nat.le_of_ble_eq_true rfl) dX12_tellLaw_2 (fun σ1 h => ?_)
  refine a_aload_n C dX12_tellLaw_5 (i := 0) rfl rfl ?_
  refine a_get C fl_RX12_230 (i := 236) kd_236 (hid 236 (by decide)) (v := .int (σ1.1 236 33)) rfl dX12_tellLaw_6 ?_
  refine p_istore_n C (fun z3 => [some (.ref (ad 236)), some (.int x1), some (.int z3), none]) dX12_tellLaw_9 (i := 2) rfl (by decide) rfl (fun _ => rfl) h (fun z3 h => ?_)
  refine a_iconst C dX12_tellLaw_10 (v := 0) rfl ?_
  refine a_istore_n C dX12_tellLaw_11 (i := 3) rfl (by decide) rfl (vs1 := [some (.ref (ad 236)), some (.int x1), some (.int z3), some (.int 0)]) rfl ?_
  exact j12 _ _ _ _ _ h
set_option maxHeartbeats 4000000 in
set_option maxRecDepth 100000 in
theorem Z_X12_tellOne {l : Launch} {D : va_G} {ids : List Nat} {ad : Nat → Nat} {ca : Nat → ClassId} {σ : HS} {s0 : HS} (hid : ∀ i, i < 277 → i ∈ ids) (h : f_X12_tellOne σ = some s0) : Kv l D ids ad ca yX12_tellOne cX12_tellOne 2 6 126 [.ref (ad 236)] σ (fun σ1 => σ1 = s0) := by
  obtain ⟨R, hR⟩ : ∃ R, s0 = R := ⟨_, rfl⟩
  replace h := h.trans (congrArg some hR)
  refine Kv.of (by decide) (Nat.le_of_ble_eq_true rfl) 1 (fun Γ C Rt => ?_)
  show AW ids ad ca Γ 0 [some (.ref (ad 236)), none] [] σ
  unfold f_X12_tellOne at h
  have j188 : ∀ (y1 : Int32) (σ : HS), f_X12_tellOne_188 y1 σ = some R → AW ids ad ca Γ 188 [some (.ref (ad 236)), some (.int y1)] [] σ := by
    intro y1 σ h
    unfold f_X12_tellOne_188 at h
    refine a_aload_n C dX12_tellOne_188 (i := 0) rfl rfl ?_
    refine a_get C fl_RX12_191 (i := 236) kd_236 (hid 236 (by decide)) (v := .int (σ.1 236 13)) rfl dX12_tellOne_189 ?_
    refine p_if_le C (X := (σ.1 236 13).toInt) rfl dX12_tellOne_192 (tgt := 196) rfl h (fun h => ?_) (fun h => ?_)
    ·
      refine a_aload_n C dX12_tellOne_196 (i := 0) rfl rfl ?_
      refine p_callVv C (As := []) (i := 236) kd_236 (hid 236 (by decide)) ⟨_, _, rfl⟩ (by decide) h (fun _ e => Z_X12_goesOn hid e) mi_X12_goesOn ml_RX12_212 rfl rfl (Nat.le_of_ble_eq_true rfl) (Nat.le_of_ble_eq_true rfl) (Nat.le_of_ble_eq_true rfl) dX12_tellOne_197 (fun σ1 h => ?_)
      refine a_aload_n C dX12_tellOne_200 (i := 0) rfl rfl ?_
      refine a_iload_n C dX12_tellOne_201 (i := 1) rfl rfl ?_
      refine p_callVv C (As := [.int y1]) (i := 236) kd_236 (hid 236 (by decide)) ⟨_, _, rfl⟩ (by decide) h (fun _ e => Z_X12_tellLaw hid e) mi_X12_tellLaw ml_RX12_265 rfl rfl (Nat.le_of_ble_eq_true rfl) (Nat.le_of_ble_eq_true rfl) (Nat.le_of_ble_eq_true rfl) dX12_tellOne_202 (fun σ3 h => ?_)
      exact a_vret Rt dX12_tellOne_205 (retv_eq (h.trans (congrArg some hR.symm)))
    ·
      exact a_vret Rt dX12_tellOne_195 (retv_eq (h.trans (congrArg some hR.symm)))
  have j183 : ∀ (y1 : Int32) (σ : HS), f_X12_tellOne_183 y1 σ = some R → AW ids ad ca Γ 183 [some (.ref (ad 236)), some (.int y1)] [] σ := by
    intro y1 σ h
    unfold f_X12_tellOne_183 at h
    refine a_aload_n C dX12_tellOne_183 (i := 0) rfl rfl ?_
    refine a_iconst C dX12_tellOne_184 (v := 1) rfl ?_
    refine p_callVv C (As := [.int 1]) (i := 236) kd_236 (hid 236 (by decide)) ⟨_, _, rfl⟩ (by decide) h (fun _ e => Z_X12_fail hid e) mi_X12_fail ml_RX12_206 rfl rfl (Nat.le_of_ble_eq_true rfl) (Nat.le_of_ble_eq_true rfl) (Nat.le_of_ble_eq_true rfl) dX12_tellOne_185 (fun σ1 h => ?_)
    exact j188 _ _ h
  refine a_aload_n C dX12_tellOne_0 (i := 0) rfl rfl ?_
  refine a_get C fl_RX12_20 (i := 236) kd_236 (hid 236 (by decide)) (v := .ref (ad 239)) rfl dX12_tellOne_1 ?_
  refine a_aload_n C dX12_tellOne_4 (i := 0) rfl rfl ?_
  refine a_get C fl_RX12_194 (i := 236) kd_236 (hid 236 (by decide)) (v := .int (σ.1 236 11)) rfl dX12_tellOne_5 ?_
  refine p_iald C (i := 239) (show rowOK 239 from ⟨kd_239, by decide⟩) hid (by rw [al_239]; rfl) dX12_tellOne_8 h (fun h => ?_)
  refine ite_k h (fun c1 h => ?_) (fun c1 h => ?_)
  ·
    refine a_tableIn C dX12_tellOne_9 (by omega) (by omega) (by rw [c1]; rfl) (tgt := 56) rfl ?_
    refine a_aload_n C dX12_tellOne_56 (i := 0) rfl rfl ?_
    refine a_aload_n C dX12_tellOne_57 (i := 0) rfl rfl ?_
    refine a_get C fl_RX12_43 (i := 236) kd_236 (hid 236 (by decide)) (v := .ref (ad 245)) rfl dX12_tellOne_58 ?_
    refine a_aload_n C dX12_tellOne_61 (i := 0) rfl rfl ?_
    refine a_get C fl_RX12_224 (i := 236) kd_236 (hid 236 (by decide)) (v := .int (σ.1 236 19)) rfl dX12_tellOne_62 ?_
    refine p_iald C (i := 245) (show rowOK 245 from ⟨kd_245, by decide⟩) hid (by rw [al_245]; rfl) dX12_tellOne_65 h (fun h => ?_)
    refine a_bipush C dX12_tellOne_66 (v := 7) rfl ?_
    refine p_callVv C (As := [.int (σ.1 245 (σ.1 236 19).toInt.toNat), .int 7]) (i := 236) kd_236 (hid 236 (by decide)) ⟨_, _, rfl⟩ (by decide) h (fun _ e => Z_X12_roomFor hid e) mi_X12_roomFor ml_RX12_252 rfl rfl (Nat.le_of_ble_eq_true rfl) (Nat.le_of_ble_eq_true rfl) (Nat.le_of_ble_eq_true rfl) dX12_tellOne_68 (fun σ1 h => ?_)
    refine a_aload_n C dX12_tellOne_71 (i := 0) rfl rfl ?_
    refine a_get C fl_RX12_191 (i := 236) kd_236 (hid 236 (by decide)) (v := .int (σ1.1 236 13)) rfl dX12_tellOne_72 ?_
    refine p_if_ne C (X := (σ1.1 236 13).toInt) rfl dX12_tellOne_75 (tgt := 205) rfl h (fun h => ?_) (fun h => ?_)
    ·
      exact a_vret Rt dX12_tellOne_205 (retv_eq (h.trans (congrArg some hR.symm)))
    ·
      refine a_aload_n C dX12_tellOne_78 (i := 0) rfl rfl ?_
      refine p_callVv C (As := []) (i := 236) kd_236 (hid 236 (by decide)) ⟨_, _, rfl⟩ (by decide) h (fun _ e => Z_X12_tellThing hid e) mi_X12_tellThing ml_RX12_256 rfl rfl (Nat.le_of_ble_eq_true rfl) (Nat.le_of_ble_eq_true rfl) (Nat.le_of_ble_eq_true rfl) dX12_tellOne_79 (fun σ3 h => ?_)
      refine a_goto C dX12_tellOne_82 (tgt := 205) rfl ?_
      exact a_vret Rt dX12_tellOne_205 (retv_eq (h.trans (congrArg some hR.symm)))
  ·
    refine ite_k h (fun c2 h => ?_) (fun c2 h => ?_)
    ·
      refine a_tableIn C dX12_tellOne_9 (by omega) (by omega) (by rw [c2]; rfl) (tgt := 85) rfl ?_
      refine a_aload_n C dX12_tellOne_85 (i := 0) rfl rfl ?_
      refine a_aload_n C dX12_tellOne_86 (i := 0) rfl rfl ?_
      refine a_get C fl_RX12_55 (i := 236) kd_236 (hid 236 (by decide)) (v := .ref (ad 249)) rfl dX12_tellOne_87 ?_
      refine a_aload_n C dX12_tellOne_90 (i := 0) rfl rfl ?_
      refine a_get C fl_RX12_224 (i := 236) kd_236 (hid 236 (by decide)) (v := .int (σ.1 236 19)) rfl dX12_tellOne_91 ?_
      refine p_iald C (i := 249) (show rowOK 249 from ⟨kd_249, by decide⟩) hid (by rw [al_249]; rfl) dX12_tellOne_94 h (fun h => ?_)
      refine a_iconst C dX12_tellOne_95 (v := 5) rfl ?_
      refine p_callVv C (As := [.int (σ.1 249 (σ.1 236 19).toInt.toNat), .int 5]) (i := 236) kd_236 (hid 236 (by decide)) ⟨_, _, rfl⟩ (by decide) h (fun _ e => Z_X12_roomFor hid e) mi_X12_roomFor ml_RX12_252 rfl rfl (Nat.le_of_ble_eq_true rfl) (Nat.le_of_ble_eq_true rfl) (Nat.le_of_ble_eq_true rfl) dX12_tellOne_96 (fun σ5 h => ?_)
      refine a_aload_n C dX12_tellOne_99 (i := 0) rfl rfl ?_
      refine a_get C fl_RX12_191 (i := 236) kd_236 (hid 236 (by decide)) (v := .int (σ5.1 236 13)) rfl dX12_tellOne_100 ?_
      refine p_if_ne C (X := (σ5.1 236 13).toInt) rfl dX12_tellOne_103 (tgt := 205) rfl h (fun h => ?_) (fun h => ?_)
      ·
        exact a_vret Rt dX12_tellOne_205 (retv_eq (h.trans (congrArg some hR.symm)))
      ·
        refine a_aload_n C dX12_tellOne_106 (i := 0) rfl rfl ?_
        refine p_callVv C (As := []) (i := 236) kd_236 (hid 236 (by decide)) ⟨_, _, rfl⟩ (by decide) h (fun _ e => Z_X12_tellPattern hid e) mi_X12_tellPattern ml_RX12_259 rfl rfl (Nat.le_of_ble_eq_true rfl) (Nat.le_of_ble_eq_true rfl) (Nat.le_of_ble_eq_true rfl) dX12_tellOne_107 (fun σ7 h => ?_)
        refine a_goto C dX12_tellOne_110 (tgt := 205) rfl ?_
        exact a_vret Rt dX12_tellOne_205 (retv_eq (h.trans (congrArg some hR.symm)))
    ·
      refine ite_k h (fun c3 h => ?_) (fun c3 h => ?_)
      ·
        refine a_tableIn C dX12_tellOne_9 (by omega) (by omega) (by rw [c3]; rfl) (tgt := 113) rfl ?_
        refine a_aload_n C dX12_tellOne_113 (i := 0) rfl rfl ?_
        refine a_get C fl_RX12_64 (i := 236) kd_236 (hid 236 (by decide)) (v := .ref (ad 252)) rfl dX12_tellOne_114 ?_
        refine a_aload_n C dX12_tellOne_117 (i := 0) rfl rfl ?_
        refine a_get C fl_RX12_224 (i := 236) kd_236 (hid 236 (by decide)) (v := .int (σ.1 236 19)) rfl dX12_tellOne_118 ?_
        refine a_aload_n C dX12_tellOne_121 (i := 0) rfl rfl ?_
        refine a_iconst C dX12_tellOne_122 (v := 0) rfl ?_
        refine a_bipush C dX12_tellOne_123 (v := 99) rfl ?_
        refine p_callVi C (As := [.int 0, .int 99]) (i := 236) kd_236 (hid 236 (by decide)) ⟨_, _, rfl⟩ (by decide) h (fun _ _ e => Z_X12_toldInt hid e) mi_X12_toldInt ml_RX12_262 rfl rfl (Nat.le_of_ble_eq_true rfl) (Nat.le_of_ble_eq_true rfl) (Nat.le_of_ble_eq_true rfl) dX12_tellOne_125 (fun r10 σ9 h => ?_)
        refine p_iast C (i := 252) (show rowOK 252 from ⟨kd_252, by decide⟩) hid (by rw [al_252]; rfl) dX12_tellOne_128 h (fun σ11 h => ?_)
        refine a_goto C dX12_tellOne_129 (tgt := 205) rfl ?_
        exact a_vret Rt dX12_tellOne_205 (retv_eq (h.trans (congrArg some hR.symm)))
      ·
        refine ite_k h (fun c4 h => ?_) (fun c4 h => ?_)
        ·
          refine a_tableIn C dX12_tellOne_9 (by omega) (by omega) (by rw [c4]; rfl) (tgt := 132) rfl ?_
          refine a_aload_n C dX12_tellOne_132 (i := 0) rfl rfl ?_
          refine a_get C fl_RX12_67 (i := 236) kd_236 (hid 236 (by decide)) (v := .ref (ad 253)) rfl dX12_tellOne_133 ?_
          refine a_aload_n C dX12_tellOne_136 (i := 0) rfl rfl ?_
          refine a_get C fl_RX12_224 (i := 236) kd_236 (hid 236 (by decide)) (v := .int (σ.1 236 19)) rfl dX12_tellOne_137 ?_
          refine a_aload_n C dX12_tellOne_140 (i := 0) rfl rfl ?_
          refine a_iconst C dX12_tellOne_141 (v := 0) rfl ?_
          refine a_sipush C dX12_tellOne_142 (v := 9999) rfl ?_
          refine p_callVi C (As := [.int 0, .int 9999]) (i := 236) kd_236 (hid 236 (by decide)) ⟨_, _, rfl⟩ (by decide) h (fun _ _ e => Z_X12_toldInt hid e) mi_X12_toldInt ml_RX12_262 rfl rfl (Nat.le_of_ble_eq_true rfl) (Nat.le_of_ble_eq_true rfl) (Nat.le_of_ble_eq_true rfl) dX12_tellOne_145 (fun r13 σ12 h => ?_)
          refine p_iast C (i := 253) (show rowOK 253 from ⟨kd_253, by decide⟩) hid (by rw [al_253]; rfl) dX12_tellOne_148 h (fun σ14 h => ?_)
          refine a_goto C dX12_tellOne_149 (tgt := 205) rfl ?_
          exact a_vret Rt dX12_tellOne_205 (retv_eq (h.trans (congrArg some hR.symm)))
        ·
          by_cases cc22 : (σ.1 239 (σ.1 236 11).toInt.toNat).toInt = 22
          ·
            refine a_tableIn C dX12_tellOne_9 (by omega) (by omega) (by rw [cc22]; rfl) (tgt := 152) rfl ?_
            refine a_aload_n C dX12_tellOne_152 (i := 0) rfl rfl ?_
            refine a_get C fl_RX12_20 (i := 236) kd_236 (hid 236 (by decide)) (v := .ref (ad 239)) rfl dX12_tellOne_153 ?_
            refine a_aload_n C dX12_tellOne_156 (i := 0) rfl rfl ?_
            refine a_get C fl_RX12_194 (i := 236) kd_236 (hid 236 (by decide)) (v := .int (σ.1 236 11)) rfl dX12_tellOne_157 ?_
            refine p_iald C (i := 239) (show rowOK 239 from ⟨kd_239, by decide⟩) hid (by rw [al_239]; rfl) dX12_tellOne_160 h (fun h => ?_)
            refine a_bipush C dX12_tellOne_161 (v := 22) rfl ?_
            refine a_isub C dX12_tellOne_163 ?_
            refine p_istore_n C (fun z16 => [some (.ref (ad 236)), some (.int z16)]) dX12_tellOne_164 (i := 1) rfl (by decide) rfl (fun _ => rfl) h (fun z16 h => ?_)
            refine a_iload_n C dX12_tellOne_165 (i := 1) rfl rfl ?_
            refine p_if_lt C (X := z16.toInt) rfl dX12_tellOne_166 (tgt := 183) rfl h (fun h => ?_) (fun h => ?_)
            ·
              exact j183 _ _ h
            ·
              refine a_aload_n C dX12_tellOne_169 (i := 0) rfl rfl ?_
              refine a_get C fl_RX12_20 (i := 236) kd_236 (hid 236 (by decide)) (v := .ref (ad 239)) rfl dX12_tellOne_170 ?_
              refine a_aload_n C dX12_tellOne_173 (i := 0) rfl rfl ?_
              refine a_get C fl_RX12_194 (i := 236) kd_236 (hid 236 (by decide)) (v := .int (σ.1 236 11)) rfl dX12_tellOne_174 ?_
              refine p_iald C (i := 239) (show rowOK 239 from ⟨kd_239, by decide⟩) hid (by rw [al_239]; rfl) dX12_tellOne_177 h (fun h => ?_)
              refine a_bipush C dX12_tellOne_178 (v := 25) rfl ?_
              refine p_ic_le C (X := (σ.1 239 (σ.1 236 11).toInt.toNat).toInt) (Y := 25) rfl (by decide) dX12_tellOne_180 (tgt := 188) rfl h (fun h => ?_) (fun h => ?_)
              ·
                exact j188 _ _ h
              ·
                exact j183 _ _ h
          by_cases cc23 : (σ.1 239 (σ.1 236 11).toInt.toNat).toInt = 23
          ·
            refine a_tableIn C dX12_tellOne_9 (by omega) (by omega) (by rw [cc23]; rfl) (tgt := 152) rfl ?_
            refine a_aload_n C dX12_tellOne_152 (i := 0) rfl rfl ?_
            refine a_get C fl_RX12_20 (i := 236) kd_236 (hid 236 (by decide)) (v := .ref (ad 239)) rfl dX12_tellOne_153 ?_
            refine a_aload_n C dX12_tellOne_156 (i := 0) rfl rfl ?_
            refine a_get C fl_RX12_194 (i := 236) kd_236 (hid 236 (by decide)) (v := .int (σ.1 236 11)) rfl dX12_tellOne_157 ?_
            refine p_iald C (i := 239) (show rowOK 239 from ⟨kd_239, by decide⟩) hid (by rw [al_239]; rfl) dX12_tellOne_160 h (fun h => ?_)
            refine a_bipush C dX12_tellOne_161 (v := 22) rfl ?_
            refine a_isub C dX12_tellOne_163 ?_
            refine p_istore_n C (fun z17 => [some (.ref (ad 236)), some (.int z17)]) dX12_tellOne_164 (i := 1) rfl (by decide) rfl (fun _ => rfl) h (fun z17 h => ?_)
            refine a_iload_n C dX12_tellOne_165 (i := 1) rfl rfl ?_
            refine p_if_lt C (X := z17.toInt) rfl dX12_tellOne_166 (tgt := 183) rfl h (fun h => ?_) (fun h => ?_)
            ·
              exact j183 _ _ h
            ·
              refine a_aload_n C dX12_tellOne_169 (i := 0) rfl rfl ?_
              refine a_get C fl_RX12_20 (i := 236) kd_236 (hid 236 (by decide)) (v := .ref (ad 239)) rfl dX12_tellOne_170 ?_
              refine a_aload_n C dX12_tellOne_173 (i := 0) rfl rfl ?_
              refine a_get C fl_RX12_194 (i := 236) kd_236 (hid 236 (by decide)) (v := .int (σ.1 236 11)) rfl dX12_tellOne_174 ?_
              refine p_iald C (i := 239) (show rowOK 239 from ⟨kd_239, by decide⟩) hid (by rw [al_239]; rfl) dX12_tellOne_177 h (fun h => ?_)
              refine a_bipush C dX12_tellOne_178 (v := 25) rfl ?_
              refine p_ic_le C (X := (σ.1 239 (σ.1 236 11).toInt.toNat).toInt) (Y := 25) rfl (by decide) dX12_tellOne_180 (tgt := 188) rfl h (fun h => ?_) (fun h => ?_)
              ·
                exact j188 _ _ h
              ·
                exact j183 _ _ h
          by_cases cc24 : (σ.1 239 (σ.1 236 11).toInt.toNat).toInt = 24
          ·
            refine a_tableIn C dX12_tellOne_9 (by omega) (by omega) (by rw [cc24]; rfl) (tgt := 152) rfl ?_
            refine a_aload_n C dX12_tellOne_152 (i := 0) rfl rfl ?_
            refine a_get C fl_RX12_20 (i := 236) kd_236 (hid 236 (by decide)) (v := .ref (ad 239)) rfl dX12_tellOne_153 ?_
            refine a_aload_n C dX12_tellOne_156 (i := 0) rfl rfl ?_
            refine a_get C fl_RX12_194 (i := 236) kd_236 (hid 236 (by decide)) (v := .int (σ.1 236 11)) rfl dX12_tellOne_157 ?_
            refine p_iald C (i := 239) (show rowOK 239 from ⟨kd_239, by decide⟩) hid (by rw [al_239]; rfl) dX12_tellOne_160 h (fun h => ?_)
            refine a_bipush C dX12_tellOne_161 (v := 22) rfl ?_
            refine a_isub C dX12_tellOne_163 ?_
            refine p_istore_n C (fun z18 => [some (.ref (ad 236)), some (.int z18)]) dX12_tellOne_164 (i := 1) rfl (by decide) rfl (fun _ => rfl) h (fun z18 h => ?_)
            refine a_iload_n C dX12_tellOne_165 (i := 1) rfl rfl ?_
            refine p_if_lt C (X := z18.toInt) rfl dX12_tellOne_166 (tgt := 183) rfl h (fun h => ?_) (fun h => ?_)
            ·
              exact j183 _ _ h
            ·
              refine a_aload_n C dX12_tellOne_169 (i := 0) rfl rfl ?_
              refine a_get C fl_RX12_20 (i := 236) kd_236 (hid 236 (by decide)) (v := .ref (ad 239)) rfl dX12_tellOne_170 ?_
              refine a_aload_n C dX12_tellOne_173 (i := 0) rfl rfl ?_
              refine a_get C fl_RX12_194 (i := 236) kd_236 (hid 236 (by decide)) (v := .int (σ.1 236 11)) rfl dX12_tellOne_174 ?_
              refine p_iald C (i := 239) (show rowOK 239 from ⟨kd_239, by decide⟩) hid (by rw [al_239]; rfl) dX12_tellOne_177 h (fun h => ?_)
              refine a_bipush C dX12_tellOne_178 (v := 25) rfl ?_
              refine p_ic_le C (X := (σ.1 239 (σ.1 236 11).toInt.toNat).toInt) (Y := 25) rfl (by decide) dX12_tellOne_180 (tgt := 188) rfl h (fun h => ?_) (fun h => ?_)
              ·
                exact j188 _ _ h
              ·
                exact j183 _ _ h
          by_cases cc25 : (σ.1 239 (σ.1 236 11).toInt.toNat).toInt = 25
          ·
            refine a_tableIn C dX12_tellOne_9 (by omega) (by omega) (by rw [cc25]; rfl) (tgt := 152) rfl ?_
            refine a_aload_n C dX12_tellOne_152 (i := 0) rfl rfl ?_
            refine a_get C fl_RX12_20 (i := 236) kd_236 (hid 236 (by decide)) (v := .ref (ad 239)) rfl dX12_tellOne_153 ?_
            refine a_aload_n C dX12_tellOne_156 (i := 0) rfl rfl ?_
            refine a_get C fl_RX12_194 (i := 236) kd_236 (hid 236 (by decide)) (v := .int (σ.1 236 11)) rfl dX12_tellOne_157 ?_
            refine p_iald C (i := 239) (show rowOK 239 from ⟨kd_239, by decide⟩) hid (by rw [al_239]; rfl) dX12_tellOne_160 h (fun h => ?_)
            refine a_bipush C dX12_tellOne_161 (v := 22) rfl ?_
            refine a_isub C dX12_tellOne_163 ?_
            refine p_istore_n C (fun z19 => [some (.ref (ad 236)), some (.int z19)]) dX12_tellOne_164 (i := 1) rfl (by decide) rfl (fun _ => rfl) h (fun z19 h => ?_)
            refine a_iload_n C dX12_tellOne_165 (i := 1) rfl rfl ?_
            refine p_if_lt C (X := z19.toInt) rfl dX12_tellOne_166 (tgt := 183) rfl h (fun h => ?_) (fun h => ?_)
            ·
              exact j183 _ _ h
            ·
              refine a_aload_n C dX12_tellOne_169 (i := 0) rfl rfl ?_
              refine a_get C fl_RX12_20 (i := 236) kd_236 (hid 236 (by decide)) (v := .ref (ad 239)) rfl dX12_tellOne_170 ?_
              refine a_aload_n C dX12_tellOne_173 (i := 0) rfl rfl ?_
              refine a_get C fl_RX12_194 (i := 236) kd_236 (hid 236 (by decide)) (v := .int (σ.1 236 11)) rfl dX12_tellOne_174 ?_
              refine p_iald C (i := 239) (show rowOK 239 from ⟨kd_239, by decide⟩) hid (by rw [al_239]; rfl) dX12_tellOne_177 h (fun h => ?_)
              refine a_bipush C dX12_tellOne_178 (v := 25) rfl ?_
              refine p_ic_le C (X := (σ.1 239 (σ.1 236 11).toInt.toNat).toInt) (Y := 25) rfl (by decide) dX12_tellOne_180 (tgt := 188) rfl h (fun h => ?_) (fun h => ?_)
              ·
                exact j188 _ _ h
              ·
                exact j183 _ _ h
          refine a_tableOut C dX12_tellOne_9 (by omega) (tgt := 152) rfl ?_
          refine a_aload_n C dX12_tellOne_152 (i := 0) rfl rfl ?_
          refine a_get C fl_RX12_20 (i := 236) kd_236 (hid 236 (by decide)) (v := .ref (ad 239)) rfl dX12_tellOne_153 ?_
          refine a_aload_n C dX12_tellOne_156 (i := 0) rfl rfl ?_
          refine a_get C fl_RX12_194 (i := 236) kd_236 (hid 236 (by decide)) (v := .int (σ.1 236 11)) rfl dX12_tellOne_157 ?_
          refine p_iald C (i := 239) (show rowOK 239 from ⟨kd_239, by decide⟩) hid (by rw [al_239]; rfl) dX12_tellOne_160 h (fun h => ?_)
          refine a_bipush C dX12_tellOne_161 (v := 22) rfl ?_
          refine a_isub C dX12_tellOne_163 ?_
          refine p_istore_n C (fun z15 => [some (.ref (ad 236)), some (.int z15)]) dX12_tellOne_164 (i := 1) rfl (by decide) rfl (fun _ => rfl) h (fun z15 h => ?_)
          refine a_iload_n C dX12_tellOne_165 (i := 1) rfl rfl ?_
          refine p_if_lt C (X := z15.toInt) rfl dX12_tellOne_166 (tgt := 183) rfl h (fun h => ?_) (fun h => ?_)
          ·
            exact j183 _ _ h
          ·
            refine a_aload_n C dX12_tellOne_169 (i := 0) rfl rfl ?_
            refine a_get C fl_RX12_20 (i := 236) kd_236 (hid 236 (by decide)) (v := .ref (ad 239)) rfl dX12_tellOne_170 ?_
            refine a_aload_n C dX12_tellOne_173 (i := 0) rfl rfl ?_
            refine a_get C fl_RX12_194 (i := 236) kd_236 (hid 236 (by decide)) (v := .int (σ.1 236 11)) rfl dX12_tellOne_174 ?_
            refine p_iald C (i := 239) (show rowOK 239 from ⟨kd_239, by decide⟩) hid (by rw [al_239]; rfl) dX12_tellOne_177 h (fun h => ?_)
            refine a_bipush C dX12_tellOne_178 (v := 25) rfl ?_
            refine p_ic_le C (X := (σ.1 239 (σ.1 236 11).toInt.toNat).toInt) (Y := 25) rfl (by decide) dX12_tellOne_180 (tgt := 188) rfl h (fun h => ?_) (fun h => ?_)
            ·
              exact j188 _ _ h
            ·
              exact j183 _ _ h

set_option maxHeartbeats 4000000 in
set_option maxRecDepth 100000 in
theorem Z_X12_read {l : Launch} {D : va_G} {ids : List Nat} {ad : Nat → Nat} {ca : Nat → ClassId} {σ : HS} {r0 : Int32} {s0 : HS} (hid : ∀ i, i < 277 → i ∈ ids) (h : f_X12_read σ = some (r0, s0)) : Ki l D ids ad ca yX12_read cX12_read 2 .int 7 147 [.ref (ad 236)] σ (fun r σ1 => r = r0 ∧ σ1 = s0) := by
  obtain ⟨R, hR⟩ : ∃ R, (r0, s0) = R := ⟨_, rfl⟩
  replace h := h.trans (congrArg some hR)
  refine Ki.of (by decide) (Nat.le_of_ble_eq_true rfl) 1 (fun Γ C Rt => ?_)
  show AW ids ad ca Γ 0 [some (.ref (ad 236)), none] [] σ
  unfold f_X12_read at h
  have j219 : ∀ (n : Nat) (y1 : Int32) (σ : HS), f_X12_read_219 n y1 σ = some R → AW ids ad ca Γ 219 [some (.ref (ad 236)), some (.int y1)] [] σ := by
    intro n
    induction n with
    | zero => intro y1 σ h; exact nn h
    | succ n ih =>
      intro y1 σ h
      have h : b_X12_read_219 (f_X12_read_219 n) y1 σ = some R := h
      unfold b_X12_read_219 at h
      refine a_iload_n C dX12_read_219 (i := 1) rfl rfl ?_
      refine a_iconst C dX12_read_220 (v := 3) rfl ?_
      refine p_ic_ge C (X := y1.toInt) (Y := 3) rfl (by decide) dX12_read_221 (tgt := 237) rfl h (fun h => ?_) (fun h => ?_)
      ·
        refine a_iconst C dX12_read_237 (v := 0) rfl ?_
        exact a_iret Rt dX12_read_238 rfl (ret_eq (h.trans (congrArg some hR.symm)))
      ·
        refine a_aload_n C dX12_read_224 (i := 0) rfl rfl ?_
        refine a_get C fl_RX12_134 (i := 236) kd_236 (hid 236 (by decide)) (v := .ref (ad 275)) rfl dX12_read_225 ?_
        refine a_iload_n C dX12_read_228 (i := 1) rfl rfl ?_
        refine a_iconst C dX12_read_229 (v := 0) rfl ?_
        refine p_zast C (i := 275) kd_275 (hid 275 (by decide)) (by rw [al_275]; rfl) (by decide) dX12_read_230 h (fun σ1 h => ?_)
        refine p_iinc C (y := (y1 + 1)) (fun z2 => [some (.ref (ad 236)), some (.int z2)]) dX12_read_231 rfl rfl (by decide) rfl (fun _ => rfl) h (fun z2 h => ?_)
        refine a_goto C dX12_read_234 (tgt := 219) rfl ?_
        exact ih _ _ h
  have j164 : ∀ (v0 : Int32) (σ : HS), f_X12_read_164 v0 σ = some R → AW ids ad ca Γ 164 [some (.ref (ad 236)), none] [.int v0, .ref (ad 236)] σ := by
    intro v0 σ h
    unfold f_X12_read_164 at h
    refine p_put C fp_RX12_37 (i := 236) kd_236 (hid 236 (by decide)) rfl rfl dX12_read_164 h (fun σ1 h => ?_)
    refine a_aload_n C dX12_read_167 (i := 0) rfl rfl ?_
    refine a_get C fl_RX12_191 (i := 236) kd_236 (hid 236 (by decide)) (v := .int (σ1.1 236 13)) rfl dX12_read_168 ?_
    refine p_if_le C (X := (σ1.1 236 13).toInt) rfl dX12_read_171 (tgt := 179) rfl h (fun h => ?_) (fun h => ?_)
    ·
      refine a_aload_n C dX12_read_179 (i := 0) rfl rfl ?_
      refine a_get C fl_RX12_200 (i := 236) kd_236 (hid 236 (by decide)) (v := .int (σ1.1 236 15)) rfl dX12_read_180 ?_
      refine p_if_le C (X := (σ1.1 236 15).toInt) rfl dX12_read_183 (tgt := 191) rfl h (fun h => ?_) (fun h => ?_)
      ·
        refine a_aload_n C dX12_read_191 (i := 0) rfl rfl ?_
        refine a_aload_n C dX12_read_192 (i := 0) rfl rfl ?_
        refine a_get C fl_RX12_224 (i := 236) kd_236 (hid 236 (by decide)) (v := .int (σ1.1 236 19)) rfl dX12_read_193 ?_
        refine p_put C fp_RX12_221 (i := 236) kd_236 (hid 236 (by decide)) rfl rfl dX12_read_196 h (fun σ2 h => ?_)
        refine a_aload_n C dX12_read_199 (i := 0) rfl rfl ?_
        refine p_callVv C (As := []) (i := 236) kd_236 (hid 236 (by decide)) ⟨_, _, rfl⟩ (by decide) h (fun _ e => Z_X12_begins hid e) mi_X12_begins ml_RX12_148 rfl rfl (Nat.le_of_ble_eq_true rfl) (Nat.le_of_ble_eq_true rfl) (Nat.le_of_ble_eq_true rfl) dX12_read_200 (fun σ3 h => ?_)
        refine a_aload_n C dX12_read_203 (i := 0) rfl rfl ?_
        refine p_callVv C (As := []) (i := 236) kd_236 (hid 236 (by decide)) ⟨_, _, rfl⟩ (by decide) h (fun _ e => Z_X12_keepsRow hid e) mi_X12_keepsRow ml_RX12_151 rfl rfl (Nat.le_of_ble_eq_true rfl) (Nat.le_of_ble_eq_true rfl) (Nat.le_of_ble_eq_true rfl) dX12_read_204 (fun σ5 h => ?_)
        refine a_aload_n C dX12_read_207 (i := 0) rfl rfl ?_
        refine a_iconst C dX12_read_208 (v := 0) rfl ?_
        refine p_put C fp_RX12_239 (i := 236) kd_236 (hid 236 (by decide)) rfl rfl dX12_read_209 h (fun σ7 h => ?_)
        refine a_aload_n C dX12_read_212 (i := 0) rfl rfl ?_
        refine a_iconst C dX12_read_213 (v := 0) rfl ?_
        refine p_put C fp_RX12_242 (i := 236) kd_236 (hid 236 (by decide)) rfl rfl dX12_read_214 h (fun σ8 h => ?_)
        refine a_iconst C dX12_read_217 (v := 0) rfl ?_
        refine a_istore_n C dX12_read_218 (i := 1) rfl (by decide) rfl (vs1 := [some (.ref (ad 236)), some (.int 0)]) rfl ?_
        exact j219 _ _ _ h
      ·
        refine a_aload_n C dX12_read_186 (i := 0) rfl rfl ?_
        refine a_get C fl_RX12_200 (i := 236) kd_236 (hid 236 (by decide)) (v := .int (σ1.1 236 15)) rfl dX12_read_187 ?_
        exact a_iret Rt dX12_read_190 rfl (ret_eq (h.trans (congrArg some hR.symm)))
    ·
      refine a_aload_n C dX12_read_174 (i := 0) rfl rfl ?_
      refine a_get C fl_RX12_191 (i := 236) kd_236 (hid 236 (by decide)) (v := .int (σ1.1 236 13)) rfl dX12_read_175 ?_
      exact a_iret Rt dX12_read_178 rfl (ret_eq (h.trans (congrArg some hR.symm)))
  have j134 : ∀ (σ : HS), f_X12_read_134 σ = some R → AW ids ad ca Γ 134 [some (.ref (ad 236)), none] [] σ := by
    intro σ h
    unfold f_X12_read_134 at h
    refine a_aload_n C dX12_read_134 (i := 0) rfl rfl ?_
    refine a_aload_n C dX12_read_135 (i := 0) rfl rfl ?_
    refine a_get C fl_RX12_191 (i := 236) kd_236 (hid 236 (by decide)) (v := .int (σ.1 236 13)) rfl dX12_read_136 ?_
    refine p_if_le C (X := (σ.1 236 13).toInt) rfl dX12_read_139 (tgt := 149) rfl h (fun h => ?_) (fun h => ?_)
    ·
      refine a_aload_n C dX12_read_149 (i := 0) rfl rfl ?_
      refine a_get C fl_RX12_200 (i := 236) kd_236 (hid 236 (by decide)) (v := .int (σ.1 236 15)) rfl dX12_read_150 ?_
      refine p_if_le C (X := (σ.1 236 15).toInt) rfl dX12_read_153 (tgt := 163) rfl h (fun h => ?_) (fun h => ?_)
      ·
        refine a_iconst C dX12_read_163 (v := (-1)) rfl ?_
        exact j164 _ _ h
      ·
        refine a_aload_n C dX12_read_156 (i := 0) rfl rfl ?_
        refine a_get C fl_RX12_203 (i := 236) kd_236 (hid 236 (by decide)) (v := .int (σ.1 236 16)) rfl dX12_read_157 ?_
        refine a_goto C dX12_read_160 (tgt := 164) rfl ?_
        exact j164 _ _ h
    ·
      refine a_aload_n C dX12_read_142 (i := 0) rfl rfl ?_
      refine a_get C fl_RX12_197 (i := 236) kd_236 (hid 236 (by decide)) (v := .int (σ.1 236 14)) rfl dX12_read_143 ?_
      refine a_goto C dX12_read_146 (tgt := 164) rfl ?_
      exact j164 _ _ h
  have j112 : ∀ (n : Nat) (σ : HS), f_X12_read_112 n σ = some R → AW ids ad ca Γ 112 [some (.ref (ad 236)), none] [] σ := by
    intro n
    induction n with
    | zero => intro σ h; exact nn h
    | succ n ih =>
      intro σ h
      have h : b_X12_read_112 (f_X12_read_112 n) σ = some R := h
      unfold b_X12_read_112 at h
      refine a_aload_n C dX12_read_112 (i := 0) rfl rfl ?_
      refine a_get C fl_RX12_191 (i := 236) kd_236 (hid 236 (by decide)) (v := .int (σ.1 236 13)) rfl dX12_read_113 ?_
      refine p_if_ne C (X := (σ.1 236 13).toInt) rfl dX12_read_116 (tgt := 134) rfl h (fun h => ?_) (fun h => ?_)
      ·
        exact j134 _ h
      ·
        refine a_aload_n C dX12_read_119 (i := 0) rfl rfl ?_
        refine a_iconst C dX12_read_120 (v := 0) rfl ?_
        refine p_callVi C (As := [.int 0]) (i := 236) kd_236 (hid 236 (by decide)) ⟨_, _, rfl⟩ (by decide) h (fun _ _ e => Z_X12_is hid e) mi_X12_is ml_RX12_209 rfl rfl (Nat.le_of_ble_eq_true rfl) (Nat.le_of_ble_eq_true rfl) (Nat.le_of_ble_eq_true rfl) dX12_read_121 (fun r2 σ1 h => ?_)
        refine p_if_ne C (X := r2.toInt) rfl dX12_read_124 (tgt := 134) rfl h (fun h => ?_) (fun h => ?_)
        ·
          exact j134 _ h
        ·
          refine a_aload_n C dX12_read_127 (i := 0) rfl rfl ?_
          refine p_callVv C (As := []) (i := 236) kd_236 (hid 236 (by decide)) ⟨_, _, rfl⟩ (by decide) h (fun _ e => Z_X12_tellOne hid e) mi_X12_tellOne ml_RX12_236 rfl rfl (Nat.le_of_ble_eq_true rfl) (Nat.le_of_ble_eq_true rfl) (Nat.le_of_ble_eq_true rfl) dX12_read_128 (fun σ3 h => ?_)
          refine a_goto C dX12_read_131 (tgt := 112) rfl ?_
          exact ih _ h
  have j10 : ∀ (n : Nat) (y1 : Int32) (σ : HS), f_X12_read_10 n y1 σ = some R → AW ids ad ca Γ 10 [some (.ref (ad 236)), some (.int y1)] [] σ := by
    intro n
    induction n with
    | zero => intro y1 σ h; exact nn h
    | succ n ih =>
      intro y1 σ h
      have h : b_X12_read_10 (f_X12_read_10 n) y1 σ = some R := h
      unfold b_X12_read_10 at h
      refine a_iload_n C dX12_read_10 (i := 1) rfl rfl ?_
      refine a_aload_n C dX12_read_11 (i := 0) rfl rfl ?_
      refine a_get C fl_RX12_160 (i := 236) kd_236 (hid 236 (by decide)) (v := .int (σ.1 236 4)) rfl dX12_read_12 ?_
      refine p_ic_ge C (X := y1.toInt) (Y := (σ.1 236 4).toInt) rfl rfl dX12_read_15 (tgt := 36) rfl h (fun h => ?_) (fun h => ?_)
      ·
        refine a_aload_n C dX12_read_36 (i := 0) rfl rfl ?_
        refine a_iconst C dX12_read_37 (v := 0) rfl ?_
        refine p_put C fp_RX12_154 (i := 236) kd_236 (hid 236 (by decide)) rfl rfl dX12_read_38 h (fun σ1 h => ?_)
        refine a_aload_n C dX12_read_41 (i := 0) rfl rfl ?_
        refine p_callVv C (As := []) (i := 236) kd_236 (hid 236 (by decide)) ⟨_, _, rfl⟩ (by decide) h (fun _ e => Z_X12_cut hid e) mi_X12_cut ml_RX12_215 rfl rfl (Nat.le_of_ble_eq_true rfl) (Nat.le_of_ble_eq_true rfl) (Nat.le_of_ble_eq_true rfl) dX12_read_42 (fun σ2 h => ?_)
        refine a_aload_n C dX12_read_45 (i := 0) rfl rfl ?_
        refine a_iconst C dX12_read_46 (v := 0) rfl ?_
        refine p_put C fp_RX12_194 (i := 236) kd_236 (hid 236 (by decide)) rfl rfl dX12_read_47 h (fun σ4 h => ?_)
        refine a_aload_n C dX12_read_50 (i := 0) rfl rfl ?_
        refine a_iconst C dX12_read_51 (v := 0) rfl ?_
        refine p_put C fp_RX12_218 (i := 236) kd_236 (hid 236 (by decide)) rfl rfl dX12_read_52 h (fun σ5 h => ?_)
        refine a_aload_n C dX12_read_55 (i := 0) rfl rfl ?_
        refine a_iconst C dX12_read_56 (v := 0) rfl ?_
        refine p_put C fp_RX12_191 (i := 236) kd_236 (hid 236 (by decide)) rfl rfl dX12_read_57 h (fun σ6 h => ?_)
        refine a_aload_n C dX12_read_60 (i := 0) rfl rfl ?_
        refine a_iconst C dX12_read_61 (v := 0) rfl ?_
        refine p_put C fp_RX12_200 (i := 236) kd_236 (hid 236 (by decide)) rfl rfl dX12_read_62 h (fun σ7 h => ?_)
        refine a_aload_n C dX12_read_65 (i := 0) rfl rfl ?_
        refine a_iconst C dX12_read_66 (v := 1) rfl ?_
        refine a_aload_n C dX12_read_67 (i := 0) rfl rfl ?_
        refine a_get C fl_RX12_221 (i := 236) kd_236 (hid 236 (by decide)) (v := .int (σ7.1 236 18)) rfl dX12_read_68 ?_
        refine a_isub C dX12_read_71 ?_
        refine p_put C fp_RX12_224 (i := 236) kd_236 (hid 236 (by decide)) rfl rfl dX12_read_72 h (fun σ8 h => ?_)
        refine a_aload_n C dX12_read_75 (i := 0) rfl rfl ?_
        refine a_iconst C dX12_read_76 (v := 0) rfl ?_
        refine p_put C fp_RX12_227 (i := 236) kd_236 (hid 236 (by decide)) rfl rfl dX12_read_77 h (fun σ9 h => ?_)
        refine a_aload_n C dX12_read_80 (i := 0) rfl rfl ?_
        refine a_aload_n C dX12_read_81 (i := 0) rfl rfl ?_
        refine a_get C fl_RX12_224 (i := 236) kd_236 (hid 236 (by decide)) (v := .int (σ9.1 236 19)) rfl dX12_read_82 ?_
        refine p_callVv C (As := [.int (σ9.1 236 19)]) (i := 236) kd_236 (hid 236 (by decide)) ⟨_, _, rfl⟩ (by decide) h (fun _ e => Z_X12_plain hid e) mi_X12_plain ml_RX12_140 rfl rfl (Nat.le_of_ble_eq_true rfl) (Nat.le_of_ble_eq_true rfl) (Nat.le_of_ble_eq_true rfl) dX12_read_85 (fun σ10 h => ?_)
        refine a_aload_n C dX12_read_88 (i := 0) rfl rfl ?_
        refine a_sipush C dX12_read_89 (v := 130) rfl ?_
        refine a_aload_n C dX12_read_92 (i := 0) rfl rfl ?_
        refine a_get C fl_RX12_224 (i := 236) kd_236 (hid 236 (by decide)) (v := .int (σ10.1 236 19)) rfl dX12_read_93 ?_
        refine a_imul C dX12_read_96 ?_
        refine p_put C fp_RX12_230 (i := 236) kd_236 (hid 236 (by decide)) rfl rfl dX12_read_97 h (fun σ12 h => ?_)
        refine a_aload_n C dX12_read_100 (i := 0) rfl rfl ?_
        refine a_sipush C dX12_read_101 (v := 420) rfl ?_
        refine a_aload_n C dX12_read_104 (i := 0) rfl rfl ?_
        refine a_get C fl_RX12_224 (i := 236) kd_236 (hid 236 (by decide)) (v := .int (σ12.1 236 19)) rfl dX12_read_105 ?_
        refine a_imul C dX12_read_108 ?_
        refine p_put C fp_RX12_233 (i := 236) kd_236 (hid 236 (by decide)) rfl rfl dX12_read_109 h (fun σ13 h => ?_)
        refine AW.sub (vs' := [some (.ref (ad 236)), none]) (lsub_of (by simp [lsubB])) ?_
        exact j112 _ _ h
      ·
        refine a_aload_n C dX12_read_18 (i := 0) rfl rfl ?_
        refine a_get C fl_RX12_17 (i := 236) kd_236 (hid 236 (by decide)) (v := .ref (ad 238)) rfl dX12_read_19 ?_
        refine a_iload_n C dX12_read_22 (i := 1) rfl rfl ?_
        refine a_aload_n C dX12_read_23 (i := 0) rfl rfl ?_
        refine a_get C fl_RX12_13 (i := 236) kd_236 (hid 236 (by decide)) (v := .ref (ad 237)) rfl dX12_read_24 ?_
        refine a_iload_n C dX12_read_27 (i := 1) rfl rfl ?_
        refine p_bald C (i := 237) kd_237 (hid 237 (by decide)) (by rw [al_237]; rfl) dX12_read_28 h (fun h => ?_)
        refine p_bast C (i := 238) kd_238 (hid 238 (by decide)) (by rw [al_238]; rfl) dX12_read_29 h (fun σ14 h => ?_)
        refine p_iinc C (y := (y1 + 1)) (fun z15 => [some (.ref (ad 236)), some (.int z15)]) dX12_read_30 rfl rfl (by decide) rfl (fun _ => rfl) h (fun z15 h => ?_)
        refine a_goto C dX12_read_33 (tgt := 10) rfl ?_
        exact ih _ _ h
  refine a_aload_n C dX12_read_0 (i := 0) rfl rfl ?_
  refine a_aload_n C dX12_read_1 (i := 0) rfl rfl ?_
  refine a_get C fl_RX12_154 (i := 236) kd_236 (hid 236 (by decide)) (v := .int (σ.1 236 2)) rfl dX12_read_2 ?_
  refine p_put C fp_RX12_160 (i := 236) kd_236 (hid 236 (by decide)) rfl rfl dX12_read_5 h (fun σ1 h => ?_)
  refine a_iconst C dX12_read_8 (v := 0) rfl ?_
  refine a_istore_n C dX12_read_9 (i := 1) rfl (by decide) rfl (vs1 := [some (.ref (ad 236)), some (.int 0)]) rfl ?_
  exact j10 _ _ _ h
set_option maxHeartbeats 4000000 in
set_option maxRecDepth 100000 in
theorem Z_X12_place {l : Launch} {D : va_G} {ids : List Nat} {ad : Nat → Nat} {ca : Nat → ClassId} {σ : HS} {r0 : Int32} {s0 : HS} (hid : ∀ i, i < 277 → i ∈ ids) (h : f_X12_place σ = some (r0, s0)) : Ki l D ids ad ca yX12_place cX12_place 1 .int 0 0 [.ref (ad 236)] σ (fun r σ1 => r = r0 ∧ σ1 = s0) := by
  obtain ⟨R, hR⟩ : ∃ R, (r0, s0) = R := ⟨_, rfl⟩
  replace h := h.trans (congrArg some hR)
  refine Ki.of (by decide) (Nat.le_of_ble_eq_true rfl) 0 (fun Γ C Rt => ?_)
  show AW ids ad ca Γ 0 [some (.ref (ad 236))] [] σ
  unfold f_X12_place at h
  refine a_aload_n C dX12_place_0 (i := 0) rfl rfl ?_
  refine a_get C fl_RX12_37 (i := 236) kd_236 (hid 236 (by decide)) (v := .int (σ.1 236 17)) rfl dX12_place_1 ?_
  exact a_iret Rt dX12_place_4 rfl (ret_eq (h.trans (congrArg some hR.symm)))
set_option maxHeartbeats 4000000 in
set_option maxRecDepth 100000 in
theorem Z_X12_termOf {l : Launch} {D : va_G} {ids : List Nat} {ad : Nat → Nat} {ca : Nat → ClassId} {σ : HS} {x1 : Int32} {x2 : Int32} {r0 : Int32} {s0 : HS} (hid : ∀ i, i < 277 → i ∈ ids) (h : f_X12_termOf x1 x2 σ = some (r0, s0)) : Ki l D ids ad ca yX12_termOf cX12_termOf 8 .int 0 0 [.ref (ad 236), .int x1, .int x2] σ (fun r σ1 => r = r0 ∧ σ1 = s0) := by
  obtain ⟨R, hR⟩ : ∃ R, (r0, s0) = R := ⟨_, rfl⟩
  replace h := h.trans (congrArg some hR)
  refine Ki.of (by decide) (Nat.le_of_ble_eq_true rfl) 5 (fun Γ C Rt => ?_)
  show AW ids ad ca Γ 0 [some (.ref (ad 236)), some (.int x1), some (.int x2), none, none, none, none, none] [] σ
  unfold f_X12_termOf at h
  have j159 : ∀ (k5 : Int32 → Int32 → Int32 → HS → Option (Int32 × HS)) (hk5 : ∀ (y2 : Int32) (y3 : Int32) (y4 : Int32) (σ : HS), k5 y2 y3 y4 σ = some R → AW ids ad ca Γ 5 [some (.ref (ad 236)), none, some (.int y2), some (.int y3), some (.int y4), none, none, none] [] σ) (y2 : Int32) (y3 : Int32) (y4 : Int32) (σ : HS), f_X12_termOf_159 k5 y2 y3 y4 σ = some R → AW ids ad ca Γ 159 [some (.ref (ad 236)), none, some (.int y2), some (.int y3), some (.int y4), none, none, none] [] σ := by
    intro k5 hk5 y2 y3 y4 σ h
    unfold f_X12_termOf_159 at h
    refine p_iinc C (y := (y4 + 1)) (fun z1 => [some (.ref (ad 236)), none, some (.int y2), some (.int y3), some (.int z1), none, none, none]) dX12_termOf_159 rfl rfl (by decide) rfl (fun _ => rfl) h (fun z1 h => ?_)
    refine a_goto C dX12_termOf_162 (tgt := 5) rfl ?_
    exact hk5 _ _ _ _ h
  have j158 : ∀ (k5 : Int32 → Int32 → Int32 → HS → Option (Int32 × HS)) (hk5 : ∀ (y2 : Int32) (y3 : Int32) (y4 : Int32) (σ : HS), k5 y2 y3 y4 σ = some R → AW ids ad ca Γ 5 [some (.ref (ad 236)), none, some (.int y2), some (.int y3), some (.int y4), none, none, none] [] σ) (y2 : Int32) (y3 : Int32) (y4 : Int32) (v0 : Int32) (v1 : Int32) (σ : HS), f_X12_termOf_158 k5 y2 y3 y4 v0 v1 σ = some R → AW ids ad ca Γ 158 [some (.ref (ad 236)), none, some (.int y2), some (.int y3), some (.int y4), none, none, none] [.int v0, .int v1, .ref (ad 265)] σ := by
    intro k5 hk5 y2 y3 y4 v0 v1 σ h
    unfold f_X12_termOf_158 at h
    refine p_iast C (i := 265) (show rowOK 265 from ⟨kd_265, by decide⟩) hid (by rw [al_265]; rfl) dX12_termOf_158 h (fun σ1 h => ?_)
    exact j159 k5 hk5 _ _ _ _ h
  have j104 : ∀ (k5 : Int32 → Int32 → Int32 → HS → Option (Int32 × HS)) (hk5 : ∀ (y2 : Int32) (y3 : Int32) (y4 : Int32) (σ : HS), k5 y2 y3 y4 σ = some R → AW ids ad ca Γ 5 [some (.ref (ad 236)), none, some (.int y2), some (.int y3), some (.int y4), none, none, none] [] σ) (y2 : Int32) (y3 : Int32) (y4 : Int32) (y5 : Int32) (y6 : Int32) (y7 : Int32) (σ : HS), f_X12_termOf_104 k5 y2 y3 y4 y5 y6 y7 σ = some R → AW ids ad ca Γ 104 [some (.ref (ad 236)), none, some (.int y2), some (.int y3), some (.int y4), some (.int y5), some (.int y6), some (.int y7)] [] σ := by
    intro k5 hk5 y2 y3 y4 y5 y6 y7 σ h
    unfold f_X12_termOf_104 at h
    refine a_aload_n C dX12_termOf_104 (i := 0) rfl rfl ?_
    refine a_get C fl_RX12_104 (i := 236) kd_236 (hid 236 (by decide)) (v := .ref (ad 265)) rfl dX12_termOf_105 ?_
    refine a_iload_n C dX12_termOf_108 (i := 3) rfl rfl ?_
    refine a_iconst C dX12_termOf_109 (v := 1) rfl ?_
    refine a_isub C dX12_termOf_110 ?_
    refine a_iload C dX12_termOf_111 rfl ?_
    refine a_iconst C dX12_termOf_113 (v := 2) rfl ?_
    refine p_ic_ne C (X := y5.toInt) (Y := 2) rfl (by decide) dX12_termOf_114 (tgt := 125) rfl h (fun h => ?_) (fun h => ?_)
    ·
      refine a_iload C dX12_termOf_125 rfl ?_
      refine a_iconst C dX12_termOf_127 (v := 3) rfl ?_
      refine p_ic_ne C (X := y5.toInt) (Y := 3) rfl (by decide) dX12_termOf_128 (tgt := 139) rfl h (fun h => ?_) (fun h => ?_)
      ·
        refine a_iload C dX12_termOf_139 rfl ?_
        refine a_iconst C dX12_termOf_141 (v := 4) rfl ?_
        refine p_ic_ne C (X := y5.toInt) (Y := 4) rfl (by decide) dX12_termOf_142 (tgt := 153) rfl h (fun h => ?_) (fun h => ?_)
        ·
          refine a_iload C dX12_termOf_153 rfl ?_
          refine a_iload C dX12_termOf_155 rfl ?_
          refine p_idiv C rfl dX12_termOf_157 h (fun h => ?_)
          refine AW.sub (vs' := [some (.ref (ad 236)), none, some (.int y2), some (.int y3), some (.int y4), none, none, none]) (lsub_of (by simp [lsubB])) ?_
          exact j158 k5 hk5 _ _ _ _ _ _ h
        ·
          refine a_iload C dX12_termOf_145 rfl ?_
          refine a_iload C dX12_termOf_147 rfl ?_
          refine a_imul C dX12_termOf_149 ?_
          refine a_goto C dX12_termOf_150 (tgt := 158) rfl ?_
          refine AW.sub (vs' := [some (.ref (ad 236)), none, some (.int y2), some (.int y3), some (.int y4), none, none, none]) (lsub_of (by simp [lsubB])) ?_
          exact j158 k5 hk5 _ _ _ _ _ _ h
      ·
        refine a_iload C dX12_termOf_131 rfl ?_
        refine a_iload C dX12_termOf_133 rfl ?_
        refine a_isub C dX12_termOf_135 ?_
        refine a_goto C dX12_termOf_136 (tgt := 158) rfl ?_
        refine AW.sub (vs' := [some (.ref (ad 236)), none, some (.int y2), some (.int y3), some (.int y4), none, none, none]) (lsub_of (by simp [lsubB])) ?_
        exact j158 k5 hk5 _ _ _ _ _ _ h
    ·
      refine a_iload C dX12_termOf_117 rfl ?_
      refine a_iload C dX12_termOf_119 rfl ?_
      refine a_iadd C dX12_termOf_121 ?_
      refine a_goto C dX12_termOf_122 (tgt := 158) rfl ?_
      refine AW.sub (vs' := [some (.ref (ad 236)), none, some (.int y2), some (.int y3), some (.int y4), none, none, none]) (lsub_of (by simp [lsubB])) ?_
      exact j158 k5 hk5 _ _ _ _ _ _ h
  have j58 : ∀ (k5 : Int32 → Int32 → Int32 → HS → Option (Int32 × HS)) (hk5 : ∀ (y2 : Int32) (y3 : Int32) (y4 : Int32) (σ : HS), k5 y2 y3 y4 σ = some R → AW ids ad ca Γ 5 [some (.ref (ad 236)), none, some (.int y2), some (.int y3), some (.int y4), none, none, none] [] σ) (y2 : Int32) (y3 : Int32) (y4 : Int32) (v0 : Int32) (v1 : Int32) (σ : HS), f_X12_termOf_58 k5 y2 y3 y4 v0 v1 σ = some R → AW ids ad ca Γ 58 [some (.ref (ad 236)), none, some (.int y2), some (.int y3), some (.int y4), none, none, none] [.int v0, .int v1, .ref (ad 265)] σ := by
    intro k5 hk5 y2 y3 y4 v0 v1 σ h
    unfold f_X12_termOf_58 at h
    refine p_iast C (i := 265) (show rowOK 265 from ⟨kd_265, by decide⟩) hid (by rw [al_265]; rfl) dX12_termOf_58 h (fun σ1 h => ?_)
    refine p_iinc C (y := (y3 + 1)) (fun z2 => [some (.ref (ad 236)), none, some (.int y2), some (.int z2), some (.int y4), none, none, none]) dX12_termOf_59 rfl rfl (by decide) rfl (fun _ => rfl) h (fun z2 h => ?_)
    refine a_goto C dX12_termOf_62 (tgt := 159) rfl ?_
    exact j159 k5 hk5 _ _ _ _ h
  have j5 : ∀ (n : Nat) (y2 : Int32) (y3 : Int32) (y4 : Int32) (σ : HS), f_X12_termOf_5 n y2 y3 y4 σ = some R → AW ids ad ca Γ 5 [some (.ref (ad 236)), none, some (.int y2), some (.int y3), some (.int y4), none, none, none] [] σ := by
    intro n
    induction n with
    | zero => intro y2 y3 y4 σ h; exact nn h
    | succ n ih =>
      intro y2 y3 y4 σ h
      have h : b_X12_termOf_5 (f_X12_termOf_5 n) y2 y3 y4 σ = some R := h
      unfold b_X12_termOf_5 at h
      refine a_iload C dX12_termOf_5 rfl ?_
      refine a_iload_n C dX12_termOf_7 (i := 2) rfl rfl ?_
      refine p_ic_ge C (X := y4.toInt) (Y := y2.toInt) rfl rfl dX12_termOf_8 (tgt := 165) rfl h (fun h => ?_) (fun h => ?_)
      ·
        refine a_aload_n C dX12_termOf_165 (i := 0) rfl rfl ?_
        refine a_get C fl_RX12_104 (i := 236) kd_236 (hid 236 (by decide)) (v := .ref (ad 265)) rfl dX12_termOf_166 ?_
        refine a_iconst C dX12_termOf_169 (v := 0) rfl ?_
        refine p_ialdc C (i := 265) 0 (show rowOK 265 from ⟨kd_265, by decide⟩) hid (by decide) (by rw [al_265]; decide) dX12_termOf_170 ?_
        exact a_iret Rt dX12_termOf_171 rfl (ret_eq (h.trans (congrArg some hR.symm)))
      ·
        refine a_aload_n C dX12_termOf_11 (i := 0) rfl rfl ?_
        refine a_get C fl_RX12_92 (i := 236) kd_236 (hid 236 (by decide)) (v := .ref (ad 261)) rfl dX12_termOf_12 ?_
        refine a_iload C dX12_termOf_15 rfl ?_
        refine p_iald C (i := 261) (show rowOK 261 from ⟨kd_261, by decide⟩) hid (by rw [al_261]; rfl) dX12_termOf_17 h (fun h => ?_)
        refine p_istore C (fun z1 => [some (.ref (ad 236)), none, some (.int y2), some (.int y3), some (.int y4), some (.int z1), none, none]) dX12_termOf_18 (by decide) rfl (fun _ => rfl) h (fun z1 h => ?_)
        refine a_iload C dX12_termOf_20 rfl ?_
        refine a_iconst C dX12_termOf_22 (v := 2) rfl ?_
        refine p_ic_ge C (X := z1.toInt) (Y := 2) rfl (by decide) dX12_termOf_23 (tgt := 65) rfl h (fun h => ?_) (fun h => ?_)
        ·
          refine p_iinc C (y := (y3 + (-1))) (fun z2 => [some (.ref (ad 236)), none, some (.int y2), some (.int z2), some (.int y4), some (.int z1), none, none]) dX12_termOf_65 rfl rfl (by decide) rfl (fun _ => rfl) h (fun z2 h => ?_)
          refine a_aload_n C dX12_termOf_68 (i := 0) rfl rfl ?_
          refine a_get C fl_RX12_104 (i := 236) kd_236 (hid 236 (by decide)) (v := .ref (ad 265)) rfl dX12_termOf_69 ?_
          refine a_iload_n C dX12_termOf_72 (i := 3) rfl rfl ?_
          refine a_iconst C dX12_termOf_73 (v := 1) rfl ?_
          refine a_isub C dX12_termOf_74 ?_
          refine p_iald C (i := 265) (show rowOK 265 from ⟨kd_265, by decide⟩) hid (by rw [al_265]; rfl) dX12_termOf_75 h (fun h => ?_)
          refine p_istore C (fun z3 => [some (.ref (ad 236)), none, some (.int y2), some (.int z2), some (.int y4), some (.int z1), some (.int z3), none]) dX12_termOf_76 (by decide) rfl (fun _ => rfl) h (fun z3 h => ?_)
          refine a_aload_n C dX12_termOf_78 (i := 0) rfl rfl ?_
          refine a_get C fl_RX12_104 (i := 236) kd_236 (hid 236 (by decide)) (v := .ref (ad 265)) rfl dX12_termOf_79 ?_
          refine a_iload_n C dX12_termOf_82 (i := 3) rfl rfl ?_
          refine p_iald C (i := 265) (show rowOK 265 from ⟨kd_265, by decide⟩) hid (by rw [al_265]; rfl) dX12_termOf_83 h (fun h => ?_)
          refine p_istore C (fun z4 => [some (.ref (ad 236)), none, some (.int y2), some (.int z2), some (.int y4), some (.int z1), some (.int z3), some (.int z4)]) dX12_termOf_84 (by decide) rfl (fun _ => rfl) h (fun z4 h => ?_)
          refine a_iload C dX12_termOf_86 rfl ?_
          refine a_iconst C dX12_termOf_88 (v := 5) rfl ?_
          refine p_ic_ne C (X := z1.toInt) (Y := 5) rfl (by decide) dX12_termOf_89 (tgt := 104) rfl h (fun h => ?_) (fun h => ?_)
          ·
            exact j104 (f_X12_termOf_5 n) (fun y2 y3 y4 σ h => ih y2 y3 y4 σ h) _ _ _ _ _ _ _ h
          ·
            refine a_iload C dX12_termOf_92 rfl ?_
            refine p_if_ne C (X := z4.toInt) rfl dX12_termOf_94 (tgt := 104) rfl h (fun h => ?_) (fun h => ?_)
            ·
              exact j104 (f_X12_termOf_5 n) (fun y2 y3 y4 σ h => ih y2 y3 y4 σ h) _ _ _ _ _ _ _ h
            ·
              refine a_aload_n C dX12_termOf_97 (i := 0) rfl rfl ?_
              refine a_iconst C dX12_termOf_98 (v := 1) rfl ?_
              refine p_put C fp_RX12_297 (i := 236) kd_236 (hid 236 (by decide)) (nar_z (by decide)).1 (nar_z (by decide)).2 dX12_termOf_99 h (fun σ5 h => ?_)
              refine a_iconst C dX12_termOf_102 (v := 0) rfl ?_
              exact a_iret Rt dX12_termOf_103 rfl (ret_eq (h.trans (congrArg some hR.symm)))
        ·
          refine a_aload_n C dX12_termOf_26 (i := 0) rfl rfl ?_
          refine a_get C fl_RX12_104 (i := 236) kd_236 (hid 236 (by decide)) (v := .ref (ad 265)) rfl dX12_termOf_27 ?_
          refine a_iload_n C dX12_termOf_30 (i := 3) rfl rfl ?_
          refine a_iload C dX12_termOf_31 rfl ?_
          refine p_if_ne C (X := z1.toInt) rfl dX12_termOf_33 (tgt := 46) rfl h (fun h => ?_) (fun h => ?_)
          ·
            refine a_aload_n C dX12_termOf_46 (i := 0) rfl rfl ?_
            refine a_get C fl_RX12_101 (i := 236) kd_236 (hid 236 (by decide)) (v := .ref (ad 264)) rfl dX12_termOf_47 ?_
            refine a_aload_n C dX12_termOf_50 (i := 0) rfl rfl ?_
            refine a_get C fl_RX12_95 (i := 236) kd_236 (hid 236 (by decide)) (v := .ref (ad 262)) rfl dX12_termOf_51 ?_
            refine a_iload C dX12_termOf_54 rfl ?_
            refine p_iald C (i := 262) (show rowOK 262 from ⟨kd_262, by decide⟩) hid (by rw [al_262]; rfl) dX12_termOf_56 h (fun h => ?_)
            refine p_iald C (i := 264) (show rowOK 264 from ⟨kd_264, by decide⟩) hid (by rw [al_264]; rfl) dX12_termOf_57 h (fun h => ?_)
            refine AW.sub (vs' := [some (.ref (ad 236)), none, some (.int y2), some (.int y3), some (.int y4), none, none, none]) (lsub_of (by simp [lsubB])) ?_
            exact j58 (f_X12_termOf_5 n) (fun y2 y3 y4 σ h => ih y2 y3 y4 σ h) _ _ _ _ _ _ h
          ·
            refine a_aload_n C dX12_termOf_36 (i := 0) rfl rfl ?_
            refine a_get C fl_RX12_95 (i := 236) kd_236 (hid 236 (by decide)) (v := .ref (ad 262)) rfl dX12_termOf_37 ?_
            refine a_iload C dX12_termOf_40 rfl ?_
            refine p_iald C (i := 262) (show rowOK 262 from ⟨kd_262, by decide⟩) hid (by rw [al_262]; rfl) dX12_termOf_42 h (fun h => ?_)
            refine a_goto C dX12_termOf_43 (tgt := 58) rfl ?_
            refine AW.sub (vs' := [some (.ref (ad 236)), none, some (.int y2), some (.int y3), some (.int y4), none, none, none]) (lsub_of (by simp [lsubB])) ?_
            exact j58 (f_X12_termOf_5 n) (fun y2 y3 y4 σ h => ih y2 y3 y4 σ h) _ _ _ _ _ _ h
  refine a_iconst C dX12_termOf_0 (v := 0) rfl ?_
  refine a_istore_n C dX12_termOf_1 (i := 3) rfl (by decide) rfl (vs1 := [some (.ref (ad 236)), some (.int x1), some (.int x2), some (.int 0), none, none, none, none]) rfl ?_
  refine a_iload_n C dX12_termOf_2 (i := 1) rfl rfl ?_
  refine a_istore C dX12_termOf_3 (by decide) rfl (vs1 := [some (.ref (ad 236)), some (.int x1), some (.int x2), some (.int 0), some (.int x1), none, none, none]) rfl ?_
  refine AW.sub (vs' := [some (.ref (ad 236)), none, some (.int x2), some (.int 0), some (.int x1), none, none, none]) (lsub_of (by simp [lsubB])) ?_
  exact j5 _ _ _ _ _ h
set_option maxHeartbeats 4000000 in
set_option maxRecDepth 100000 in
theorem Z_X12_in {l : Launch} {D : va_G} {ids : List Nat} {ad : Nat → Nat} {ca : Nat → ClassId} {σ : HS} {x1 : Int32} {x2 : Int32} {x3 : Int32} {r0 : Int32} {s0 : HS} (hid : ∀ i, i < 277 → i ∈ ids) (h : f_X12_in x1 x2 x3 σ = some (r0, s0)) : Ki l D ids ad ca yX12_in cX12_in 3 .boolean 0 0 [.int x1, .int x2, .int x3] σ (fun r σ1 => r = r0 ∧ σ1 = s0) := by
  obtain ⟨R, hR⟩ : ∃ R, (r0, s0) = R := ⟨_, rfl⟩
  replace h := h.trans (congrArg some hR)
  refine Ki.of (by decide) (Nat.le_of_ble_eq_true rfl) 0 (fun Γ C Rt => ?_)
  show AW ids ad ca Γ 0 [some (.int x1), some (.int x2), some (.int x3)] [] σ
  unfold f_X12_in at h
  refine a_iload_n C dX12_in_0 (i := 0) rfl rfl ?_
  refine a_iload_n C dX12_in_1 (i := 1) rfl rfl ?_
  refine p_ic_lt C (X := x1.toInt) (Y := x2.toInt) rfl rfl dX12_in_2 (tgt := 14) rfl h (fun h => ?_) (fun h => ?_)
  ·
    refine a_iconst C dX12_in_14 (v := 0) rfl ?_
    exact a_iret Rt dX12_in_15 (nar_z (by decide)).1 (ret_eq (h.trans (congrArg some hR.symm)))
  ·
    refine a_iload_n C dX12_in_5 (i := 0) rfl rfl ?_
    refine a_iload_n C dX12_in_6 (i := 2) rfl rfl ?_
    refine p_ic_gt C (X := x1.toInt) (Y := x3.toInt) rfl rfl dX12_in_7 (tgt := 14) rfl h (fun h => ?_) (fun h => ?_)
    ·
      refine a_iconst C dX12_in_14 (v := 0) rfl ?_
      exact a_iret Rt dX12_in_15 (nar_z (by decide)).1 (ret_eq (h.trans (congrArg some hR.symm)))
    ·
      refine a_iconst C dX12_in_10 (v := 1) rfl ?_
      refine a_goto C dX12_in_11 (tgt := 15) rfl ?_
      exact a_iret Rt dX12_in_15 (nar_z (by decide)).1 (ret_eq (h.trans (congrArg some hR.symm)))
set_option maxHeartbeats 4000000 in
set_option maxRecDepth 100000 in
theorem Z_X12_held {l : Launch} {D : va_G} {ids : List Nat} {ad : Nat → Nat} {ca : Nat → ClassId} {σ : HS} {x1 : Int32} {x2 : Int32} {x3 : Int32} {r0 : Int32} {s0 : HS} (hid : ∀ i, i < 277 → i ∈ ids) (h : f_X12_held x1 x2 x3 σ = some (r0, s0)) : Ki l D ids ad ca yX12_held cX12_held 3 .int 0 0 [.int x1, .int x2, .int x3] σ (fun r σ1 => r = r0 ∧ σ1 = s0) := by
  obtain ⟨R, hR⟩ : ∃ R, (r0, s0) = R := ⟨_, rfl⟩
  replace h := h.trans (congrArg some hR)
  refine Ki.of (by decide) (Nat.le_of_ble_eq_true rfl) 0 (fun Γ C Rt => ?_)
  show AW ids ad ca Γ 0 [some (.int x1), some (.int x2), some (.int x3)] [] σ
  unfold f_X12_held at h
  refine a_iload_n C dX12_held_0 (i := 0) rfl rfl ?_
  refine a_iload_n C dX12_held_1 (i := 1) rfl rfl ?_
  refine p_ic_ge C (X := x1.toInt) (Y := x2.toInt) rfl rfl dX12_held_2 (tgt := 9) rfl h (fun h => ?_) (fun h => ?_)
  ·
    refine a_iload_n C dX12_held_9 (i := 0) rfl rfl ?_
    refine a_iload_n C dX12_held_10 (i := 2) rfl rfl ?_
    refine p_ic_le C (X := x1.toInt) (Y := x3.toInt) rfl rfl dX12_held_11 (tgt := 18) rfl h (fun h => ?_) (fun h => ?_)
    ·
      refine a_iload_n C dX12_held_18 (i := 0) rfl rfl ?_
      exact a_iret Rt dX12_held_19 rfl (ret_eq (h.trans (congrArg some hR.symm)))
    ·
      refine a_iload_n C dX12_held_14 (i := 2) rfl rfl ?_
      refine a_goto C dX12_held_15 (tgt := 19) rfl ?_
      exact a_iret Rt dX12_held_19 rfl (ret_eq (h.trans (congrArg some hR.symm)))
  ·
    refine a_iload_n C dX12_held_5 (i := 1) rfl rfl ?_
    refine a_goto C dX12_held_6 (tgt := 19) rfl ?_
    exact a_iret Rt dX12_held_19 rfl (ret_eq (h.trans (congrArg some hR.symm)))
set_option maxHeartbeats 4000000 in
set_option maxRecDepth 100000 in
theorem Z_X12_bits {l : Launch} {D : va_G} {ids : List Nat} {ad : Nat → Nat} {ca : Nat → ClassId} {σ : HS} {x1 : Int32} {r0 : Int32} {s0 : HS} (hid : ∀ i, i < 277 → i ∈ ids) (h : f_X12_bits x1 σ = some (r0, s0)) : Ki l D ids ad ca yX12_bits cX12_bits 3 .int 0 0 [.int x1] σ (fun r σ1 => r = r0 ∧ σ1 = s0) := by
  obtain ⟨R, hR⟩ : ∃ R, (r0, s0) = R := ⟨_, rfl⟩
  replace h := h.trans (congrArg some hR)
  refine Ki.of (by decide) (Nat.le_of_ble_eq_true rfl) 2 (fun Γ C Rt => ?_)
  show AW ids ad ca Γ 0 [some (.int x1), none, none] [] σ
  unfold f_X12_bits at h
  have j4 : ∀ (n : Nat) (y0 : Int32) (y1 : Int32) (y2 : Int32) (σ : HS), f_X12_bits_4 n y0 y1 y2 σ = some R → AW ids ad ca Γ 4 [some (.int y0), some (.int y1), some (.int y2)] [] σ := by
    intro n
    induction n with
    | zero => intro y0 y1 y2 σ h; exact nn h
    | succ n ih =>
      intro y0 y1 y2 σ h
      have h : b_X12_bits_4 (f_X12_bits_4 n) y0 y1 y2 σ = some R := h
      unfold b_X12_bits_4 at h
      refine a_iload_n C dX12_bits_4 (i := 2) rfl rfl ?_
      refine a_bipush C dX12_bits_5 (v := 10) rfl ?_
      refine p_ic_ge C (X := y2.toInt) (Y := 10) rfl (by decide) dX12_bits_7 (tgt := 24) rfl h (fun h => ?_) (fun h => ?_)
      ·
        refine a_iload_n C dX12_bits_24 (i := 1) rfl rfl ?_
        exact a_iret Rt dX12_bits_25 rfl (ret_eq (h.trans (congrArg some hR.symm)))
      ·
        refine a_iload_n C dX12_bits_10 (i := 1) rfl rfl ?_
        refine a_iload_n C dX12_bits_11 (i := 0) rfl rfl ?_
        refine a_iload_n C dX12_bits_12 (i := 2) rfl rfl ?_
        refine a_ishr C dX12_bits_13 ?_
        refine a_iconst C dX12_bits_14 (v := 1) rfl ?_
        refine a_iand C dX12_bits_15 ?_
        refine a_iadd C dX12_bits_16 ?_
        refine p_istore_n C (fun z1 => [some (.int y0), some (.int z1), some (.int y2)]) dX12_bits_17 (i := 1) rfl (by decide) rfl (fun _ => rfl) h (fun z1 h => ?_)
        refine p_iinc C (y := (y2 + 1)) (fun z2 => [some (.int y0), some (.int z1), some (.int z2)]) dX12_bits_18 rfl rfl (by decide) rfl (fun _ => rfl) h (fun z2 h => ?_)
        refine a_goto C dX12_bits_21 (tgt := 4) rfl ?_
        exact ih _ _ _ _ h
  refine a_iconst C dX12_bits_0 (v := 0) rfl ?_
  refine a_istore_n C dX12_bits_1 (i := 1) rfl (by decide) rfl (vs1 := [some (.int x1), some (.int 0), none]) rfl ?_
  refine a_iconst C dX12_bits_2 (v := 0) rfl ?_
  refine a_istore_n C dX12_bits_3 (i := 2) rfl (by decide) rfl (vs1 := [some (.int x1), some (.int 0), some (.int 0)]) rfl ?_
  exact j4 _ _ _ _ _ h
set_option maxHeartbeats 4000000 in
set_option maxRecDepth 100000 in
theorem Z_X12_isThing {l : Launch} {D : va_G} {ids : List Nat} {ad : Nat → Nat} {ca : Nat → ClassId} {σ : HS} {x1 : Int32} {r0 : Int32} {s0 : HS} (hid : ∀ i, i < 277 → i ∈ ids) (h : f_X12_isThing x1 σ = some (r0, s0)) : Ki l D ids ad ca yX12_isThing cX12_isThing 2 .boolean 1 22 [.ref (ad 236), .int x1] σ (fun r σ1 => r = r0 ∧ σ1 = s0) := by
  obtain ⟨R, hR⟩ : ∃ R, (r0, s0) = R := ⟨_, rfl⟩
  replace h := h.trans (congrArg some hR)
  refine Ki.of (by decide) (Nat.le_of_ble_eq_true rfl) 0 (fun Γ C Rt => ?_)
  show AW ids ad ca Γ 0 [some (.ref (ad 236)), some (.int x1)] [] σ
  unfold f_X12_isThing at h
  refine a_iload_n C dX12_isThing_0 (i := 1) rfl rfl ?_
  refine a_iconst C dX12_isThing_1 (v := 0) rfl ?_
  refine a_aload_n C dX12_isThing_2 (i := 0) rfl rfl ?_
  refine a_get C fl_RX12_43 (i := 236) kd_236 (hid 236 (by decide)) (v := .ref (ad 245)) rfl dX12_isThing_3 ?_
  refine a_aload_n C dX12_isThing_6 (i := 0) rfl rfl ?_
  refine a_get C fl_RX12_221 (i := 236) kd_236 (hid 236 (by decide)) (v := .int (σ.1 236 18)) rfl dX12_isThing_7 ?_
  refine p_iald C (i := 245) (show rowOK 245 from ⟨kd_245, by decide⟩) hid (by rw [al_245]; rfl) dX12_isThing_10 h (fun h => ?_)
  refine a_iconst C dX12_isThing_11 (v := 1) rfl ?_
  refine a_isub C dX12_isThing_12 ?_
  refine p_callSi C (As := [.int x1, .int 0, .int ((σ.1 245 (σ.1 236 18).toInt.toNat) - (1 : Int32))]) h (fun _ _ e => Z_X12_in hid e) ms_X12_in ml_RX12_301 rfl rfl (Nat.le_of_ble_eq_true rfl) (Nat.le_of_ble_eq_true rfl) (Nat.le_of_ble_eq_true rfl) dX12_isThing_13 (fun r2 σ1 h => ?_)
  refine ite_n h (fun c h => ?_)
  exact a_iret Rt dX12_isThing_16 (nar_z c).1 (ret_eq (h.trans (congrArg some hR.symm)))
set_option maxHeartbeats 4000000 in
set_option maxRecDepth 100000 in
theorem Z_X12_isPattern {l : Launch} {D : va_G} {ids : List Nat} {ad : Nat → Nat} {ca : Nat → ClassId} {σ : HS} {x1 : Int32} {r0 : Int32} {s0 : HS} (hid : ∀ i, i < 277 → i ∈ ids) (h : f_X12_isPattern x1 σ = some (r0, s0)) : Ki l D ids ad ca yX12_isPattern cX12_isPattern 2 .boolean 1 22 [.ref (ad 236), .int x1] σ (fun r σ1 => r = r0 ∧ σ1 = s0) := by
  obtain ⟨R, hR⟩ : ∃ R, (r0, s0) = R := ⟨_, rfl⟩
  replace h := h.trans (congrArg some hR)
  refine Ki.of (by decide) (Nat.le_of_ble_eq_true rfl) 0 (fun Γ C Rt => ?_)
  show AW ids ad ca Γ 0 [some (.ref (ad 236)), some (.int x1)] [] σ
  unfold f_X12_isPattern at h
  refine a_iload_n C dX12_isPattern_0 (i := 1) rfl rfl ?_
  refine a_iconst C dX12_isPattern_1 (v := 0) rfl ?_
  refine a_aload_n C dX12_isPattern_2 (i := 0) rfl rfl ?_
  refine a_get C fl_RX12_55 (i := 236) kd_236 (hid 236 (by decide)) (v := .ref (ad 249)) rfl dX12_isPattern_3 ?_
  refine a_aload_n C dX12_isPattern_6 (i := 0) rfl rfl ?_
  refine a_get C fl_RX12_221 (i := 236) kd_236 (hid 236 (by decide)) (v := .int (σ.1 236 18)) rfl dX12_isPattern_7 ?_
  refine p_iald C (i := 249) (show rowOK 249 from ⟨kd_249, by decide⟩) hid (by rw [al_249]; rfl) dX12_isPattern_10 h (fun h => ?_)
  refine a_iconst C dX12_isPattern_11 (v := 1) rfl ?_
  refine a_isub C dX12_isPattern_12 ?_
  refine p_callSi C (As := [.int x1, .int 0, .int ((σ.1 249 (σ.1 236 18).toInt.toNat) - (1 : Int32))]) h (fun _ _ e => Z_X12_in hid e) ms_X12_in ml_RX12_301 rfl rfl (Nat.le_of_ble_eq_true rfl) (Nat.le_of_ble_eq_true rfl) (Nat.le_of_ble_eq_true rfl) dX12_isPattern_13 (fun r2 σ1 h => ?_)
  refine ite_n h (fun c h => ?_)
  exact a_iret Rt dX12_isPattern_16 (nar_z c).1 (ret_eq (h.trans (congrArg some hR.symm)))
set_option maxHeartbeats 4000000 in
set_option maxRecDepth 100000 in
theorem Z_X12_copies {l : Launch} {D : va_G} {ids : List Nat} {ad : Nat → Nat} {ca : Nat → ClassId} {σ : HS} {s0 : HS} (hid : ∀ i, i < 277 → i ∈ ids) (h : f_X12_copies σ = some s0) : Kv l D ids ad ca yX12_copies cX12_copies 2 0 0 [.ref (ad 236)] σ (fun σ1 => σ1 = s0) := by
  obtain ⟨R, hR⟩ : ∃ R, s0 = R := ⟨_, rfl⟩
  replace h := h.trans (congrArg some hR)
  refine Kv.of (by decide) (Nat.le_of_ble_eq_true rfl) 1 (fun Γ C Rt => ?_)
  show AW ids ad ca Γ 0 [some (.ref (ad 236)), none] [] σ
  unfold f_X12_copies at h
  have j2 : ∀ (n : Nat) (y1 : Int32) (σ : HS), f_X12_copies_2 n y1 σ = some R → AW ids ad ca Γ 2 [some (.ref (ad 236)), some (.int y1)] [] σ := by
    intro n
    induction n with
    | zero => intro y1 σ h; exact nn h
    | succ n ih =>
      intro y1 σ h
      have h : b_X12_copies_2 (f_X12_copies_2 n) y1 σ = some R := h
      unfold b_X12_copies_2 at h
      refine a_iload_n C dX12_copies_2 (i := 1) rfl rfl ?_
      refine a_bipush C dX12_copies_3 (v := 29) rfl ?_
      refine p_ic_ge C (X := y1.toInt) (Y := 29) rfl (by decide) dX12_copies_5 (tgt := 26) rfl h (fun h => ?_) (fun h => ?_)
      ·
        refine a_aload_n C dX12_copies_26 (i := 0) rfl rfl ?_
        refine a_aload_n C dX12_copies_27 (i := 0) rfl rfl ?_
        refine a_get C fl_RX12_67 (i := 236) kd_236 (hid 236 (by decide)) (v := .ref (ad 253)) rfl dX12_copies_28 ?_
        refine a_aload_n C dX12_copies_31 (i := 0) rfl rfl ?_
        refine a_get C fl_RX12_221 (i := 236) kd_236 (hid 236 (by decide)) (v := .int (σ.1 236 18)) rfl dX12_copies_32 ?_
        refine p_iald C (i := 253) (show rowOK 253 from ⟨kd_253, by decide⟩) hid (by rw [al_253]; rfl) dX12_copies_35 h (fun h => ?_)
        refine p_put C fp_RX12_305 (i := 236) kd_236 (hid 236 (by decide)) rfl rfl dX12_copies_36 h (fun σ1 h => ?_)
        refine a_aload_n C dX12_copies_39 (i := 0) rfl rfl ?_
        refine a_iconst C dX12_copies_40 (v := 0) rfl ?_
        refine p_put C fp_RX12_308 (i := 236) kd_236 (hid 236 (by decide)) (nar_z (by decide)).1 (nar_z (by decide)).2 dX12_copies_41 h (fun σ2 h => ?_)
        exact a_vret Rt dX12_copies_44 (retv_eq (h.trans (congrArg some hR.symm)))
      ·
        refine a_aload_n C dX12_copies_8 (i := 0) rfl rfl ?_
        refine a_get C fl_RX12_110 (i := 236) kd_236 (hid 236 (by decide)) (v := .ref (ad 267)) rfl dX12_copies_9 ?_
        refine a_iload_n C dX12_copies_12 (i := 1) rfl rfl ?_
        refine a_aload_n C dX12_copies_13 (i := 0) rfl rfl ?_
        refine a_get C fl_RX12_107 (i := 236) kd_236 (hid 236 (by decide)) (v := .ref (ad 266)) rfl dX12_copies_14 ?_
        refine a_iload_n C dX12_copies_17 (i := 1) rfl rfl ?_
        refine p_iald C (i := 266) (show rowOK 266 from ⟨kd_266, by decide⟩) hid (by rw [al_266]; rfl) dX12_copies_18 h (fun h => ?_)
        refine p_iast C (i := 267) (show rowOK 267 from ⟨kd_267, by decide⟩) hid (by rw [al_267]; rfl) dX12_copies_19 h (fun σ3 h => ?_)
        refine p_iinc C (y := (y1 + 1)) (fun z4 => [some (.ref (ad 236)), some (.int z4)]) dX12_copies_20 rfl rfl (by decide) rfl (fun _ => rfl) h (fun z4 h => ?_)
        refine a_goto C dX12_copies_23 (tgt := 2) rfl ?_
        exact ih _ _ h
  refine a_iconst C dX12_copies_0 (v := 0) rfl ?_
  refine a_istore_n C dX12_copies_1 (i := 1) rfl (by decide) rfl (vs1 := [some (.ref (ad 236)), some (.int 0)]) rfl ?_
  exact j2 _ _ _ h
set_option maxHeartbeats 4000000 in
set_option maxRecDepth 100000 in
theorem Z_X12_copiesStill {l : Launch} {D : va_G} {ids : List Nat} {ad : Nat → Nat} {ca : Nat → ClassId} {σ : HS} {s0 : HS} (hid : ∀ i, i < 277 → i ∈ ids) (h : f_X12_copiesStill σ = some s0) : Kv l D ids ad ca yX12_copiesStill cX12_copiesStill 1 1 21 [.ref (ad 236)] σ (fun σ1 => σ1 = s0) := by
  obtain ⟨R, hR⟩ : ∃ R, s0 = R := ⟨_, rfl⟩
  replace h := h.trans (congrArg some hR)
  refine Kv.of (by decide) (Nat.le_of_ble_eq_true rfl) 0 (fun Γ C Rt => ?_)
  show AW ids ad ca Γ 0 [some (.ref (ad 236))] [] σ
  unfold f_X12_copiesStill at h
  refine a_aload_n C dX12_copiesStill_0 (i := 0) rfl rfl ?_
  refine p_callVv C (As := []) (i := 236) kd_236 (hid 236 (by decide)) ⟨_, _, rfl⟩ (by decide) h (fun _ e => Z_X12_copies hid e) mi_X12_copies ml_RX12_311 rfl rfl (Nat.le_of_ble_eq_true rfl) (Nat.le_of_ble_eq_true rfl) (Nat.le_of_ble_eq_true rfl) dX12_copiesStill_1 (fun σ1 h => ?_)
  refine a_aload_n C dX12_copiesStill_4 (i := 0) rfl rfl ?_
  refine a_iconst C dX12_copiesStill_5 (v := 1) rfl ?_
  refine p_put C fp_RX12_308 (i := 236) kd_236 (hid 236 (by decide)) (nar_z (by decide)).1 (nar_z (by decide)).2 dX12_copiesStill_6 h (fun σ3 h => ?_)
  exact a_vret Rt dX12_copiesStill_9 (retv_eq (h.trans (congrArg some hR.symm)))
set_option maxHeartbeats 4000000 in
set_option maxRecDepth 100000 in
theorem Z_X12_mixed {l : Launch} {D : va_G} {ids : List Nat} {ad : Nat → Nat} {ca : Nat → ClassId} {σ : HS} {x1 : Int32} {x2 : Int32} {r0 : Int32} {s0 : HS} (hid : ∀ i, i < 277 → i ∈ ids) (h : f_X12_mixed x1 x2 σ = some (r0, s0)) : Ki l D ids ad ca yX12_mixed cX12_mixed 3 .int 0 0 [.int x1, .int x2] σ (fun r σ1 => r = r0 ∧ σ1 = s0) := by
  obtain ⟨R, hR⟩ : ∃ R, (r0, s0) = R := ⟨_, rfl⟩
  replace h := h.trans (congrArg some hR)
  refine Ki.of (by decide) (Nat.le_of_ble_eq_true rfl) 1 (fun Γ C Rt => ?_)
  show AW ids ad ca Γ 0 [some (.int x1), some (.int x2), none] [] σ
  unfold f_X12_mixed at h
  refine a_iload_n C dX12_mixed_0 (i := 0) rfl rfl ?_
  refine a_iload_n C dX12_mixed_1 (i := 1) rfl rfl ?_
  refine a_ixor C dX12_mixed_2 ?_
  refine a_ldcw C dX12_mixed_3 ko_RX12_314 ?_
  refine a_imul C dX12_mixed_6 ?_
  refine a_sipush C dX12_mixed_7 (v := 12345) rfl ?_
  refine a_iadd C dX12_mixed_10 ?_
  refine p_istore_n C (fun z1 => [some (.int x1), some (.int x2), some (.int z1)]) dX12_mixed_11 (i := 2) rfl (by decide) rfl (fun _ => rfl) h (fun z1 h => ?_)
  refine a_iload_n C dX12_mixed_12 (i := 2) rfl rfl ?_
  refine a_iload_n C dX12_mixed_13 (i := 2) rfl rfl ?_
  refine a_bipush C dX12_mixed_14 (v := 15) rfl ?_
  refine a_iushr C dX12_mixed_16 ?_
  refine a_ixor C dX12_mixed_17 ?_
  exact a_iret Rt dX12_mixed_18 rfl (ret_eq (h.trans (congrArg some hR.symm)))
set_option maxHeartbeats 4000000 in
set_option maxRecDepth 100000 in
theorem Z_X12_lotNow {l : Launch} {D : va_G} {ids : List Nat} {ad : Nat → Nat} {ca : Nat → ClassId} {σ : HS} {r0 : Int32} {s0 : HS} (hid : ∀ i, i < 277 → i ∈ ids) (h : f_X12_lotNow σ = some (r0, s0)) : Ki l D ids ad ca yX12_lotNow cX12_lotNow 1 .int 1 22 [.ref (ad 236)] σ (fun r σ1 => r = r0 ∧ σ1 = s0) := by
  obtain ⟨R, hR⟩ : ∃ R, (r0, s0) = R := ⟨_, rfl⟩
  replace h := h.trans (congrArg some hR)
  refine Ki.of (by decide) (Nat.le_of_ble_eq_true rfl) 0 (fun Γ C Rt => ?_)
  show AW ids ad ca Γ 0 [some (.ref (ad 236))] [] σ
  unfold f_X12_lotNow at h
  refine a_aload_n C dX12_lotNow_0 (i := 0) rfl rfl ?_
  refine a_get C fl_RX12_305 (i := 236) kd_236 (hid 236 (by decide)) (v := .int (σ.1 236 49)) rfl dX12_lotNow_1 ?_
  refine a_bipush C dX12_lotNow_4 (v := 125) rfl ?_
  refine p_callSi C (As := [.int (σ.1 236 49), .int 125]) h (fun _ _ e => Z_X12_mixed hid e) ms_X12_mixed ml_RX12_315 rfl rfl (Nat.le_of_ble_eq_true rfl) (Nat.le_of_ble_eq_true rfl) (Nat.le_of_ble_eq_true rfl) dX12_lotNow_6 (fun r2 σ1 h => ?_)
  refine a_iconst C dX12_lotNow_9 (v := 4) rfl ?_
  refine a_aload_n C dX12_lotNow_10 (i := 0) rfl rfl ?_
  refine a_get C fl_RX12_110 (i := 236) kd_236 (hid 236 (by decide)) (v := .ref (ad 267)) rfl dX12_lotNow_11 ?_
  refine a_bipush C dX12_lotNow_14 (v := 21) rfl ?_
  refine p_ialdc C (i := 267) 21 (show rowOK 267 from ⟨kd_267, by decide⟩) hid (by decide) (by rw [al_267]; decide) dX12_lotNow_16 ?_
  refine a_imul C dX12_lotNow_17 ?_
  refine p_callSi C (As := [.int r2, .int ((4 : Int32) * (σ1.1 267 21))]) h (fun _ _ e => Z_X12_mixed hid e) ms_X12_mixed ml_RX12_315 rfl rfl (Nat.le_of_ble_eq_true rfl) (Nat.le_of_ble_eq_true rfl) (Nat.le_of_ble_eq_true rfl) dX12_lotNow_18 (fun r4 σ3 h => ?_)
  refine a_iconst C dX12_lotNow_21 (v := 1) rfl ?_
  refine a_iushr C dX12_lotNow_22 ?_
  refine a_bipush C dX12_lotNow_23 (v := 100) rfl ?_
  refine a_irem C dX12_lotNow_25 (by decide) ?_
  exact a_iret Rt dX12_lotNow_26 rfl (ret_eq (h.trans (congrArg some hR.symm)))
set_option maxHeartbeats 4000000 in
set_option maxRecDepth 100000 in
theorem Z_X12_lengthOf {l : Launch} {D : va_G} {ids : List Nat} {ad : Nat → Nat} {ca : Nat → ClassId} {σ : HS} {x1 : Int32} {r0 : Int32} {s0 : HS} (hid : ∀ i, i < 277 → i ∈ ids) (h : f_X12_lengthOf x1 σ = some (r0, s0)) : Ki l D ids ad ca yX12_lengthOf cX12_lengthOf 2 .int 0 0 [.ref (ad 236), .int x1] σ (fun r σ1 => r = r0 ∧ σ1 = s0) := by
  obtain ⟨R, hR⟩ : ∃ R, (r0, s0) = R := ⟨_, rfl⟩
  replace h := h.trans (congrArg some hR)
  refine Ki.of (by decide) (Nat.le_of_ble_eq_true rfl) 0 (fun Γ C Rt => ?_)
  show AW ids ad ca Γ 0 [some (.ref (ad 236)), some (.int x1)] [] σ
  unfold f_X12_lengthOf at h
  refine a_aload_n C dX12_lengthOf_0 (i := 0) rfl rfl ?_
  refine a_get C fl_RX12_58 (i := 236) kd_236 (hid 236 (by decide)) (v := .ref (ad 250)) rfl dX12_lengthOf_1 ?_
  refine a_iconst C dX12_lengthOf_4 (v := 5) rfl ?_
  refine a_aload_n C dX12_lengthOf_5 (i := 0) rfl rfl ?_
  refine a_get C fl_RX12_221 (i := 236) kd_236 (hid 236 (by decide)) (v := .int (σ.1 236 18)) rfl dX12_lengthOf_6 ?_
  refine a_imul C dX12_lengthOf_9 ?_
  refine a_iload_n C dX12_lengthOf_10 (i := 1) rfl rfl ?_
  refine a_iadd C dX12_lengthOf_11 ?_
  refine p_iald C (i := 250) (show rowOK 250 from ⟨kd_250, by decide⟩) hid (by rw [al_250]; rfl) dX12_lengthOf_12 h (fun h => ?_)
  exact a_iret Rt dX12_lengthOf_13 rfl (ret_eq (h.trans (congrArg some hR.symm)))
set_option maxHeartbeats 4000000 in
set_option maxRecDepth 100000 in
theorem Z_X12_heightAt {l : Launch} {D : va_G} {ids : List Nat} {ad : Nat → Nat} {ca : Nat → ClassId} {σ : HS} {x1 : Int32} {x2 : Int32} {r0 : Int32} {s0 : HS} (hid : ∀ i, i < 277 → i ∈ ids) (h : f_X12_heightAt x1 x2 σ = some (r0, s0)) : Ki l D ids ad ca yX12_heightAt cX12_heightAt 3 .int 1 21 [.ref (ad 236), .int x1, .int x2] σ (fun r σ1 => r = r0 ∧ σ1 = s0) := by
  obtain ⟨R, hR⟩ : ∃ R, (r0, s0) = R := ⟨_, rfl⟩
  replace h := h.trans (congrArg some hR)
  refine Ki.of (by decide) (Nat.le_of_ble_eq_true rfl) 0 (fun Γ C Rt => ?_)
  show AW ids ad ca Γ 0 [some (.ref (ad 236)), some (.int x1), some (.int x2)] [] σ
  unfold f_X12_heightAt at h
  refine a_aload_n C dX12_heightAt_0 (i := 0) rfl rfl ?_
  refine a_get C fl_RX12_61 (i := 236) kd_236 (hid 236 (by decide)) (v := .ref (ad 251)) rfl dX12_heightAt_1 ?_
  refine a_bipush C dX12_heightAt_4 (v := 8) rfl ?_
  refine a_iconst C dX12_heightAt_6 (v := 5) rfl ?_
  refine a_aload_n C dX12_heightAt_7 (i := 0) rfl rfl ?_
  refine a_get C fl_RX12_221 (i := 236) kd_236 (hid 236 (by decide)) (v := .int (σ.1 236 18)) rfl dX12_heightAt_8 ?_
  refine a_imul C dX12_heightAt_11 ?_
  refine a_iload_n C dX12_heightAt_12 (i := 1) rfl rfl ?_
  refine a_iadd C dX12_heightAt_13 ?_
  refine a_imul C dX12_heightAt_14 ?_
  refine a_iload_n C dX12_heightAt_15 (i := 2) rfl rfl ?_
  refine a_aload_n C dX12_heightAt_16 (i := 0) rfl rfl ?_
  refine a_iload_n C dX12_heightAt_17 (i := 1) rfl rfl ?_
  refine p_callVi C (As := [.int x1]) (i := 236) kd_236 (hid 236 (by decide)) ⟨_, _, rfl⟩ (by decide) h (fun _ _ e => Z_X12_lengthOf hid e) mi_X12_lengthOf ml_RX12_318 rfl rfl (Nat.le_of_ble_eq_true rfl) (Nat.le_of_ble_eq_true rfl) (Nat.le_of_ble_eq_true rfl) dX12_heightAt_18 (fun r2 σ1 h => ?_)
  refine p_irem C rfl dX12_heightAt_21 h (fun h => ?_)
  refine a_iadd C dX12_heightAt_22 ?_
  refine p_iald C (i := 251) (show rowOK 251 from ⟨kd_251, by decide⟩) hid (by rw [al_251]; rfl) dX12_heightAt_23 h (fun h => ?_)
  exact a_iret Rt dX12_heightAt_24 rfl (ret_eq (h.trans (congrArg some hR.symm)))
set_option maxHeartbeats 4000000 in
set_option maxRecDepth 100000 in
theorem Z_X12_heightNow {l : Launch} {D : va_G} {ids : List Nat} {ad : Nat → Nat} {ca : Nat → ClassId} {σ : HS} {r0 : Int32} {s0 : HS} (hid : ∀ i, i < 277 → i ∈ ids) (h : f_X12_heightNow σ = some (r0, s0)) : Ki l D ids ad ca yX12_heightNow cX12_heightNow 1 .int 2 43 [.ref (ad 236)] σ (fun r σ1 => r = r0 ∧ σ1 = s0) := by
  obtain ⟨R, hR⟩ : ∃ R, (r0, s0) = R := ⟨_, rfl⟩
  replace h := h.trans (congrArg some hR)
  refine Ki.of (by decide) (Nat.le_of_ble_eq_true rfl) 0 (fun Γ C Rt => ?_)
  show AW ids ad ca Γ 0 [some (.ref (ad 236))] [] σ
  unfold f_X12_heightNow at h
  refine a_aload_n C dX12_heightNow_0 (i := 0) rfl rfl ?_
  refine a_get C fl_RX12_110 (i := 236) kd_236 (hid 236 (by decide)) (v := .ref (ad 267)) rfl dX12_heightNow_1 ?_
  refine a_bipush C dX12_heightNow_4 (v := 28) rfl ?_
  refine p_ialdc C (i := 267) 28 (show rowOK 267 from ⟨kd_267, by decide⟩) hid (by decide) (by rw [al_267]; decide) dX12_heightNow_6 ?_
  refine p_if_lt C (X := (σ.1 267 28).toInt) rfl dX12_heightNow_7 (tgt := 18) rfl h (fun h => ?_) (fun h => ?_)
  ·
    refine a_aload_n C dX12_heightNow_18 (i := 0) rfl rfl ?_
    refine a_get C fl_RX12_110 (i := 236) kd_236 (hid 236 (by decide)) (v := .ref (ad 267)) rfl dX12_heightNow_19 ?_
    refine a_bipush C dX12_heightNow_22 (v := 26) rfl ?_
    refine p_ialdc C (i := 267) 26 (show rowOK 267 from ⟨kd_267, by decide⟩) hid (by decide) (by rw [al_267]; decide) dX12_heightNow_24 ?_
    refine p_if_ge C (X := (σ.1 267 26).toInt) rfl dX12_heightNow_25 (tgt := 32) rfl h (fun h => ?_) (fun h => ?_)
    ·
      refine a_aload_n C dX12_heightNow_32 (i := 0) rfl rfl ?_
      refine a_aload_n C dX12_heightNow_33 (i := 0) rfl rfl ?_
      refine a_get C fl_RX12_110 (i := 236) kd_236 (hid 236 (by decide)) (v := .ref (ad 267)) rfl dX12_heightNow_34 ?_
      refine a_bipush C dX12_heightNow_37 (v := 26) rfl ?_
      refine p_ialdc C (i := 267) 26 (show rowOK 267 from ⟨kd_267, by decide⟩) hid (by decide) (by rw [al_267]; decide) dX12_heightNow_39 ?_
      refine a_aload_n C dX12_heightNow_40 (i := 0) rfl rfl ?_
      refine a_get C fl_RX12_110 (i := 236) kd_236 (hid 236 (by decide)) (v := .ref (ad 267)) rfl dX12_heightNow_41 ?_
      refine a_bipush C dX12_heightNow_44 (v := 21) rfl ?_
      refine p_ialdc C (i := 267) 21 (show rowOK 267 from ⟨kd_267, by decide⟩) hid (by decide) (by rw [al_267]; decide) dX12_heightNow_46 ?_
      refine a_aload_n C dX12_heightNow_47 (i := 0) rfl rfl ?_
      refine a_get C fl_RX12_110 (i := 236) kd_236 (hid 236 (by decide)) (v := .ref (ad 267)) rfl dX12_heightNow_48 ?_
      refine a_bipush C dX12_heightNow_51 (v := 27) rfl ?_
      refine p_ialdc C (i := 267) 27 (show rowOK 267 from ⟨kd_267, by decide⟩) hid (by decide) (by rw [al_267]; decide) dX12_heightNow_53 ?_
      refine a_isub C dX12_heightNow_54 ?_
      refine p_callVi C (As := [.int (σ.1 267 26), .int ((σ.1 267 21) - (σ.1 267 27))]) (i := 236) kd_236 (hid 236 (by decide)) ⟨_, _, rfl⟩ (by decide) h (fun _ _ e => Z_X12_heightAt hid e) mi_X12_heightAt ml_RX12_321 rfl rfl (Nat.le_of_ble_eq_true rfl) (Nat.le_of_ble_eq_true rfl) (Nat.le_of_ble_eq_true rfl) dX12_heightNow_55 (fun r2 σ1 h => ?_)
      exact a_iret Rt dX12_heightNow_58 rfl (ret_eq (h.trans (congrArg some hR.symm)))
    ·
      refine a_iconst C dX12_heightNow_28 (v := 3) rfl ?_
      refine a_goto C dX12_heightNow_29 (tgt := 58) rfl ?_
      exact a_iret Rt dX12_heightNow_58 rfl (ret_eq (h.trans (congrArg some hR.symm)))
  ·
    refine a_aload_n C dX12_heightNow_10 (i := 0) rfl rfl ?_
    refine a_get C fl_RX12_110 (i := 236) kd_236 (hid 236 (by decide)) (v := .ref (ad 267)) rfl dX12_heightNow_11 ?_
    refine a_bipush C dX12_heightNow_14 (v := 28) rfl ?_
    refine p_ialdc C (i := 267) 28 (show rowOK 267 from ⟨kd_267, by decide⟩) hid (by decide) (by rw [al_267]; decide) dX12_heightNow_16 ?_
    exact a_iret Rt dX12_heightNow_17 rfl (ret_eq (h.trans (congrArg some hR.symm)))
set_option maxHeartbeats 4000000 in
set_option maxRecDepth 100000 in
theorem Z_X12_thingsSo {l : Launch} {D : va_G} {ids : List Nat} {ad : Nat → Nat} {ca : Nat → ClassId} {σ : HS} {x1 : Int32} {r0 : Int32} {s0 : HS} (hid : ∀ i, i < 277 → i ∈ ids) (h : f_X12_thingsSo x1 σ = some (r0, s0)) : Ki l D ids ad ca yX12_thingsSo cX12_thingsSo 4 .int 0 0 [.ref (ad 236), .int x1] σ (fun r σ1 => r = r0 ∧ σ1 = s0) := by
  obtain ⟨R, hR⟩ : ∃ R, (r0, s0) = R := ⟨_, rfl⟩
  replace h := h.trans (congrArg some hR)
  refine Ki.of (by decide) (Nat.le_of_ble_eq_true rfl) 2 (fun Γ C Rt => ?_)
  show AW ids ad ca Γ 0 [some (.ref (ad 236)), some (.int x1), none, none] [] σ
  unfold f_X12_thingsSo at h
  have j33 : ∀ (k4 : Int32 → Int32 → Int32 → HS → Option (Int32 × HS)) (hk4 : ∀ (y1 : Int32) (y2 : Int32) (y3 : Int32) (σ : HS), k4 y1 y2 y3 σ = some R → AW ids ad ca Γ 4 [some (.ref (ad 236)), some (.int y1), some (.int y2), some (.int y3)] [] σ) (y1 : Int32) (y2 : Int32) (y3 : Int32) (σ : HS), f_X12_thingsSo_33 k4 y1 y2 y3 σ = some R → AW ids ad ca Γ 33 [some (.ref (ad 236)), some (.int y1), some (.int y2), some (.int y3)] [] σ := by
    intro k4 hk4 y1 y2 y3 σ h
    unfold f_X12_thingsSo_33 at h
    refine p_iinc C (y := (y3 + 1)) (fun z1 => [some (.ref (ad 236)), some (.int y1), some (.int y2), some (.int z1)]) dX12_thingsSo_33 rfl rfl (by decide) rfl (fun _ => rfl) h (fun z1 h => ?_)
    refine a_goto C dX12_thingsSo_36 (tgt := 4) rfl ?_
    exact hk4 _ _ _ _ h
  have j4 : ∀ (n : Nat) (y1 : Int32) (y2 : Int32) (y3 : Int32) (σ : HS), f_X12_thingsSo_4 n y1 y2 y3 σ = some R → AW ids ad ca Γ 4 [some (.ref (ad 236)), some (.int y1), some (.int y2), some (.int y3)] [] σ := by
    intro n
    induction n with
    | zero => intro y1 y2 y3 σ h; exact nn h
    | succ n ih =>
      intro y1 y2 y3 σ h
      have h : b_X12_thingsSo_4 (f_X12_thingsSo_4 n) y1 y2 y3 σ = some R := h
      unfold b_X12_thingsSo_4 at h
      refine a_iload_n C dX12_thingsSo_4 (i := 3) rfl rfl ?_
      refine a_aload_n C dX12_thingsSo_5 (i := 0) rfl rfl ?_
      refine a_get C fl_RX12_43 (i := 236) kd_236 (hid 236 (by decide)) (v := .ref (ad 245)) rfl dX12_thingsSo_6 ?_
      refine a_aload_n C dX12_thingsSo_9 (i := 0) rfl rfl ?_
      refine a_get C fl_RX12_221 (i := 236) kd_236 (hid 236 (by decide)) (v := .int (σ.1 236 18)) rfl dX12_thingsSo_10 ?_
      refine p_iald C (i := 245) (show rowOK 245 from ⟨kd_245, by decide⟩) hid (by rw [al_245]; rfl) dX12_thingsSo_13 h (fun h => ?_)
      refine p_ic_ge C (X := y3.toInt) (Y := (σ.1 245 (σ.1 236 18).toInt.toNat).toInt) rfl rfl dX12_thingsSo_14 (tgt := 39) rfl h (fun h => ?_) (fun h => ?_)
      ·
        refine a_iload_n C dX12_thingsSo_39 (i := 2) rfl rfl ?_
        exact a_iret Rt dX12_thingsSo_40 rfl (ret_eq (h.trans (congrArg some hR.symm)))
      ·
        refine a_aload_n C dX12_thingsSo_17 (i := 0) rfl rfl ?_
        refine a_get C fl_RX12_110 (i := 236) kd_236 (hid 236 (by decide)) (v := .ref (ad 267)) rfl dX12_thingsSo_18 ?_
        refine a_iload_n C dX12_thingsSo_21 (i := 3) rfl rfl ?_
        refine p_iald C (i := 267) (show rowOK 267 from ⟨kd_267, by decide⟩) hid (by rw [al_267]; rfl) dX12_thingsSo_22 h (fun h => ?_)
        refine a_iload_n C dX12_thingsSo_23 (i := 1) rfl rfl ?_
        refine p_ic_ne C (X := (σ.1 267 y3.toInt.toNat).toInt) (Y := y1.toInt) rfl rfl dX12_thingsSo_24 (tgt := 33) rfl h (fun h => ?_) (fun h => ?_)
        ·
          exact j33 (f_X12_thingsSo_4 n) (fun y1 y2 y3 σ h => ih y1 y2 y3 σ h) _ _ _ _ h
        ·
          refine a_iload_n C dX12_thingsSo_27 (i := 2) rfl rfl ?_
          refine a_iconst C dX12_thingsSo_28 (v := 1) rfl ?_
          refine a_iload_n C dX12_thingsSo_29 (i := 3) rfl rfl ?_
          refine a_ishl C dX12_thingsSo_30 ?_
          refine a_ior C dX12_thingsSo_31 ?_
          refine p_istore_n C (fun z1 => [some (.ref (ad 236)), some (.int y1), some (.int z1), some (.int y3)]) dX12_thingsSo_32 (i := 2) rfl (by decide) rfl (fun _ => rfl) h (fun z1 h => ?_)
          exact j33 (f_X12_thingsSo_4 n) (fun y1 y2 y3 σ h => ih y1 y2 y3 σ h) _ _ _ _ h
  refine a_iconst C dX12_thingsSo_0 (v := 0) rfl ?_
  refine a_istore_n C dX12_thingsSo_1 (i := 2) rfl (by decide) rfl (vs1 := [some (.ref (ad 236)), some (.int x1), some (.int 0), none]) rfl ?_
  refine a_iconst C dX12_thingsSo_2 (v := 0) rfl ?_
  refine a_istore_n C dX12_thingsSo_3 (i := 3) rfl (by decide) rfl (vs1 := [some (.ref (ad 236)), some (.int x1), some (.int 0), some (.int 0)]) rfl ?_
  exact j4 _ _ _ _ _ h
set_option maxHeartbeats 4000000 in
set_option maxRecDepth 100000 in
theorem Z_X12_doesLand {l : Launch} {D : va_G} {ids : List Nat} {ad : Nat → Nat} {ca : Nat → ClassId} {σ : HS} {x1 : Int32} {x2 : Int32} {r0 : Int32} {s0 : HS} (hid : ∀ i, i < 277 → i ∈ ids) (h : f_X12_doesLand x1 x2 σ = some (r0, s0)) : Ki l D ids ad ca yX12_doesLand cX12_doesLand 3 .boolean 0 0 [.ref (ad 236), .int x1, .int x2] σ (fun r σ1 => r = r0 ∧ σ1 = s0) := by
  obtain ⟨R, hR⟩ : ∃ R, (r0, s0) = R := ⟨_, rfl⟩
  replace h := h.trans (congrArg some hR)
  refine Ki.of (by decide) (Nat.le_of_ble_eq_true rfl) 0 (fun Γ C Rt => ?_)
  show AW ids ad ca Γ 0 [some (.ref (ad 236)), some (.int x1), some (.int x2)] [] σ
  unfold f_X12_doesLand at h
  refine a_aload_n C dX12_doesLand_0 (i := 0) rfl rfl ?_
  refine a_get C fl_RX12_110 (i := 236) kd_236 (hid 236 (by decide)) (v := .ref (ad 267)) rfl dX12_doesLand_1 ?_
  refine a_iload_n C dX12_doesLand_4 (i := 1) rfl rfl ?_
  refine p_iald C (i := 267) (show rowOK 267 from ⟨kd_267, by decide⟩) hid (by rw [al_267]; rfl) dX12_doesLand_5 h (fun h => ?_)
  refine p_if_ne C (X := (σ.1 267 x1.toInt.toNat).toInt) rfl dX12_doesLand_6 (tgt := 26) rfl h (fun h => ?_) (fun h => ?_)
  ·
    refine a_iconst C dX12_doesLand_26 (v := 0) rfl ?_
    exact a_iret Rt dX12_doesLand_27 (nar_z (by decide)).1 (ret_eq (h.trans (congrArg some hR.symm)))
  ·
    refine a_aload_n C dX12_doesLand_9 (i := 0) rfl rfl ?_
    refine a_get C fl_RX12_110 (i := 236) kd_236 (hid 236 (by decide)) (v := .ref (ad 267)) rfl dX12_doesLand_10 ?_
    refine a_bipush C dX12_doesLand_13 (v := 7) rfl ?_
    refine a_iload_n C dX12_doesLand_15 (i := 1) rfl rfl ?_
    refine a_iadd C dX12_doesLand_16 ?_
    refine p_iald C (i := 267) (show rowOK 267 from ⟨kd_267, by decide⟩) hid (by rw [al_267]; rfl) dX12_doesLand_17 h (fun h => ?_)
    refine a_iload_n C dX12_doesLand_18 (i := 2) rfl rfl ?_
    refine p_ic_ne C (X := (σ.1 267 ((7 : Int32) + x1).toInt.toNat).toInt) (Y := x2.toInt) rfl rfl dX12_doesLand_19 (tgt := 26) rfl h (fun h => ?_) (fun h => ?_)
    ·
      refine a_iconst C dX12_doesLand_26 (v := 0) rfl ?_
      exact a_iret Rt dX12_doesLand_27 (nar_z (by decide)).1 (ret_eq (h.trans (congrArg some hR.symm)))
    ·
      refine a_iconst C dX12_doesLand_22 (v := 1) rfl ?_
      refine a_goto C dX12_doesLand_23 (tgt := 27) rfl ?_
      exact a_iret Rt dX12_doesLand_27 (nar_z (by decide)).1 (ret_eq (h.trans (congrArg some hR.symm)))
set_option maxHeartbeats 4000000 in
set_option maxRecDepth 100000 in
theorem Z_X12_landsAt {l : Launch} {D : va_G} {ids : List Nat} {ad : Nat → Nat} {ca : Nat → ClassId} {σ : HS} {x1 : Int32} {r0 : Int32} {s0 : HS} (hid : ∀ i, i < 277 → i ∈ ids) (h : f_X12_landsAt x1 σ = some (r0, s0)) : Ki l D ids ad ca yX12_landsAt cX12_landsAt 4 .int 1 22 [.ref (ad 236), .int x1] σ (fun r σ1 => r = r0 ∧ σ1 = s0) := by
  obtain ⟨R, hR⟩ : ∃ R, (r0, s0) = R := ⟨_, rfl⟩
  replace h := h.trans (congrArg some hR)
  refine Ki.of (by decide) (Nat.le_of_ble_eq_true rfl) 2 (fun Γ C Rt => ?_)
  show AW ids ad ca Γ 0 [some (.ref (ad 236)), some (.int x1), none, none] [] σ
  unfold f_X12_landsAt at h
  have j29 : ∀ (k4 : Int32 → Int32 → Int32 → HS → Option (Int32 × HS)) (hk4 : ∀ (y1 : Int32) (y2 : Int32) (y3 : Int32) (σ : HS), k4 y1 y2 y3 σ = some R → AW ids ad ca Γ 4 [some (.ref (ad 236)), some (.int y1), some (.int y2), some (.int y3)] [] σ) (y1 : Int32) (y2 : Int32) (y3 : Int32) (σ : HS), f_X12_landsAt_29 k4 y1 y2 y3 σ = some R → AW ids ad ca Γ 29 [some (.ref (ad 236)), some (.int y1), some (.int y2), some (.int y3)] [] σ := by
    intro k4 hk4 y1 y2 y3 σ h
    unfold f_X12_landsAt_29 at h
    refine p_iinc C (y := (y3 + 1)) (fun z1 => [some (.ref (ad 236)), some (.int y1), some (.int y2), some (.int z1)]) dX12_landsAt_29 rfl rfl (by decide) rfl (fun _ => rfl) h (fun z1 h => ?_)
    refine a_goto C dX12_landsAt_32 (tgt := 4) rfl ?_
    exact hk4 _ _ _ _ h
  have j4 : ∀ (n : Nat) (y1 : Int32) (y2 : Int32) (y3 : Int32) (σ : HS), f_X12_landsAt_4 n y1 y2 y3 σ = some R → AW ids ad ca Γ 4 [some (.ref (ad 236)), some (.int y1), some (.int y2), some (.int y3)] [] σ := by
    intro n
    induction n with
    | zero => intro y1 y2 y3 σ h; exact nn h
    | succ n ih =>
      intro y1 y2 y3 σ h
      have h : b_X12_landsAt_4 (f_X12_landsAt_4 n) y1 y2 y3 σ = some R := h
      unfold b_X12_landsAt_4 at h
      refine a_iload_n C dX12_landsAt_4 (i := 3) rfl rfl ?_
      refine a_aload_n C dX12_landsAt_5 (i := 0) rfl rfl ?_
      refine a_get C fl_RX12_43 (i := 236) kd_236 (hid 236 (by decide)) (v := .ref (ad 245)) rfl dX12_landsAt_6 ?_
      refine a_aload_n C dX12_landsAt_9 (i := 0) rfl rfl ?_
      refine a_get C fl_RX12_221 (i := 236) kd_236 (hid 236 (by decide)) (v := .int (σ.1 236 18)) rfl dX12_landsAt_10 ?_
      refine p_iald C (i := 245) (show rowOK 245 from ⟨kd_245, by decide⟩) hid (by rw [al_245]; rfl) dX12_landsAt_13 h (fun h => ?_)
      refine p_ic_ge C (X := y3.toInt) (Y := (σ.1 245 (σ.1 236 18).toInt.toNat).toInt) rfl rfl dX12_landsAt_14 (tgt := 35) rfl h (fun h => ?_) (fun h => ?_)
      ·
        refine a_iload_n C dX12_landsAt_35 (i := 2) rfl rfl ?_
        exact a_iret Rt dX12_landsAt_36 rfl (ret_eq (h.trans (congrArg some hR.symm)))
      ·
        refine a_aload_n C dX12_landsAt_17 (i := 0) rfl rfl ?_
        refine a_iload_n C dX12_landsAt_18 (i := 3) rfl rfl ?_
        refine a_iload_n C dX12_landsAt_19 (i := 1) rfl rfl ?_
        refine p_callVi C (As := [.int y3, .int y1]) (i := 236) kd_236 (hid 236 (by decide)) ⟨_, _, rfl⟩ (by decide) h (fun _ _ e => Z_X12_doesLand hid e) mi_X12_doesLand ml_RX12_324 rfl rfl (Nat.le_of_ble_eq_true rfl) (Nat.le_of_ble_eq_true rfl) (Nat.le_of_ble_eq_true rfl) dX12_landsAt_20 (fun r2 σ1 h => ?_)
        refine p_if_eq C (X := r2.toInt) rfl dX12_landsAt_23 (tgt := 29) rfl h (fun h => ?_) (fun h => ?_)
        ·
          exact j29 (f_X12_landsAt_4 n) (fun y1 y2 y3 σ h => ih y1 y2 y3 σ h) _ _ _ _ h
        ·
          refine p_iinc C (y := (y2 + 1)) (fun z3 => [some (.ref (ad 236)), some (.int y1), some (.int z3), some (.int y3)]) dX12_landsAt_26 rfl rfl (by decide) rfl (fun _ => rfl) h (fun z3 h => ?_)
          exact j29 (f_X12_landsAt_4 n) (fun y1 y2 y3 σ h => ih y1 y2 y3 σ h) _ _ _ _ h
  refine a_iconst C dX12_landsAt_0 (v := 0) rfl ?_
  refine a_istore_n C dX12_landsAt_1 (i := 2) rfl (by decide) rfl (vs1 := [some (.ref (ad 236)), some (.int x1), some (.int 0), none]) rfl ?_
  refine a_iconst C dX12_landsAt_2 (v := 0) rfl ?_
  refine a_istore_n C dX12_landsAt_3 (i := 3) rfl (by decide) rfl (vs1 := [some (.ref (ad 236)), some (.int x1), some (.int 0), some (.int 0)]) rfl ?_
  exact j4 _ _ _ _ _ h
set_option maxHeartbeats 4000000 in
set_option maxRecDepth 100000 in
theorem Z_X12_catchesNow {l : Launch} {D : va_G} {ids : List Nat} {ad : Nat → Nat} {ca : Nat → ClassId} {σ : HS} {r0 : Int32} {s0 : HS} (hid : ∀ i, i < 277 → i ∈ ids) (h : f_X12_catchesNow σ = some (r0, s0)) : Ki l D ids ad ca yX12_catchesNow cX12_catchesNow 2 .int 1 22 [.ref (ad 236)] σ (fun r σ1 => r = r0 ∧ σ1 = s0) := by
  obtain ⟨R, hR⟩ : ∃ R, (r0, s0) = R := ⟨_, rfl⟩
  replace h := h.trans (congrArg some hR)
  refine Ki.of (by decide) (Nat.le_of_ble_eq_true rfl) 1 (fun Γ C Rt => ?_)
  show AW ids ad ca Γ 0 [some (.ref (ad 236)), none] [] σ
  unfold f_X12_catchesNow at h
  have j2 : ∀ (n : Nat) (y1 : Int32) (σ : HS), f_X12_catchesNow_2 n y1 σ = some R → AW ids ad ca Γ 2 [some (.ref (ad 236)), some (.int y1)] [] σ := by
    intro n
    induction n with
    | zero => intro y1 σ h; exact nn h
    | succ n ih =>
      intro y1 σ h
      have h : b_X12_catchesNow_2 (f_X12_catchesNow_2 n) y1 σ = some R := h
      unfold b_X12_catchesNow_2 at h
      refine a_iload_n C dX12_catchesNow_2 (i := 1) rfl rfl ?_
      refine a_aload_n C dX12_catchesNow_3 (i := 0) rfl rfl ?_
      refine a_get C fl_RX12_43 (i := 236) kd_236 (hid 236 (by decide)) (v := .ref (ad 245)) rfl dX12_catchesNow_4 ?_
      refine a_aload_n C dX12_catchesNow_7 (i := 0) rfl rfl ?_
      refine a_get C fl_RX12_221 (i := 236) kd_236 (hid 236 (by decide)) (v := .int (σ.1 236 18)) rfl dX12_catchesNow_8 ?_
      refine p_iald C (i := 245) (show rowOK 245 from ⟨kd_245, by decide⟩) hid (by rw [al_245]; rfl) dX12_catchesNow_11 h (fun h => ?_)
      refine p_ic_ge C (X := y1.toInt) (Y := (σ.1 245 (σ.1 236 18).toInt.toNat).toInt) rfl rfl dX12_catchesNow_12 (tgt := 32) rfl h (fun h => ?_) (fun h => ?_)
      ·
        refine a_bipush C dX12_catchesNow_32 (v := (-2)) rfl ?_
        exact a_iret Rt dX12_catchesNow_34 rfl (ret_eq (h.trans (congrArg some hR.symm)))
      ·
        refine a_aload_n C dX12_catchesNow_15 (i := 0) rfl rfl ?_
        refine a_iload_n C dX12_catchesNow_16 (i := 1) rfl rfl ?_
        refine a_iconst C dX12_catchesNow_17 (v := 0) rfl ?_
        refine p_callVi C (As := [.int y1, .int 0]) (i := 236) kd_236 (hid 236 (by decide)) ⟨_, _, rfl⟩ (by decide) h (fun _ _ e => Z_X12_doesLand hid e) mi_X12_doesLand ml_RX12_324 rfl rfl (Nat.le_of_ble_eq_true rfl) (Nat.le_of_ble_eq_true rfl) (Nat.le_of_ble_eq_true rfl) dX12_catchesNow_18 (fun r2 σ1 h => ?_)
        refine p_if_eq C (X := r2.toInt) rfl dX12_catchesNow_21 (tgt := 26) rfl h (fun h => ?_) (fun h => ?_)
        ·
          refine p_iinc C (y := (y1 + 1)) (fun z3 => [some (.ref (ad 236)), some (.int z3)]) dX12_catchesNow_26 rfl rfl (by decide) rfl (fun _ => rfl) h (fun z3 h => ?_)
          refine a_goto C dX12_catchesNow_29 (tgt := 2) rfl ?_
          exact ih _ _ h
        ·
          refine a_iload_n C dX12_catchesNow_24 (i := 1) rfl rfl ?_
          exact a_iret Rt dX12_catchesNow_25 rfl (ret_eq (h.trans (congrArg some hR.symm)))
  refine a_iconst C dX12_catchesNow_0 (v := 0) rfl ?_
  refine a_istore_n C dX12_catchesNow_1 (i := 1) rfl (by decide) rfl (vs1 := [some (.ref (ad 236)), some (.int 0)]) rfl ?_
  exact j2 _ _ _ h
set_option maxHeartbeats 4000000 in
set_option maxRecDepth 100000 in
theorem Z_X12_looksAt {l : Launch} {D : va_G} {ids : List Nat} {ad : Nat → Nat} {ca : Nat → ClassId} {σ : HS} {x1 : Int32} {x2 : Int32} {x3 : Int32} {s0 : HS} (hid : ∀ i, i < 277 → i ∈ ids) (h : f_X12_looksAt x1 x2 x3 σ = some s0) : Kv l D ids ad ca yX12_looksAt cX12_looksAt 4 0 0 [.ref (ad 236), .int x1, .int x2, .int x3] σ (fun σ1 => σ1 = s0) := by
  obtain ⟨R, hR⟩ : ∃ R, s0 = R := ⟨_, rfl⟩
  replace h := h.trans (congrArg some hR)
  refine Kv.of (by decide) (Nat.le_of_ble_eq_true rfl) 0 (fun Γ C Rt => ?_)
  show AW ids ad ca Γ 0 [some (.ref (ad 236)), some (.int x1), some (.int x2), some (.int x3)] [] σ
  unfold f_X12_looksAt at h
  refine a_aload_n C dX12_looksAt_0 (i := 0) rfl rfl ?_
  refine a_get C fl_RX12_101 (i := 236) kd_236 (hid 236 (by decide)) (v := .ref (ad 264)) rfl dX12_looksAt_1 ?_
  refine a_iconst C dX12_looksAt_4 (v := 0) rfl ?_
  refine a_aload_n C dX12_looksAt_5 (i := 0) rfl rfl ?_
  refine a_get C fl_RX12_46 (i := 236) kd_236 (hid 236 (by decide)) (v := .ref (ad 246)) rfl dX12_looksAt_6 ?_
  refine a_bipush C dX12_looksAt_9 (v := 7) rfl ?_
  refine a_aload_n C dX12_looksAt_11 (i := 0) rfl rfl ?_
  refine a_get C fl_RX12_221 (i := 236) kd_236 (hid 236 (by decide)) (v := .int (σ.1 236 18)) rfl dX12_looksAt_12 ?_
  refine a_imul C dX12_looksAt_15 ?_
  refine a_iload_n C dX12_looksAt_16 (i := 1) rfl rfl ?_
  refine a_iadd C dX12_looksAt_17 ?_
  refine p_iald C (i := 246) (show rowOK 246 from ⟨kd_246, by decide⟩) hid (by rw [al_246]; rfl) dX12_looksAt_18 h (fun h => ?_)
  refine p_iastc C (i := 264) 0 (show rowOK 264 from ⟨kd_264, by decide⟩) hid (by decide) (by rw [al_264]; decide) dX12_looksAt_19 h (fun σ1 h => ?_)
  refine a_aload_n C dX12_looksAt_20 (i := 0) rfl rfl ?_
  refine a_get C fl_RX12_101 (i := 236) kd_236 (hid 236 (by decide)) (v := .ref (ad 264)) rfl dX12_looksAt_21 ?_
  refine a_iconst C dX12_looksAt_24 (v := 1) rfl ?_
  refine a_aload_n C dX12_looksAt_25 (i := 0) rfl rfl ?_
  refine a_get C fl_RX12_49 (i := 236) kd_236 (hid 236 (by decide)) (v := .ref (ad 247)) rfl dX12_looksAt_26 ?_
  refine a_bipush C dX12_looksAt_29 (v := 7) rfl ?_
  refine a_aload_n C dX12_looksAt_31 (i := 0) rfl rfl ?_
  refine a_get C fl_RX12_221 (i := 236) kd_236 (hid 236 (by decide)) (v := .int (σ1.1 236 18)) rfl dX12_looksAt_32 ?_
  refine a_imul C dX12_looksAt_35 ?_
  refine a_iload_n C dX12_looksAt_36 (i := 1) rfl rfl ?_
  refine a_iadd C dX12_looksAt_37 ?_
  refine p_iald C (i := 247) (show rowOK 247 from ⟨kd_247, by decide⟩) hid (by rw [al_247]; rfl) dX12_looksAt_38 h (fun h => ?_)
  refine p_iastc C (i := 264) 1 (show rowOK 264 from ⟨kd_264, by decide⟩) hid (by decide) (by rw [al_264]; decide) dX12_looksAt_39 h (fun σ2 h => ?_)
  refine a_aload_n C dX12_looksAt_40 (i := 0) rfl rfl ?_
  refine a_get C fl_RX12_101 (i := 236) kd_236 (hid 236 (by decide)) (v := .ref (ad 264)) rfl dX12_looksAt_41 ?_
  refine a_iconst C dX12_looksAt_44 (v := 2) rfl ?_
  refine a_iload_n C dX12_looksAt_45 (i := 2) rfl rfl ?_
  refine p_iastc C (i := 264) 2 (show rowOK 264 from ⟨kd_264, by decide⟩) hid (by decide) (by rw [al_264]; decide) dX12_looksAt_46 h (fun σ3 h => ?_)
  refine a_aload_n C dX12_looksAt_47 (i := 0) rfl rfl ?_
  refine a_get C fl_RX12_101 (i := 236) kd_236 (hid 236 (by decide)) (v := .ref (ad 264)) rfl dX12_looksAt_48 ?_
  refine a_iconst C dX12_looksAt_51 (v := 3) rfl ?_
  refine a_aload_n C dX12_looksAt_52 (i := 0) rfl rfl ?_
  refine a_get C fl_RX12_110 (i := 236) kd_236 (hid 236 (by decide)) (v := .ref (ad 267)) rfl dX12_looksAt_53 ?_
  refine a_bipush C dX12_looksAt_56 (v := 21) rfl ?_
  refine p_ialdc C (i := 267) 21 (show rowOK 267 from ⟨kd_267, by decide⟩) hid (by decide) (by rw [al_267]; decide) dX12_looksAt_58 ?_
  refine p_iastc C (i := 264) 3 (show rowOK 264 from ⟨kd_264, by decide⟩) hid (by decide) (by rw [al_264]; decide) dX12_looksAt_59 h (fun σ4 h => ?_)
  refine a_aload_n C dX12_looksAt_60 (i := 0) rfl rfl ?_
  refine a_get C fl_RX12_101 (i := 236) kd_236 (hid 236 (by decide)) (v := .ref (ad 264)) rfl dX12_looksAt_61 ?_
  refine a_iconst C dX12_looksAt_64 (v := 4) rfl ?_
  refine a_aload_n C dX12_looksAt_65 (i := 0) rfl rfl ?_
  refine a_get C fl_RX12_110 (i := 236) kd_236 (hid 236 (by decide)) (v := .ref (ad 267)) rfl dX12_looksAt_66 ?_
  refine a_bipush C dX12_looksAt_69 (v := 22) rfl ?_
  refine p_ialdc C (i := 267) 22 (show rowOK 267 from ⟨kd_267, by decide⟩) hid (by decide) (by rw [al_267]; decide) dX12_looksAt_71 ?_
  refine p_iastc C (i := 264) 4 (show rowOK 264 from ⟨kd_264, by decide⟩) hid (by decide) (by rw [al_264]; decide) dX12_looksAt_72 h (fun σ5 h => ?_)
  refine a_aload_n C dX12_looksAt_73 (i := 0) rfl rfl ?_
  refine a_get C fl_RX12_101 (i := 236) kd_236 (hid 236 (by decide)) (v := .ref (ad 264)) rfl dX12_looksAt_74 ?_
  refine a_iconst C dX12_looksAt_77 (v := 5) rfl ?_
  refine a_iload_n C dX12_looksAt_78 (i := 3) rfl rfl ?_
  refine p_iastc C (i := 264) 5 (show rowOK 264 from ⟨kd_264, by decide⟩) hid (by decide) (by rw [al_264]; decide) dX12_looksAt_79 h (fun σ6 h => ?_)
  refine a_aload_n C dX12_looksAt_80 (i := 0) rfl rfl ?_
  refine a_get C fl_RX12_101 (i := 236) kd_236 (hid 236 (by decide)) (v := .ref (ad 264)) rfl dX12_looksAt_81 ?_
  refine a_bipush C dX12_looksAt_84 (v := 6) rfl ?_
  refine a_iload_n C dX12_looksAt_86 (i := 1) rfl rfl ?_
  refine p_iastc C (i := 264) 6 (show rowOK 264 from ⟨kd_264, by decide⟩) hid (by decide) (by rw [al_264]; decide) dX12_looksAt_87 h (fun σ7 h => ?_)
  refine a_aload_n C dX12_looksAt_88 (i := 0) rfl rfl ?_
  refine a_get C fl_RX12_101 (i := 236) kd_236 (hid 236 (by decide)) (v := .ref (ad 264)) rfl dX12_looksAt_89 ?_
  refine a_bipush C dX12_looksAt_92 (v := 7) rfl ?_
  refine a_aload_n C dX12_looksAt_94 (i := 0) rfl rfl ?_
  refine a_get C fl_RX12_110 (i := 236) kd_236 (hid 236 (by decide)) (v := .ref (ad 267)) rfl dX12_looksAt_95 ?_
  refine a_bipush C dX12_looksAt_98 (v := 24) rfl ?_
  refine p_ialdc C (i := 267) 24 (show rowOK 267 from ⟨kd_267, by decide⟩) hid (by decide) (by rw [al_267]; decide) dX12_looksAt_100 ?_
  refine p_iastc C (i := 264) 7 (show rowOK 264 from ⟨kd_264, by decide⟩) hid (by decide) (by rw [al_264]; decide) dX12_looksAt_101 h (fun σ8 h => ?_)
  refine a_aload_n C dX12_looksAt_102 (i := 0) rfl rfl ?_
  refine a_get C fl_RX12_101 (i := 236) kd_236 (hid 236 (by decide)) (v := .ref (ad 264)) rfl dX12_looksAt_103 ?_
  refine a_bipush C dX12_looksAt_106 (v := 8) rfl ?_
  refine a_aload_n C dX12_looksAt_108 (i := 0) rfl rfl ?_
  refine a_get C fl_RX12_110 (i := 236) kd_236 (hid 236 (by decide)) (v := .ref (ad 267)) rfl dX12_looksAt_109 ?_
  refine a_bipush C dX12_looksAt_112 (v := 21) rfl ?_
  refine p_ialdc C (i := 267) 21 (show rowOK 267 from ⟨kd_267, by decide⟩) hid (by decide) (by rw [al_267]; decide) dX12_looksAt_114 ?_
  refine a_iconst C dX12_looksAt_115 (v := 2) rfl ?_
  refine a_irem C dX12_looksAt_116 (by decide) ?_
  refine p_iastc C (i := 264) 8 (show rowOK 264 from ⟨kd_264, by decide⟩) hid (by decide) (by rw [al_264]; decide) dX12_looksAt_117 h (fun σ9 h => ?_)
  exact a_vret Rt dX12_looksAt_118 (retv_eq (h.trans (congrArg some hR.symm)))
set_option maxHeartbeats 4000000 in
set_option maxRecDepth 100000 in
theorem Z_X12_lawTells {l : Launch} {D : va_G} {ids : List Nat} {ad : Nat → Nat} {ca : Nat → ClassId} {σ : HS} {x1 : Int32} {x2 : Int32} {r0 : Int32} {s0 : HS} (hid : ∀ i, i < 277 → i ∈ ids) (h : f_X12_lawTells x1 x2 σ = some (r0, s0)) : Ki l D ids ad ca yX12_lawTells cX12_lawTells 7 .int 1 27 [.ref (ad 236), .int x1, .int x2] σ (fun r σ1 => r = r0 ∧ σ1 = s0) := by
  obtain ⟨R, hR⟩ : ∃ R, (r0, s0) = R := ⟨_, rfl⟩
  replace h := h.trans (congrArg some hR)
  refine Ki.of (by decide) (Nat.le_of_ble_eq_true rfl) 4 (fun Γ C Rt => ?_)
  show AW ids ad ca Γ 0 [some (.ref (ad 236)), some (.int x1), some (.int x2), none, none, none, none] [] σ
  unfold f_X12_lawTells at h
  have j119 : ∀ (y4 : Int32) (σ : HS), f_X12_lawTells_119 y4 σ = some R → AW ids ad ca Γ 119 [some (.ref (ad 236)), none, none, none, some (.int y4), none, none] [] σ := by
    intro y4 σ h
    unfold f_X12_lawTells_119 at h
    refine a_aload_n C dX12_lawTells_119 (i := 0) rfl rfl ?_
    refine a_aload_n C dX12_lawTells_120 (i := 0) rfl rfl ?_
    refine a_get C fl_RX12_86 (i := 236) kd_236 (hid 236 (by decide)) (v := .ref (ad 259)) rfl dX12_lawTells_121 ?_
    refine a_iload C dX12_lawTells_124 rfl ?_
    refine p_iald C (i := 259) (show rowOK 259 from ⟨kd_259, by decide⟩) hid (by rw [al_259]; rfl) dX12_lawTells_126 h (fun h => ?_)
    refine a_aload_n C dX12_lawTells_127 (i := 0) rfl rfl ?_
    refine a_get C fl_RX12_89 (i := 236) kd_236 (hid 236 (by decide)) (v := .ref (ad 260)) rfl dX12_lawTells_128 ?_
    refine a_iload C dX12_lawTells_131 rfl ?_
    refine p_iald C (i := 260) (show rowOK 260 from ⟨kd_260, by decide⟩) hid (by rw [al_260]; rfl) dX12_lawTells_133 h (fun h => ?_)
    refine p_callVi C (As := [.int (σ.1 259 y4.toInt.toNat), .int (σ.1 260 y4.toInt.toNat)]) (i := 236) kd_236 (hid 236 (by decide)) ⟨_, _, rfl⟩ (by decide) h (fun _ _ e => Z_X12_termOf hid e) mi_X12_termOf ml_RX12_328 rfl rfl (Nat.le_of_ble_eq_true rfl) (Nat.le_of_ble_eq_true rfl) (Nat.le_of_ble_eq_true rfl) dX12_lawTells_134 (fun r2 σ1 h => ?_)
    refine a_istore C dX12_lawTells_137 (by decide) rfl (vs1 := [some (.ref (ad 236)), none, none, none, some (.int y4), some (.int r2), none]) rfl ?_
    refine a_aload_n C dX12_lawTells_139 (i := 0) rfl rfl ?_
    refine a_get C fl_RX12_297 (i := 236) kd_236 (hid 236 (by decide)) (v := .int (σ1.1 236 46)) rfl dX12_lawTells_140 ?_
    refine p_if_eq C (X := (σ1.1 236 46).toInt) rfl dX12_lawTells_143 (tgt := 150) rfl h (fun h => ?_) (fun h => ?_)
    ·
      refine a_iload C dX12_lawTells_150 rfl ?_
      exact a_iret Rt dX12_lawTells_152 rfl (ret_eq (h.trans (congrArg some hR.symm)))
    ·
      refine a_iconst C dX12_lawTells_146 (v := 0) rfl ?_
      refine a_goto C dX12_lawTells_147 (tgt := 152) rfl ?_
      exact a_iret Rt dX12_lawTells_152 rfl (ret_eq (h.trans (congrArg some hR.symm)))
  have j39 : ∀ (n : Nat) (y3 : Int32) (y4 : Int32) (σ : HS), f_X12_lawTells_39 n y3 y4 σ = some R → AW ids ad ca Γ 39 [some (.ref (ad 236)), none, none, some (.int y3), some (.int y4), none, none] [] σ := by
    intro n
    induction n with
    | zero => intro y3 y4 σ h; exact nn h
    | succ n ih =>
      intro y3 y4 σ h
      have h : b_X12_lawTells_39 (f_X12_lawTells_39 n) y3 y4 σ = some R := h
      unfold b_X12_lawTells_39 at h
      refine a_iload C dX12_lawTells_39 rfl ?_
      refine a_aload_n C dX12_lawTells_41 (i := 0) rfl rfl ?_
      refine a_get C fl_RX12_73 (i := 236) kd_236 (hid 236 (by decide)) (v := .ref (ad 255)) rfl dX12_lawTells_42 ?_
      refine a_iload_n C dX12_lawTells_45 (i := 3) rfl rfl ?_
      refine p_iald C (i := 255) (show rowOK 255 from ⟨kd_255, by decide⟩) hid (by rw [al_255]; rfl) dX12_lawTells_46 h (fun h => ?_)
      refine p_ic_ge C (X := y4.toInt) (Y := (σ.1 255 y3.toInt.toNat).toInt) rfl rfl dX12_lawTells_47 (tgt := 159) rfl h (fun h => ?_) (fun h => ?_)
      ·
        refine a_iconst C dX12_lawTells_159 (v := 0) rfl ?_
        exact a_iret Rt dX12_lawTells_160 rfl (ret_eq (h.trans (congrArg some hR.symm)))
      ·
        refine a_aload_n C dX12_lawTells_50 (i := 0) rfl rfl ?_
        refine a_get C fl_RX12_76 (i := 236) kd_236 (hid 236 (by decide)) (v := .ref (ad 256)) rfl dX12_lawTells_51 ?_
        refine a_iload C dX12_lawTells_54 rfl ?_
        refine p_zald C (i := 256) kd_256 (hid 256 (by decide)) (by rw [al_256]; rfl) dX12_lawTells_56 h (fun h => ?_)
        refine p_if_eq C (X := (σ.1 256 y4.toInt.toNat).toInt) rfl dX12_lawTells_57 (tgt := 119) rfl h (fun h => ?_) (fun h => ?_)
        ·
          refine AW.sub (vs' := [some (.ref (ad 236)), none, none, none, some (.int y4), none, none]) (lsub_of (by simp [lsubB])) ?_
          exact j119 _ _ h
        ·
          refine a_aload_n C dX12_lawTells_60 (i := 0) rfl rfl ?_
          refine a_aload_n C dX12_lawTells_61 (i := 0) rfl rfl ?_
          refine a_get C fl_RX12_80 (i := 236) kd_236 (hid 236 (by decide)) (v := .ref (ad 257)) rfl dX12_lawTells_62 ?_
          refine a_iload C dX12_lawTells_65 rfl ?_
          refine p_iald C (i := 257) (show rowOK 257 from ⟨kd_257, by decide⟩) hid (by rw [al_257]; rfl) dX12_lawTells_67 h (fun h => ?_)
          refine a_aload_n C dX12_lawTells_68 (i := 0) rfl rfl ?_
          refine a_get C fl_RX12_83 (i := 236) kd_236 (hid 236 (by decide)) (v := .ref (ad 258)) rfl dX12_lawTells_69 ?_
          refine a_iload C dX12_lawTells_72 rfl ?_
          refine p_iald C (i := 258) (show rowOK 258 from ⟨kd_258, by decide⟩) hid (by rw [al_258]; rfl) dX12_lawTells_74 h (fun h => ?_)
          refine p_callVi C (As := [.int (σ.1 257 y4.toInt.toNat), .int (σ.1 258 y4.toInt.toNat)]) (i := 236) kd_236 (hid 236 (by decide)) ⟨_, _, rfl⟩ (by decide) h (fun _ _ e => Z_X12_termOf hid e) mi_X12_termOf ml_RX12_328 rfl rfl (Nat.le_of_ble_eq_true rfl) (Nat.le_of_ble_eq_true rfl) (Nat.le_of_ble_eq_true rfl) dX12_lawTells_75 (fun r2 σ1 h => ?_)
          refine a_istore C dX12_lawTells_78 (by decide) rfl (vs1 := [some (.ref (ad 236)), none, none, some (.int y3), some (.int y4), some (.int r2), none]) rfl ?_
          refine a_aload_n C dX12_lawTells_80 (i := 0) rfl rfl ?_
          refine a_aload_n C dX12_lawTells_81 (i := 0) rfl rfl ?_
          refine a_get C fl_RX12_83 (i := 236) kd_236 (hid 236 (by decide)) (v := .ref (ad 258)) rfl dX12_lawTells_82 ?_
          refine a_iload C dX12_lawTells_85 rfl ?_
          refine p_iald C (i := 258) (show rowOK 258 from ⟨kd_258, by decide⟩) hid (by rw [al_258]; rfl) dX12_lawTells_87 h (fun h => ?_)
          refine a_aload_n C dX12_lawTells_88 (i := 0) rfl rfl ?_
          refine a_get C fl_RX12_86 (i := 236) kd_236 (hid 236 (by decide)) (v := .ref (ad 259)) rfl dX12_lawTells_89 ?_
          refine a_iload C dX12_lawTells_92 rfl ?_
          refine p_iald C (i := 259) (show rowOK 259 from ⟨kd_259, by decide⟩) hid (by rw [al_259]; rfl) dX12_lawTells_94 h (fun h => ?_)
          refine p_callVi C (As := [.int (σ1.1 258 y4.toInt.toNat), .int (σ1.1 259 y4.toInt.toNat)]) (i := 236) kd_236 (hid 236 (by decide)) ⟨_, _, rfl⟩ (by decide) h (fun _ _ e => Z_X12_termOf hid e) mi_X12_termOf ml_RX12_328 rfl rfl (Nat.le_of_ble_eq_true rfl) (Nat.le_of_ble_eq_true rfl) (Nat.le_of_ble_eq_true rfl) dX12_lawTells_95 (fun r4 σ3 h => ?_)
          refine a_istore C dX12_lawTells_98 (by decide) rfl (vs1 := [some (.ref (ad 236)), none, none, some (.int y3), some (.int y4), some (.int r2), some (.int r4)]) rfl ?_
          refine a_aload_n C dX12_lawTells_100 (i := 0) rfl rfl ?_
          refine a_get C fl_RX12_297 (i := 236) kd_236 (hid 236 (by decide)) (v := .int (σ3.1 236 46)) rfl dX12_lawTells_101 ?_
          refine p_if_eq C (X := (σ3.1 236 46).toInt) rfl dX12_lawTells_104 (tgt := 109) rfl h (fun h => ?_) (fun h => ?_)
          ·
            refine a_iload C dX12_lawTells_109 rfl ?_
            refine a_iload C dX12_lawTells_111 rfl ?_
            refine p_ic_lt C (X := r2.toInt) (Y := r4.toInt) rfl rfl dX12_lawTells_113 (tgt := 119) rfl h (fun h => ?_) (fun h => ?_)
            ·
              refine AW.sub (vs' := [some (.ref (ad 236)), none, none, none, some (.int y4), none, none]) (lsub_of (by simp [lsubB])) ?_
              exact j119 _ _ h
            ·
              refine a_goto C dX12_lawTells_116 (tgt := 153) rfl ?_
              refine p_iinc C (y := (y4 + 1)) (fun z5 => [some (.ref (ad 236)), none, none, some (.int y3), some (.int z5), some (.int r2), some (.int r4)]) dX12_lawTells_153 rfl rfl (by decide) rfl (fun _ => rfl) h (fun z5 h => ?_)
              refine a_goto C dX12_lawTells_156 (tgt := 39) rfl ?_
              refine AW.sub (vs' := [some (.ref (ad 236)), none, none, some (.int y3), some (.int z5), none, none]) (lsub_of (by simp [lsubB])) ?_
              exact ih _ _ _ h
          ·
            refine a_iconst C dX12_lawTells_107 (v := 0) rfl ?_
            exact a_iret Rt dX12_lawTells_108 rfl (ret_eq (h.trans (congrArg some hR.symm)))
  refine a_iconst C dX12_lawTells_0 (v := 4) rfl ?_
  refine a_aload_n C dX12_lawTells_1 (i := 0) rfl rfl ?_
  refine a_get C fl_RX12_221 (i := 236) kd_236 (hid 236 (by decide)) (v := .int (σ.1 236 18)) rfl dX12_lawTells_2 ?_
  refine a_imul C dX12_lawTells_5 ?_
  refine a_iload_n C dX12_lawTells_6 (i := 1) rfl rfl ?_
  refine a_iadd C dX12_lawTells_7 ?_
  refine p_istore_n C (fun z1 => [some (.ref (ad 236)), some (.int x1), some (.int x2), some (.int z1), none, none, none]) dX12_lawTells_8 (i := 3) rfl (by decide) rfl (fun _ => rfl) h (fun z1 h => ?_)
  refine a_aload_n C dX12_lawTells_9 (i := 0) rfl rfl ?_
  refine a_get C fl_RX12_70 (i := 236) kd_236 (hid 236 (by decide)) (v := .ref (ad 254)) rfl dX12_lawTells_10 ?_
  refine a_iload_n C dX12_lawTells_13 (i := 3) rfl rfl ?_
  refine p_iald C (i := 254) (show rowOK 254 from ⟨kd_254, by decide⟩) hid (by rw [al_254]; rfl) dX12_lawTells_14 h (fun h => ?_)
  refine a_aload_n C dX12_lawTells_15 (i := 0) rfl rfl ?_
  refine a_get C fl_RX12_73 (i := 236) kd_236 (hid 236 (by decide)) (v := .ref (ad 255)) rfl dX12_lawTells_16 ?_
  refine a_iload_n C dX12_lawTells_19 (i := 3) rfl rfl ?_
  refine p_iald C (i := 255) (show rowOK 255 from ⟨kd_255, by decide⟩) hid (by rw [al_255]; rfl) dX12_lawTells_20 h (fun h => ?_)
  refine p_ic_ne C (X := (σ.1 254 z1.toInt.toNat).toInt) (Y := (σ.1 255 z1.toInt.toNat).toInt) rfl rfl dX12_lawTells_21 (tgt := 26) rfl h (fun h => ?_) (fun h => ?_)
  ·
    refine a_aload_n C dX12_lawTells_26 (i := 0) rfl rfl ?_
    refine a_iconst C dX12_lawTells_27 (v := 0) rfl ?_
    refine p_put C fp_RX12_297 (i := 236) kd_236 (hid 236 (by decide)) (nar_z (by decide)).1 (nar_z (by decide)).2 dX12_lawTells_28 h (fun σ2 h => ?_)
    refine a_aload_n C dX12_lawTells_31 (i := 0) rfl rfl ?_
    refine a_get C fl_RX12_70 (i := 236) kd_236 (hid 236 (by decide)) (v := .ref (ad 254)) rfl dX12_lawTells_32 ?_
    refine a_iload_n C dX12_lawTells_35 (i := 3) rfl rfl ?_
    refine p_iald C (i := 254) (show rowOK 254 from ⟨kd_254, by decide⟩) hid (by rw [al_254]; rfl) dX12_lawTells_36 h (fun h => ?_)
    refine p_istore C (fun z3 => [some (.ref (ad 236)), some (.int x1), some (.int x2), some (.int z1), some (.int z3), none, none]) dX12_lawTells_37 (by decide) rfl (fun _ => rfl) h (fun z3 h => ?_)
    refine AW.sub (vs' := [some (.ref (ad 236)), none, none, some (.int z1), some (.int z3), none, none]) (lsub_of (by simp [lsubB])) ?_
    exact j39 _ _ _ _ h
  ·
    refine a_iload_n C dX12_lawTells_24 (i := 2) rfl rfl ?_
    exact a_iret Rt dX12_lawTells_25 rfl (ret_eq (h.trans (congrArg some hR.symm)))
set_option maxHeartbeats 4000000 in
set_option maxRecDepth 100000 in
theorem Z_X12_tiresBy {l : Launch} {D : va_G} {ids : List Nat} {ad : Nat → Nat} {ca : Nat → ClassId} {σ : HS} {x1 : Int32} {x2 : Int32} {x3 : Int32} {r0 : Int32} {s0 : HS} (hid : ∀ i, i < 277 → i ∈ ids) (h : f_X12_tiresBy x1 x2 x3 σ = some (r0, s0)) : Ki l D ids ad ca yX12_tiresBy cX12_tiresBy 4 .int 2 53 [.ref (ad 236), .int x1, .int x2, .int x3] σ (fun r σ1 => r = r0 ∧ σ1 = s0) := by
  obtain ⟨R, hR⟩ : ∃ R, (r0, s0) = R := ⟨_, rfl⟩
  replace h := h.trans (congrArg some hR)
  refine Ki.of (by decide) (Nat.le_of_ble_eq_true rfl) 0 (fun Γ C Rt => ?_)
  show AW ids ad ca Γ 0 [some (.ref (ad 236)), some (.int x1), some (.int x2), some (.int x3)] [] σ
  unfold f_X12_tiresBy at h
  refine a_aload_n C dX12_tiresBy_0 (i := 0) rfl rfl ?_
  refine a_iload_n C dX12_tiresBy_1 (i := 1) rfl rfl ?_
  refine a_iload_n C dX12_tiresBy_2 (i := 2) rfl rfl ?_
  refine a_iload_n C dX12_tiresBy_3 (i := 3) rfl rfl ?_
  refine p_callVv C (As := [.int x1, .int x2, .int x3]) (i := 236) kd_236 (hid 236 (by decide)) ⟨_, _, rfl⟩ (by decide) h (fun _ e => Z_X12_looksAt hid e) mi_X12_looksAt ml_RX12_331 rfl rfl (Nat.le_of_ble_eq_true rfl) (Nat.le_of_ble_eq_true rfl) (Nat.le_of_ble_eq_true rfl) dX12_tiresBy_4 (fun σ1 h => ?_)
  refine a_aload_n C dX12_tiresBy_7 (i := 0) rfl rfl ?_
  refine a_iconst C dX12_tiresBy_8 (v := 0) rfl ?_
  refine a_iconst C dX12_tiresBy_9 (v := 0) rfl ?_
  refine p_callVi C (As := [.int 0, .int 0]) (i := 236) kd_236 (hid 236 (by decide)) ⟨_, _, rfl⟩ (by decide) h (fun _ _ e => Z_X12_lawTells hid e) mi_X12_lawTells ml_RX12_335 rfl rfl (Nat.le_of_ble_eq_true rfl) (Nat.le_of_ble_eq_true rfl) (Nat.le_of_ble_eq_true rfl) dX12_tiresBy_10 (fun r4 σ3 h => ?_)
  refine a_iconst C dX12_tiresBy_13 (v := 0) rfl ?_
  refine a_bipush C dX12_tiresBy_14 (v := 99) rfl ?_
  refine p_callSi C (As := [.int r4, .int 0, .int 99]) h (fun _ _ e => Z_X12_held hid e) ms_X12_held ml_RX12_338 rfl rfl (Nat.le_of_ble_eq_true rfl) (Nat.le_of_ble_eq_true rfl) (Nat.le_of_ble_eq_true rfl) dX12_tiresBy_16 (fun r6 σ5 h => ?_)
  exact a_iret Rt dX12_tiresBy_19 rfl (ret_eq (h.trans (congrArg some hR.symm)))

set_option maxHeartbeats 4000000 in
set_option maxRecDepth 100000 in
theorem Z_X12_dropsBy {l : Launch} {D : va_G} {ids : List Nat} {ad : Nat → Nat} {ca : Nat → ClassId} {σ : HS} {x1 : Int32} {x2 : Int32} {x3 : Int32} {r0 : Int32} {s0 : HS} (hid : ∀ i, i < 277 → i ∈ ids) (h : f_X12_dropsBy x1 x2 x3 σ = some (r0, s0)) : Ki l D ids ad ca yX12_dropsBy cX12_dropsBy 4 .int 2 53 [.ref (ad 236), .int x1, .int x2, .int x3] σ (fun r σ1 => r = r0 ∧ σ1 = s0) := by
  obtain ⟨R, hR⟩ : ∃ R, (r0, s0) = R := ⟨_, rfl⟩
  replace h := h.trans (congrArg some hR)
  refine Ki.of (by decide) (Nat.le_of_ble_eq_true rfl) 0 (fun Γ C Rt => ?_)
  show AW ids ad ca Γ 0 [some (.ref (ad 236)), some (.int x1), some (.int x2), some (.int x3)] [] σ
  unfold f_X12_dropsBy at h
  refine a_aload_n C dX12_dropsBy_0 (i := 0) rfl rfl ?_
  refine a_iload_n C dX12_dropsBy_1 (i := 1) rfl rfl ?_
  refine a_iload_n C dX12_dropsBy_2 (i := 2) rfl rfl ?_
  refine a_iload_n C dX12_dropsBy_3 (i := 3) rfl rfl ?_
  refine p_callVv C (As := [.int x1, .int x2, .int x3]) (i := 236) kd_236 (hid 236 (by decide)) ⟨_, _, rfl⟩ (by decide) h (fun _ e => Z_X12_looksAt hid e) mi_X12_looksAt ml_RX12_331 rfl rfl (Nat.le_of_ble_eq_true rfl) (Nat.le_of_ble_eq_true rfl) (Nat.le_of_ble_eq_true rfl) dX12_dropsBy_4 (fun σ1 h => ?_)
  refine a_aload_n C dX12_dropsBy_7 (i := 0) rfl rfl ?_
  refine a_iconst C dX12_dropsBy_8 (v := 1) rfl ?_
  refine a_iconst C dX12_dropsBy_9 (v := 0) rfl ?_
  refine p_callVi C (As := [.int 1, .int 0]) (i := 236) kd_236 (hid 236 (by decide)) ⟨_, _, rfl⟩ (by decide) h (fun _ _ e => Z_X12_lawTells hid e) mi_X12_lawTells ml_RX12_335 rfl rfl (Nat.le_of_ble_eq_true rfl) (Nat.le_of_ble_eq_true rfl) (Nat.le_of_ble_eq_true rfl) dX12_dropsBy_10 (fun r4 σ3 h => ?_)
  refine a_iconst C dX12_dropsBy_13 (v := 0) rfl ?_
  refine a_bipush C dX12_dropsBy_14 (v := 100) rfl ?_
  refine p_callSi C (As := [.int r4, .int 0, .int 100]) h (fun _ _ e => Z_X12_held hid e) ms_X12_held ml_RX12_338 rfl rfl (Nat.le_of_ble_eq_true rfl) (Nat.le_of_ble_eq_true rfl) (Nat.le_of_ble_eq_true rfl) dX12_dropsBy_16 (fun r6 σ5 h => ?_)
  exact a_iret Rt dX12_dropsBy_19 rfl (ret_eq (h.trans (congrArg some hR.symm)))
set_option maxHeartbeats 4000000 in
set_option maxRecDepth 100000 in
theorem Z_X12_forceOf {l : Launch} {D : va_G} {ids : List Nat} {ad : Nat → Nat} {ca : Nat → ClassId} {σ : HS} {x1 : Int32} {x2 : Int32} {r0 : Int32} {s0 : HS} (hid : ∀ i, i < 277 → i ∈ ids) (h : f_X12_forceOf x1 x2 σ = some (r0, s0)) : Ki l D ids ad ca yX12_forceOf cX12_forceOf 3 .int 2 53 [.ref (ad 236), .int x1, .int x2] σ (fun r σ1 => r = r0 ∧ σ1 = s0) := by
  obtain ⟨R, hR⟩ : ∃ R, (r0, s0) = R := ⟨_, rfl⟩
  replace h := h.trans (congrArg some hR)
  refine Ki.of (by decide) (Nat.le_of_ble_eq_true rfl) 0 (fun Γ C Rt => ?_)
  show AW ids ad ca Γ 0 [some (.ref (ad 236)), some (.int x1), some (.int x2)] [] σ
  unfold f_X12_forceOf at h
  refine a_aload_n C dX12_forceOf_0 (i := 0) rfl rfl ?_
  refine a_iload_n C dX12_forceOf_1 (i := 1) rfl rfl ?_
  refine a_iconst C dX12_forceOf_2 (v := 0) rfl ?_
  refine a_iload_n C dX12_forceOf_3 (i := 2) rfl rfl ?_
  refine p_callVv C (As := [.int x1, .int 0, .int x2]) (i := 236) kd_236 (hid 236 (by decide)) ⟨_, _, rfl⟩ (by decide) h (fun _ e => Z_X12_looksAt hid e) mi_X12_looksAt ml_RX12_331 rfl rfl (Nat.le_of_ble_eq_true rfl) (Nat.le_of_ble_eq_true rfl) (Nat.le_of_ble_eq_true rfl) dX12_forceOf_4 (fun σ1 h => ?_)
  refine a_aload_n C dX12_forceOf_7 (i := 0) rfl rfl ?_
  refine a_iconst C dX12_forceOf_8 (v := 2) rfl ?_
  refine a_aload_n C dX12_forceOf_9 (i := 0) rfl rfl ?_
  refine a_get C fl_RX12_101 (i := 236) kd_236 (hid 236 (by decide)) (v := .ref (ad 264)) rfl dX12_forceOf_10 ?_
  refine a_iconst C dX12_forceOf_13 (v := 1) rfl ?_
  refine p_ialdc C (i := 264) 1 (show rowOK 264 from ⟨kd_264, by decide⟩) hid (by decide) (by rw [al_264]; decide) dX12_forceOf_14 ?_
  refine p_callVi C (As := [.int 2, .int (σ1.1 264 1)]) (i := 236) kd_236 (hid 236 (by decide)) ⟨_, _, rfl⟩ (by decide) h (fun _ _ e => Z_X12_lawTells hid e) mi_X12_lawTells ml_RX12_335 rfl rfl (Nat.le_of_ble_eq_true rfl) (Nat.le_of_ble_eq_true rfl) (Nat.le_of_ble_eq_true rfl) dX12_forceOf_15 (fun r4 σ3 h => ?_)
  refine a_bipush C dX12_forceOf_18 (v := (-99)) rfl ?_
  refine a_bipush C dX12_forceOf_20 (v := 99) rfl ?_
  refine p_callSi C (As := [.int r4, .int (-99), .int 99]) h (fun _ _ e => Z_X12_held hid e) ms_X12_held ml_RX12_338 rfl rfl (Nat.le_of_ble_eq_true rfl) (Nat.le_of_ble_eq_true rfl) (Nat.le_of_ble_eq_true rfl) dX12_forceOf_22 (fun r6 σ5 h => ?_)
  exact a_iret Rt dX12_forceOf_25 rfl (ret_eq (h.trans (congrArg some hR.symm)))
set_option maxHeartbeats 4000000 in
set_option maxRecDepth 100000 in
theorem Z_X12_paysOf {l : Launch} {D : va_G} {ids : List Nat} {ad : Nat → Nat} {ca : Nat → ClassId} {σ : HS} {x1 : Int32} {x2 : Int32} {r0 : Int32} {s0 : HS} (hid : ∀ i, i < 277 → i ∈ ids) (h : f_X12_paysOf x1 x2 σ = some (r0, s0)) : Ki l D ids ad ca yX12_paysOf cX12_paysOf 3 .int 2 53 [.ref (ad 236), .int x1, .int x2] σ (fun r σ1 => r = r0 ∧ σ1 = s0) := by
  obtain ⟨R, hR⟩ : ∃ R, (r0, s0) = R := ⟨_, rfl⟩
  replace h := h.trans (congrArg some hR)
  refine Ki.of (by decide) (Nat.le_of_ble_eq_true rfl) 0 (fun Γ C Rt => ?_)
  show AW ids ad ca Γ 0 [some (.ref (ad 236)), some (.int x1), some (.int x2)] [] σ
  unfold f_X12_paysOf at h
  refine a_aload_n C dX12_paysOf_0 (i := 0) rfl rfl ?_
  refine a_iload_n C dX12_paysOf_1 (i := 1) rfl rfl ?_
  refine a_iconst C dX12_paysOf_2 (v := 0) rfl ?_
  refine a_iload_n C dX12_paysOf_3 (i := 2) rfl rfl ?_
  refine p_callVv C (As := [.int x1, .int 0, .int x2]) (i := 236) kd_236 (hid 236 (by decide)) ⟨_, _, rfl⟩ (by decide) h (fun _ e => Z_X12_looksAt hid e) mi_X12_looksAt ml_RX12_331 rfl rfl (Nat.le_of_ble_eq_true rfl) (Nat.le_of_ble_eq_true rfl) (Nat.le_of_ble_eq_true rfl) dX12_paysOf_4 (fun σ1 h => ?_)
  refine a_aload_n C dX12_paysOf_7 (i := 0) rfl rfl ?_
  refine a_iconst C dX12_paysOf_8 (v := 3) rfl ?_
  refine a_iconst C dX12_paysOf_9 (v := 0) rfl ?_
  refine p_callVi C (As := [.int 3, .int 0]) (i := 236) kd_236 (hid 236 (by decide)) ⟨_, _, rfl⟩ (by decide) h (fun _ _ e => Z_X12_lawTells hid e) mi_X12_lawTells ml_RX12_335 rfl rfl (Nat.le_of_ble_eq_true rfl) (Nat.le_of_ble_eq_true rfl) (Nat.le_of_ble_eq_true rfl) dX12_paysOf_10 (fun r4 σ3 h => ?_)
  refine a_iconst C dX12_paysOf_13 (v := 0) rfl ?_
  refine a_bipush C dX12_paysOf_14 (v := 99) rfl ?_
  refine p_callSi C (As := [.int r4, .int 0, .int 99]) h (fun _ _ e => Z_X12_held hid e) ms_X12_held ml_RX12_338 rfl rfl (Nat.le_of_ble_eq_true rfl) (Nat.le_of_ble_eq_true rfl) (Nat.le_of_ble_eq_true rfl) dX12_paysOf_16 (fun r6 σ5 h => ?_)
  exact a_iret Rt dX12_paysOf_19 rfl (ret_eq (h.trans (congrArg some hR.symm)))
set_option maxHeartbeats 4000000 in
set_option maxRecDepth 100000 in
theorem Z_X12_dropsOthers {l : Launch} {D : va_G} {ids : List Nat} {ad : Nat → Nat} {ca : Nat → ClassId} {σ : HS} {s0 : HS} (hid : ∀ i, i < 277 → i ∈ ids) (h : f_X12_dropsOthers σ = some s0) : Kv l D ids ad ca yX12_dropsOthers cX12_dropsOthers 2 1 22 [.ref (ad 236)] σ (fun σ1 => σ1 = s0) := by
  obtain ⟨R, hR⟩ : ∃ R, s0 = R := ⟨_, rfl⟩
  replace h := h.trans (congrArg some hR)
  refine Kv.of (by decide) (Nat.le_of_ble_eq_true rfl) 1 (fun Γ C Rt => ?_)
  show AW ids ad ca Γ 0 [some (.ref (ad 236)), none] [] σ
  unfold f_X12_dropsOthers at h
  have j58 : ∀ (k2 : Int32 → HS → Option (HS)) (hk2 : ∀ (y1 : Int32) (σ : HS), k2 y1 σ = some R → AW ids ad ca Γ 2 [some (.ref (ad 236)), some (.int y1)] [] σ) (y1 : Int32) (σ : HS), f_X12_dropsOthers_58 k2 y1 σ = some R → AW ids ad ca Γ 58 [some (.ref (ad 236)), some (.int y1)] [] σ := by
    intro k2 hk2 y1 σ h
    unfold f_X12_dropsOthers_58 at h
    refine p_iinc C (y := (y1 + 1)) (fun z1 => [some (.ref (ad 236)), some (.int z1)]) dX12_dropsOthers_58 rfl rfl (by decide) rfl (fun _ => rfl) h (fun z1 h => ?_)
    refine a_goto C dX12_dropsOthers_61 (tgt := 2) rfl ?_
    exact hk2 _ _ h
  have j2 : ∀ (n : Nat) (y1 : Int32) (σ : HS), f_X12_dropsOthers_2 n y1 σ = some R → AW ids ad ca Γ 2 [some (.ref (ad 236)), some (.int y1)] [] σ := by
    intro n
    induction n with
    | zero => intro y1 σ h; exact nn h
    | succ n ih =>
      intro y1 σ h
      have h : b_X12_dropsOthers_2 (f_X12_dropsOthers_2 n) y1 σ = some R := h
      unfold b_X12_dropsOthers_2 at h
      refine a_iload_n C dX12_dropsOthers_2 (i := 1) rfl rfl ?_
      refine a_aload_n C dX12_dropsOthers_3 (i := 0) rfl rfl ?_
      refine a_get C fl_RX12_43 (i := 236) kd_236 (hid 236 (by decide)) (v := .ref (ad 245)) rfl dX12_dropsOthers_4 ?_
      refine a_aload_n C dX12_dropsOthers_7 (i := 0) rfl rfl ?_
      refine a_get C fl_RX12_221 (i := 236) kd_236 (hid 236 (by decide)) (v := .int (σ.1 236 18)) rfl dX12_dropsOthers_8 ?_
      refine p_iald C (i := 245) (show rowOK 245 from ⟨kd_245, by decide⟩) hid (by rw [al_245]; rfl) dX12_dropsOthers_11 h (fun h => ?_)
      refine p_ic_ge C (X := y1.toInt) (Y := (σ.1 245 (σ.1 236 18).toInt.toNat).toInt) rfl rfl dX12_dropsOthers_12 (tgt := 64) rfl h (fun h => ?_) (fun h => ?_)
      ·
        exact a_vret Rt dX12_dropsOthers_64 (retv_eq (h.trans (congrArg some hR.symm)))
      ·
        refine a_iload_n C dX12_dropsOthers_15 (i := 1) rfl rfl ?_
        refine a_aload_n C dX12_dropsOthers_16 (i := 0) rfl rfl ?_
        refine a_get C fl_RX12_341 (i := 236) kd_236 (hid 236 (by decide)) (v := .int (σ.1 236 51)) rfl dX12_dropsOthers_17 ?_
        refine p_ic_eq C (X := y1.toInt) (Y := (σ.1 236 51).toInt) rfl rfl dX12_dropsOthers_20 (tgt := 58) rfl h (fun h => ?_) (fun h => ?_)
        ·
          exact j58 (f_X12_dropsOthers_2 n) (fun y1 σ h => ih y1 σ h) _ _ h
        ·
          refine a_aload_n C dX12_dropsOthers_23 (i := 0) rfl rfl ?_
          refine a_iload_n C dX12_dropsOthers_24 (i := 1) rfl rfl ?_
          refine a_iconst C dX12_dropsOthers_25 (v := 0) rfl ?_
          refine p_callVi C (As := [.int y1, .int 0]) (i := 236) kd_236 (hid 236 (by decide)) ⟨_, _, rfl⟩ (by decide) h (fun _ _ e => Z_X12_doesLand hid e) mi_X12_doesLand ml_RX12_324 rfl rfl (Nat.le_of_ble_eq_true rfl) (Nat.le_of_ble_eq_true rfl) (Nat.le_of_ble_eq_true rfl) dX12_dropsOthers_26 (fun r2 σ1 h => ?_)
          refine p_if_ne C (X := r2.toInt) rfl dX12_dropsOthers_29 (tgt := 35) rfl h (fun h => ?_) (fun h => ?_)
          ·
            refine a_aload_n C dX12_dropsOthers_35 (i := 0) rfl rfl ?_
            refine a_get C fl_RX12_110 (i := 236) kd_236 (hid 236 (by decide)) (v := .ref (ad 267)) rfl dX12_dropsOthers_36 ?_
            refine a_iload_n C dX12_dropsOthers_39 (i := 1) rfl rfl ?_
            refine a_iconst C dX12_dropsOthers_40 (v := 2) rfl ?_
            refine p_iast C (i := 267) (show rowOK 267 from ⟨kd_267, by decide⟩) hid (by rw [al_267]; rfl) dX12_dropsOthers_41 h (fun σ3 h => ?_)
            refine a_aload_n C dX12_dropsOthers_42 (i := 0) rfl rfl ?_
            refine a_get C fl_RX12_110 (i := 236) kd_236 (hid 236 (by decide)) (v := .ref (ad 267)) rfl dX12_dropsOthers_43 ?_
            refine a_bipush C dX12_dropsOthers_46 (v := 23) rfl ?_
            refine a_dup2 C dX12_dropsOthers_48 rfl rfl ?_
            refine p_ialdc C (i := 267) 23 (show rowOK 267 from ⟨kd_267, by decide⟩) hid (by decide) (by rw [al_267]; decide) dX12_dropsOthers_49 ?_
            refine a_iconst C dX12_dropsOthers_50 (v := 1) rfl ?_
            refine a_iadd C dX12_dropsOthers_51 ?_
            refine p_iastc C (i := 267) 23 (show rowOK 267 from ⟨kd_267, by decide⟩) hid (by decide) (by rw [al_267]; decide) dX12_dropsOthers_52 h (fun σ4 h => ?_)
            refine a_aload_n C dX12_dropsOthers_53 (i := 0) rfl rfl ?_
            refine a_iconst C dX12_dropsOthers_54 (v := 1) rfl ?_
            refine p_put C fp_RX12_344 (i := 236) kd_236 (hid 236 (by decide)) (nar_z (by decide)).1 (nar_z (by decide)).2 dX12_dropsOthers_55 h (fun σ5 h => ?_)
            exact j58 (f_X12_dropsOthers_2 n) (fun y1 σ h => ih y1 σ h) _ _ h
          ·
            refine a_goto C dX12_dropsOthers_32 (tgt := 58) rfl ?_
            exact j58 (f_X12_dropsOthers_2 n) (fun y1 σ h => ih y1 σ h) _ _ h
  refine a_iconst C dX12_dropsOthers_0 (v := 0) rfl ?_
  refine a_istore_n C dX12_dropsOthers_1 (i := 1) rfl (by decide) rfl (vs1 := [some (.ref (ad 236)), some (.int 0)]) rfl ?_
  exact j2 _ _ _ h
set_option maxHeartbeats 4000000 in
set_option maxRecDepth 100000 in
theorem Z_X12_isThrown {l : Launch} {D : va_G} {ids : List Nat} {ad : Nat → Nat} {ca : Nat → ClassId} {σ : HS} {x1 : Int32} {x2 : Int32} {x3 : Int32} {x4 : Int32} {s0 : HS} (hid : ∀ i, i < 277 → i ∈ ids) (h : f_X12_isThrown x1 x2 x3 x4 σ = some s0) : Kv l D ids ad ca yX12_isThrown cX12_isThrown 5 1 22 [.ref (ad 236), .int x1, .int x2, .int x3, .int x4] σ (fun σ1 => σ1 = s0) := by
  obtain ⟨R, hR⟩ : ∃ R, s0 = R := ⟨_, rfl⟩
  replace h := h.trans (congrArg some hR)
  refine Kv.of (by decide) (Nat.le_of_ble_eq_true rfl) 0 (fun Γ C Rt => ?_)
  show AW ids ad ca Γ 0 [some (.ref (ad 236)), some (.int x1), some (.int x2), some (.int x3), some (.int x4)] [] σ
  unfold f_X12_isThrown at h
  have j70 : ∀ (y1 : Int32) (y2 : Int32) (σ : HS), f_X12_isThrown_70 y1 y2 σ = some R → AW ids ad ca Γ 70 [some (.ref (ad 236)), some (.int y1), some (.int y2), none, none] [] σ := by
    intro y1 y2 σ h
    unfold f_X12_isThrown_70 at h
    refine a_aload_n C dX12_isThrown_70 (i := 0) rfl rfl ?_
    refine a_get C fl_RX12_110 (i := 236) kd_236 (hid 236 (by decide)) (v := .ref (ad 267)) rfl dX12_isThrown_71 ?_
    refine a_bipush C dX12_isThrown_74 (v := 7) rfl ?_
    refine a_iload_n C dX12_isThrown_76 (i := 1) rfl rfl ?_
    refine a_iadd C dX12_isThrown_77 ?_
    refine a_iload_n C dX12_isThrown_78 (i := 2) rfl rfl ?_
    refine p_iast C (i := 267) (show rowOK 267 from ⟨kd_267, by decide⟩) hid (by rw [al_267]; rfl) dX12_isThrown_79 h (fun σ1 h => ?_)
    exact a_vret Rt dX12_isThrown_80 (retv_eq (h.trans (congrArg some hR.symm)))
  refine a_aload_n C dX12_isThrown_0 (i := 0) rfl rfl ?_
  refine a_get C fl_RX12_110 (i := 236) kd_236 (hid 236 (by decide)) (v := .ref (ad 267)) rfl dX12_isThrown_1 ?_
  refine a_bipush C dX12_isThrown_4 (v := 25) rfl ?_
  refine a_dup2 C dX12_isThrown_6 rfl rfl ?_
  refine p_ialdc C (i := 267) 25 (show rowOK 267 from ⟨kd_267, by decide⟩) hid (by decide) (by rw [al_267]; decide) dX12_isThrown_7 ?_
  refine a_iload C dX12_isThrown_8 rfl ?_
  refine a_iadd C dX12_isThrown_10 ?_
  refine p_iastc C (i := 267) 25 (show rowOK 267 from ⟨kd_267, by decide⟩) hid (by decide) (by rw [al_267]; decide) dX12_isThrown_11 h (fun σ1 h => ?_)
  refine a_aload_n C dX12_isThrown_12 (i := 0) rfl rfl ?_
  refine a_get C fl_RX12_110 (i := 236) kd_236 (hid 236 (by decide)) (v := .ref (ad 267)) rfl dX12_isThrown_13 ?_
  refine a_bipush C dX12_isThrown_16 (v := 24) rfl ?_
  refine a_dup2 C dX12_isThrown_18 rfl rfl ?_
  refine p_ialdc C (i := 267) 24 (show rowOK 267 from ⟨kd_267, by decide⟩) hid (by decide) (by rw [al_267]; decide) dX12_isThrown_19 ?_
  refine a_iconst C dX12_isThrown_20 (v := 1) rfl ?_
  refine a_iadd C dX12_isThrown_21 ?_
  refine p_iastc C (i := 267) 24 (show rowOK 267 from ⟨kd_267, by decide⟩) hid (by decide) (by rw [al_267]; decide) dX12_isThrown_22 h (fun σ2 h => ?_)
  refine a_aload_n C dX12_isThrown_23 (i := 0) rfl rfl ?_
  refine a_get C fl_RX12_110 (i := 236) kd_236 (hid 236 (by decide)) (v := .ref (ad 267)) rfl dX12_isThrown_24 ?_
  refine a_bipush C dX12_isThrown_27 (v := 14) rfl ?_
  refine a_iload_n C dX12_isThrown_29 (i := 1) rfl rfl ?_
  refine a_iadd C dX12_isThrown_30 ?_
  refine a_dup2 C dX12_isThrown_31 rfl rfl ?_
  refine p_iald C (i := 267) (show rowOK 267 from ⟨kd_267, by decide⟩) hid (by rw [al_267]; rfl) dX12_isThrown_32 h (fun h => ?_)
  refine a_iconst C dX12_isThrown_33 (v := 1) rfl ?_
  refine a_iadd C dX12_isThrown_34 ?_
  refine p_iast C (i := 267) (show rowOK 267 from ⟨kd_267, by decide⟩) hid (by rw [al_267]; rfl) dX12_isThrown_35 h (fun σ3 h => ?_)
  refine a_aload_n C dX12_isThrown_36 (i := 0) rfl rfl ?_
  refine a_get C fl_RX12_110 (i := 236) kd_236 (hid 236 (by decide)) (v := .ref (ad 267)) rfl dX12_isThrown_37 ?_
  refine a_bipush C dX12_isThrown_40 (v := 22) rfl ?_
  refine a_aload_n C dX12_isThrown_42 (i := 0) rfl rfl ?_
  refine a_get C fl_RX12_110 (i := 236) kd_236 (hid 236 (by decide)) (v := .ref (ad 267)) rfl dX12_isThrown_43 ?_
  refine a_bipush C dX12_isThrown_46 (v := 22) rfl ?_
  refine p_ialdc C (i := 267) 22 (show rowOK 267 from ⟨kd_267, by decide⟩) hid (by decide) (by rw [al_267]; decide) dX12_isThrown_48 ?_
  refine a_iload_n C dX12_isThrown_49 (i := 3) rfl rfl ?_
  refine a_iadd C dX12_isThrown_50 ?_
  refine a_iconst C dX12_isThrown_51 (v := 0) rfl ?_
  refine a_sipush C dX12_isThrown_52 (v := 999) rfl ?_
  refine p_callSi C (As := [.int ((σ3.1 267 22) + x3), .int 0, .int 999]) h (fun _ _ e => Z_X12_held hid e) ms_X12_held ml_RX12_338 rfl rfl (Nat.le_of_ble_eq_true rfl) (Nat.le_of_ble_eq_true rfl) (Nat.le_of_ble_eq_true rfl) dX12_isThrown_55 (fun r5 σ4 h => ?_)
  refine p_iastc C (i := 267) 22 (show rowOK 267 from ⟨kd_267, by decide⟩) hid (by decide) (by rw [al_267]; decide) dX12_isThrown_58 h (fun σ6 h => ?_)
  refine a_iload_n C dX12_isThrown_59 (i := 2) rfl rfl ?_
  refine p_if_ne C (X := x2.toInt) rfl dX12_isThrown_60 (tgt := 70) rfl h (fun h => ?_) (fun h => ?_)
  ·
    refine AW.sub (vs' := [some (.ref (ad 236)), some (.int x1), some (.int x2), none, none]) (lsub_of (by simp [lsubB])) ?_
    exact j70 _ _ _ h
  ·
    refine a_aload_n C dX12_isThrown_63 (i := 0) rfl rfl ?_
    refine a_get C fl_RX12_110 (i := 236) kd_236 (hid 236 (by decide)) (v := .ref (ad 267)) rfl dX12_isThrown_64 ?_
    refine a_iload_n C dX12_isThrown_67 (i := 1) rfl rfl ?_
    refine a_iconst C dX12_isThrown_68 (v := 1) rfl ?_
    refine p_iast C (i := 267) (show rowOK 267 from ⟨kd_267, by decide⟩) hid (by rw [al_267]; rfl) dX12_isThrown_69 h (fun σ7 h => ?_)
    refine AW.sub (vs' := [some (.ref (ad 236)), some (.int x1), some (.int x2), none, none]) (lsub_of (by simp [lsubB])) ?_
    exact j70 _ _ _ h
set_option maxHeartbeats 4000000 in
set_option maxRecDepth 100000 in
theorem Z_X12_catches {l : Launch} {D : va_G} {ids : List Nat} {ad : Nat → Nat} {ca : Nat → ClassId} {σ : HS} {x1 : Int32} {s0 : HS} (hid : ∀ i, i < 277 → i ∈ ids) (h : f_X12_catches x1 σ = some s0) : Kv l D ids ad ca yX12_catches cX12_catches 6 3 76 [.ref (ad 236), .int x1] σ (fun σ1 => σ1 = s0) := by
  obtain ⟨R, hR⟩ : ∃ R, s0 = R := ⟨_, rfl⟩
  replace h := h.trans (congrArg some hR)
  refine Kv.of (by decide) (Nat.le_of_ble_eq_true rfl) 4 (fun Γ C Rt => ?_)
  show AW ids ad ca Γ 0 [some (.ref (ad 236)), some (.int x1), none, none, none, none] [] σ
  unfold f_X12_catches at h
  have j81 : ∀ (y1 : Int32) (y2 : Int32) (y4 : Int32) (y5 : Int32) (σ : HS), f_X12_catches_81 y1 y2 y4 y5 σ = some R → AW ids ad ca Γ 81 [some (.ref (ad 236)), some (.int y1), some (.int y2), none, some (.int y4), some (.int y5)] [] σ := by
    intro y1 y2 y4 y5 σ h
    unfold f_X12_catches_81 at h
    refine a_aload_n C dX12_catches_81 (i := 0) rfl rfl ?_
    refine a_iload_n C dX12_catches_82 (i := 1) rfl rfl ?_
    refine a_iload_n C dX12_catches_83 (i := 2) rfl rfl ?_
    refine a_iload C dX12_catches_84 rfl ?_
    refine a_iload C dX12_catches_86 rfl ?_
    refine p_callVv C (As := [.int y1, .int y2, .int y4, .int y5]) (i := 236) kd_236 (hid 236 (by decide)) ⟨_, _, rfl⟩ (by decide) h (fun _ e => Z_X12_isThrown hid e) mi_X12_isThrown ml_RX12_374 rfl rfl (Nat.le_of_ble_eq_true rfl) (Nat.le_of_ble_eq_true rfl) (Nat.le_of_ble_eq_true rfl) dX12_catches_88 (fun σ1 h => ?_)
    exact a_vret Rt dX12_catches_91 (retv_eq (h.trans (congrArg some hR.symm)))
  refine a_aload_n C dX12_catches_0 (i := 0) rfl rfl ?_
  refine p_callVi C (As := []) (i := 236) kd_236 (hid 236 (by decide)) ⟨_, _, rfl⟩ (by decide) h (fun _ _ e => Z_X12_heightNow hid e) mi_X12_heightNow ml_RX12_347 rfl rfl (Nat.le_of_ble_eq_true rfl) (Nat.le_of_ble_eq_true rfl) (Nat.le_of_ble_eq_true rfl) dX12_catches_1 (fun r2 σ1 h => ?_)
  refine a_istore_n C dX12_catches_4 (i := 2) rfl (by decide) rfl (vs1 := [some (.ref (ad 236)), some (.int x1), some (.int r2), none, none, none]) rfl ?_
  refine a_aload_n C dX12_catches_5 (i := 0) rfl rfl ?_
  refine a_iconst C dX12_catches_6 (v := 0) rfl ?_
  refine p_callVi C (As := [.int 0]) (i := 236) kd_236 (hid 236 (by decide)) ⟨_, _, rfl⟩ (by decide) h (fun _ _ e => Z_X12_thingsSo hid e) mi_X12_thingsSo ml_RX12_350 rfl rfl (Nat.le_of_ble_eq_true rfl) (Nat.le_of_ble_eq_true rfl) (Nat.le_of_ble_eq_true rfl) dX12_catches_7 (fun r4 σ3 h => ?_)
  refine p_callSi C (As := [.int r4]) h (fun _ _ e => Z_X12_bits hid e) ms_X12_bits ml_RX12_353 rfl rfl (Nat.le_of_ble_eq_true rfl) (Nat.le_of_ble_eq_true rfl) (Nat.le_of_ble_eq_true rfl) dX12_catches_10 (fun r6 σ5 h => ?_)
  refine a_istore_n C dX12_catches_13 (i := 3) rfl (by decide) rfl (vs1 := [some (.ref (ad 236)), some (.int x1), some (.int r2), some (.int r6), none, none]) rfl ?_
  refine a_aload_n C dX12_catches_14 (i := 0) rfl rfl ?_
  refine a_iload_n C dX12_catches_15 (i := 1) rfl rfl ?_
  refine a_iload_n C dX12_catches_16 (i := 2) rfl rfl ?_
  refine a_iload_n C dX12_catches_17 (i := 3) rfl rfl ?_
  refine p_callVi C (As := [.int x1, .int r2, .int r6]) (i := 236) kd_236 (hid 236 (by decide)) ⟨_, _, rfl⟩ (by decide) h (fun _ _ e => Z_X12_tiresBy hid e) mi_X12_tiresBy ml_RX12_356 rfl rfl (Nat.le_of_ble_eq_true rfl) (Nat.le_of_ble_eq_true rfl) (Nat.le_of_ble_eq_true rfl) dX12_catches_18 (fun r8 σ7 h => ?_)
  refine a_istore C dX12_catches_21 (by decide) rfl (vs1 := [some (.ref (ad 236)), some (.int x1), some (.int r2), some (.int r6), some (.int r8), none]) rfl ?_
  refine a_aload_n C dX12_catches_23 (i := 0) rfl rfl ?_
  refine a_iload_n C dX12_catches_24 (i := 1) rfl rfl ?_
  refine a_iload_n C dX12_catches_25 (i := 3) rfl rfl ?_
  refine p_callVi C (As := [.int x1, .int r6]) (i := 236) kd_236 (hid 236 (by decide)) ⟨_, _, rfl⟩ (by decide) h (fun _ _ e => Z_X12_paysOf hid e) mi_X12_paysOf ml_RX12_359 rfl rfl (Nat.le_of_ble_eq_true rfl) (Nat.le_of_ble_eq_true rfl) (Nat.le_of_ble_eq_true rfl) dX12_catches_26 (fun r10 σ9 h => ?_)
  refine a_istore C dX12_catches_29 (by decide) rfl (vs1 := [some (.ref (ad 236)), some (.int x1), some (.int r2), some (.int r6), some (.int r8), some (.int r10)]) rfl ?_
  refine a_aload_n C dX12_catches_31 (i := 0) rfl rfl ?_
  refine a_aload_n C dX12_catches_32 (i := 0) rfl rfl ?_
  refine a_iload_n C dX12_catches_33 (i := 1) rfl rfl ?_
  refine a_iload_n C dX12_catches_34 (i := 3) rfl rfl ?_
  refine p_callVi C (As := [.int x1, .int r6]) (i := 236) kd_236 (hid 236 (by decide)) ⟨_, _, rfl⟩ (by decide) h (fun _ _ e => Z_X12_forceOf hid e) mi_X12_forceOf ml_RX12_362 rfl rfl (Nat.le_of_ble_eq_true rfl) (Nat.le_of_ble_eq_true rfl) (Nat.le_of_ble_eq_true rfl) dX12_catches_35 (fun r12 σ11 h => ?_)
  refine p_put C fp_RX12_365 (i := 236) kd_236 (hid 236 (by decide)) rfl rfl dX12_catches_38 h (fun σ13 h => ?_)
  refine a_aload_n C dX12_catches_41 (i := 0) rfl rfl ?_
  refine a_get C fl_RX12_308 (i := 236) kd_236 (hid 236 (by decide)) (v := .int (σ13.1 236 50)) rfl dX12_catches_42 ?_
  refine p_if_ne C (X := (σ13.1 236 50).toInt) rfl dX12_catches_45 (tgt := 81) rfl h (fun h => ?_) (fun h => ?_)
  ·
    refine AW.sub (vs' := [some (.ref (ad 236)), some (.int x1), some (.int r2), none, some (.int r8), some (.int r10)]) (lsub_of (by simp [lsubB])) ?_
    exact j81 _ _ _ _ _ h
  ·
    refine a_aload_n C dX12_catches_48 (i := 0) rfl rfl ?_
    refine p_callVi C (As := []) (i := 236) kd_236 (hid 236 (by decide)) ⟨_, _, rfl⟩ (by decide) h (fun _ _ e => Z_X12_lotNow hid e) mi_X12_lotNow ml_RX12_368 rfl rfl (Nat.le_of_ble_eq_true rfl) (Nat.le_of_ble_eq_true rfl) (Nat.le_of_ble_eq_true rfl) dX12_catches_49 (fun r15 σ14 h => ?_)
    refine a_aload_n C dX12_catches_52 (i := 0) rfl rfl ?_
    refine a_iload_n C dX12_catches_53 (i := 1) rfl rfl ?_
    refine a_iload_n C dX12_catches_54 (i := 2) rfl rfl ?_
    refine a_iload_n C dX12_catches_55 (i := 3) rfl rfl ?_
    refine p_callVi C (As := [.int x1, .int r2, .int r6]) (i := 236) kd_236 (hid 236 (by decide)) ⟨_, _, rfl⟩ (by decide) h (fun _ _ e => Z_X12_dropsBy hid e) mi_X12_dropsBy ml_RX12_371 rfl rfl (Nat.le_of_ble_eq_true rfl) (Nat.le_of_ble_eq_true rfl) (Nat.le_of_ble_eq_true rfl) dX12_catches_56 (fun r17 σ16 h => ?_)
    refine p_ic_ge C (X := r15.toInt) (Y := r17.toInt) rfl rfl dX12_catches_59 (tgt := 81) rfl h (fun h => ?_) (fun h => ?_)
    ·
      refine AW.sub (vs' := [some (.ref (ad 236)), some (.int x1), some (.int r2), none, some (.int r8), some (.int r10)]) (lsub_of (by simp [lsubB])) ?_
      exact j81 _ _ _ _ _ h
    ·
      refine a_aload_n C dX12_catches_62 (i := 0) rfl rfl ?_
      refine a_get C fl_RX12_110 (i := 236) kd_236 (hid 236 (by decide)) (v := .ref (ad 267)) rfl dX12_catches_63 ?_
      refine a_iload_n C dX12_catches_66 (i := 1) rfl rfl ?_
      refine a_iconst C dX12_catches_67 (v := 2) rfl ?_
      refine p_iast C (i := 267) (show rowOK 267 from ⟨kd_267, by decide⟩) hid (by rw [al_267]; rfl) dX12_catches_68 h (fun σ18 h => ?_)
      refine a_aload_n C dX12_catches_69 (i := 0) rfl rfl ?_
      refine a_get C fl_RX12_110 (i := 236) kd_236 (hid 236 (by decide)) (v := .ref (ad 267)) rfl dX12_catches_70 ?_
      refine a_bipush C dX12_catches_73 (v := 23) rfl ?_
      refine a_dup2 C dX12_catches_75 rfl rfl ?_
      refine p_ialdc C (i := 267) 23 (show rowOK 267 from ⟨kd_267, by decide⟩) hid (by decide) (by rw [al_267]; decide) dX12_catches_76 ?_
      refine a_iconst C dX12_catches_77 (v := 1) rfl ?_
      refine a_iadd C dX12_catches_78 ?_
      refine p_iastc C (i := 267) 23 (show rowOK 267 from ⟨kd_267, by decide⟩) hid (by decide) (by rw [al_267]; decide) dX12_catches_79 h (fun σ19 h => ?_)
      exact a_vret Rt dX12_catches_80 (retv_eq (h.trans (congrArg some hR.symm)))
set_option maxHeartbeats 4000000 in
set_option maxRecDepth 100000 in
theorem Z_X12_beatGoes {l : Launch} {D : va_G} {ids : List Nat} {ad : Nat → Nat} {ca : Nat → ClassId} {σ : HS} {s0 : HS} (hid : ∀ i, i < 277 → i ∈ ids) (h : f_X12_beatGoes σ = some s0) : Kv l D ids ad ca yX12_beatGoes cX12_beatGoes 2 4 101 [.ref (ad 236)] σ (fun σ1 => σ1 = s0) := by
  obtain ⟨R, hR⟩ : ∃ R, s0 = R := ⟨_, rfl⟩
  replace h := h.trans (congrArg some hR)
  refine Kv.of (by decide) (Nat.le_of_ble_eq_true rfl) 1 (fun Γ C Rt => ?_)
  show AW ids ad ca Γ 0 [some (.ref (ad 236)), none] [] σ
  unfold f_X12_beatGoes at h
  have j108 : ∀ (k73 : Int32 → HS → Option (HS)) (hk73 : ∀ (y1 : Int32) (σ : HS), k73 y1 σ = some R → AW ids ad ca Γ 73 [some (.ref (ad 236)), some (.int y1)] [] σ) (y1 : Int32) (σ : HS), f_X12_beatGoes_108 k73 y1 σ = some R → AW ids ad ca Γ 108 [some (.ref (ad 236)), some (.int y1)] [] σ := by
    intro k73 hk73 y1 σ h
    unfold f_X12_beatGoes_108 at h
    refine p_iinc C (y := (y1 + 1)) (fun z1 => [some (.ref (ad 236)), some (.int z1)]) dX12_beatGoes_108 rfl rfl (by decide) rfl (fun _ => rfl) h (fun z1 h => ?_)
    refine a_goto C dX12_beatGoes_111 (tgt := 73) rfl ?_
    exact hk73 _ _ h
  have j73 : ∀ (n : Nat) (y1 : Int32) (σ : HS), f_X12_beatGoes_73 n y1 σ = some R → AW ids ad ca Γ 73 [some (.ref (ad 236)), some (.int y1)] [] σ := by
    intro n
    induction n with
    | zero => intro y1 σ h; exact nn h
    | succ n ih =>
      intro y1 σ h
      have h : b_X12_beatGoes_73 (f_X12_beatGoes_73 n) y1 σ = some R := h
      unfold b_X12_beatGoes_73 at h
      refine a_iload_n C dX12_beatGoes_73 (i := 1) rfl rfl ?_
      refine a_aload_n C dX12_beatGoes_74 (i := 0) rfl rfl ?_
      refine a_get C fl_RX12_43 (i := 236) kd_236 (hid 236 (by decide)) (v := .ref (ad 245)) rfl dX12_beatGoes_75 ?_
      refine a_aload_n C dX12_beatGoes_78 (i := 0) rfl rfl ?_
      refine a_get C fl_RX12_221 (i := 236) kd_236 (hid 236 (by decide)) (v := .int (σ.1 236 18)) rfl dX12_beatGoes_79 ?_
      refine p_iald C (i := 245) (show rowOK 245 from ⟨kd_245, by decide⟩) hid (by rw [al_245]; rfl) dX12_beatGoes_82 h (fun h => ?_)
      refine p_ic_ge C (X := y1.toInt) (Y := (σ.1 245 (σ.1 236 18).toInt.toNat).toInt) rfl rfl dX12_beatGoes_83 (tgt := 114) rfl h (fun h => ?_) (fun h => ?_)
      ·
        refine a_aload_n C dX12_beatGoes_114 (i := 0) rfl rfl ?_
        refine a_get C fl_RX12_110 (i := 236) kd_236 (hid 236 (by decide)) (v := .ref (ad 267)) rfl dX12_beatGoes_115 ?_
        refine a_bipush C dX12_beatGoes_118 (v := 21) rfl ?_
        refine a_dup2 C dX12_beatGoes_120 rfl rfl ?_
        refine p_ialdc C (i := 267) 21 (show rowOK 267 from ⟨kd_267, by decide⟩) hid (by decide) (by rw [al_267]; decide) dX12_beatGoes_121 ?_
        refine a_iconst C dX12_beatGoes_122 (v := 1) rfl ?_
        refine a_iadd C dX12_beatGoes_123 ?_
        refine p_iastc C (i := 267) 21 (show rowOK 267 from ⟨kd_267, by decide⟩) hid (by decide) (by rw [al_267]; decide) dX12_beatGoes_124 h (fun σ1 h => ?_)
        refine a_aload_n C dX12_beatGoes_125 (i := 0) rfl rfl ?_
        refine a_get C fl_RX12_110 (i := 236) kd_236 (hid 236 (by decide)) (v := .ref (ad 267)) rfl dX12_beatGoes_126 ?_
        refine a_bipush C dX12_beatGoes_129 (v := 28) rfl ?_
        refine a_iconst C dX12_beatGoes_131 (v := (-1)) rfl ?_
        refine p_iastc C (i := 267) 28 (show rowOK 267 from ⟨kd_267, by decide⟩) hid (by decide) (by rw [al_267]; decide) dX12_beatGoes_132 h (fun σ2 h => ?_)
        exact a_vret Rt dX12_beatGoes_133 (retv_eq (h.trans (congrArg some hR.symm)))
      ·
        refine a_aload_n C dX12_beatGoes_86 (i := 0) rfl rfl ?_
        refine a_get C fl_RX12_110 (i := 236) kd_236 (hid 236 (by decide)) (v := .ref (ad 267)) rfl dX12_beatGoes_87 ?_
        refine a_iload_n C dX12_beatGoes_90 (i := 1) rfl rfl ?_
        refine p_iald C (i := 267) (show rowOK 267 from ⟨kd_267, by decide⟩) hid (by rw [al_267]; rfl) dX12_beatGoes_91 h (fun h => ?_)
        refine p_if_ne C (X := (σ.1 267 y1.toInt.toNat).toInt) rfl dX12_beatGoes_92 (tgt := 108) rfl h (fun h => ?_) (fun h => ?_)
        ·
          exact j108 (f_X12_beatGoes_73 n) (fun y1 σ h => ih y1 σ h) _ _ h
        ·
          refine a_aload_n C dX12_beatGoes_95 (i := 0) rfl rfl ?_
          refine a_get C fl_RX12_110 (i := 236) kd_236 (hid 236 (by decide)) (v := .ref (ad 267)) rfl dX12_beatGoes_96 ?_
          refine a_bipush C dX12_beatGoes_99 (v := 7) rfl ?_
          refine a_iload_n C dX12_beatGoes_101 (i := 1) rfl rfl ?_
          refine a_iadd C dX12_beatGoes_102 ?_
          refine a_dup2 C dX12_beatGoes_103 rfl rfl ?_
          refine p_iald C (i := 267) (show rowOK 267 from ⟨kd_267, by decide⟩) hid (by rw [al_267]; rfl) dX12_beatGoes_104 h (fun h => ?_)
          refine a_iconst C dX12_beatGoes_105 (v := 1) rfl ?_
          refine a_isub C dX12_beatGoes_106 ?_
          refine p_iast C (i := 267) (show rowOK 267 from ⟨kd_267, by decide⟩) hid (by rw [al_267]; rfl) dX12_beatGoes_107 h (fun σ3 h => ?_)
          exact j108 (f_X12_beatGoes_73 n) (fun y1 σ h => ih y1 σ h) _ _ h
  have j71 : ∀ (σ : HS), f_X12_beatGoes_71 σ = some R → AW ids ad ca Γ 71 [some (.ref (ad 236)), none] [] σ := by
    intro σ h
    unfold f_X12_beatGoes_71 at h
    refine a_iconst C dX12_beatGoes_71 (v := 0) rfl ?_
    refine a_istore_n C dX12_beatGoes_72 (i := 1) rfl (by decide) rfl (vs1 := [some (.ref (ad 236)), some (.int 0)]) rfl ?_
    exact j73 _ _ _ h
  refine a_aload_n C dX12_beatGoes_0 (i := 0) rfl rfl ?_
  refine a_aload_n C dX12_beatGoes_1 (i := 0) rfl rfl ?_
  refine p_callVi C (As := []) (i := 236) kd_236 (hid 236 (by decide)) ⟨_, _, rfl⟩ (by decide) h (fun _ _ e => Z_X12_catchesNow hid e) mi_X12_catchesNow ml_RX12_378 rfl rfl (Nat.le_of_ble_eq_true rfl) (Nat.le_of_ble_eq_true rfl) (Nat.le_of_ble_eq_true rfl) dX12_beatGoes_2 (fun r2 σ1 h => ?_)
  refine p_put C fp_RX12_341 (i := 236) kd_236 (hid 236 (by decide)) rfl rfl dX12_beatGoes_5 h (fun σ3 h => ?_)
  refine a_aload_n C dX12_beatGoes_8 (i := 0) rfl rfl ?_
  refine a_iconst C dX12_beatGoes_9 (v := 0) rfl ?_
  refine p_put C fp_RX12_344 (i := 236) kd_236 (hid 236 (by decide)) (nar_z (by decide)).1 (nar_z (by decide)).2 dX12_beatGoes_10 h (fun σ4 h => ?_)
  refine a_aload_n C dX12_beatGoes_13 (i := 0) rfl rfl ?_
  refine a_iconst C dX12_beatGoes_14 (v := 0) rfl ?_
  refine p_put C fp_RX12_365 (i := 236) kd_236 (hid 236 (by decide)) rfl rfl dX12_beatGoes_15 h (fun σ5 h => ?_)
  refine a_aload_n C dX12_beatGoes_18 (i := 0) rfl rfl ?_
  refine a_get C fl_RX12_341 (i := 236) kd_236 (hid 236 (by decide)) (v := .int (σ5.1 236 51)) rfl dX12_beatGoes_19 ?_
  refine p_if_ge C (X := (σ5.1 236 51).toInt) rfl dX12_beatGoes_22 (tgt := 59) rfl h (fun h => ?_) (fun h => ?_)
  ·
    refine a_aload_n C dX12_beatGoes_59 (i := 0) rfl rfl ?_
    refine p_callVv C (As := []) (i := 236) kd_236 (hid 236 (by decide)) ⟨_, _, rfl⟩ (by decide) h (fun _ e => Z_X12_dropsOthers hid e) mi_X12_dropsOthers ml_RX12_381 rfl rfl (Nat.le_of_ble_eq_true rfl) (Nat.le_of_ble_eq_true rfl) (Nat.le_of_ble_eq_true rfl) dX12_beatGoes_60 (fun σ6 h => ?_)
    refine a_aload_n C dX12_beatGoes_63 (i := 0) rfl rfl ?_
    refine a_aload_n C dX12_beatGoes_64 (i := 0) rfl rfl ?_
    refine a_get C fl_RX12_341 (i := 236) kd_236 (hid 236 (by decide)) (v := .int (σ6.1 236 51)) rfl dX12_beatGoes_65 ?_
    refine p_callVv C (As := [.int (σ6.1 236 51)]) (i := 236) kd_236 (hid 236 (by decide)) ⟨_, _, rfl⟩ (by decide) h (fun _ e => Z_X12_catches hid e) mi_X12_catches ml_RX12_384 rfl rfl (Nat.le_of_ble_eq_true rfl) (Nat.le_of_ble_eq_true rfl) (Nat.le_of_ble_eq_true rfl) dX12_beatGoes_68 (fun σ8 h => ?_)
    exact j71 _ h
  ·
    refine a_aload_n C dX12_beatGoes_25 (i := 0) rfl rfl ?_
    refine a_get C fl_RX12_110 (i := 236) kd_236 (hid 236 (by decide)) (v := .ref (ad 267)) rfl dX12_beatGoes_26 ?_
    refine a_bipush C dX12_beatGoes_29 (v := 22) rfl ?_
    refine a_aload_n C dX12_beatGoes_31 (i := 0) rfl rfl ?_
    refine a_get C fl_RX12_110 (i := 236) kd_236 (hid 236 (by decide)) (v := .ref (ad 267)) rfl dX12_beatGoes_32 ?_
    refine a_bipush C dX12_beatGoes_35 (v := 22) rfl ?_
    refine p_ialdc C (i := 267) 22 (show rowOK 267 from ⟨kd_267, by decide⟩) hid (by decide) (by rw [al_267]; decide) dX12_beatGoes_37 ?_
    refine a_aload_n C dX12_beatGoes_38 (i := 0) rfl rfl ?_
    refine a_get C fl_RX12_64 (i := 236) kd_236 (hid 236 (by decide)) (v := .ref (ad 252)) rfl dX12_beatGoes_39 ?_
    refine a_aload_n C dX12_beatGoes_42 (i := 0) rfl rfl ?_
    refine a_get C fl_RX12_221 (i := 236) kd_236 (hid 236 (by decide)) (v := .int (σ5.1 236 18)) rfl dX12_beatGoes_43 ?_
    refine p_iald C (i := 252) (show rowOK 252 from ⟨kd_252, by decide⟩) hid (by rw [al_252]; rfl) dX12_beatGoes_46 h (fun h => ?_)
    refine a_isub C dX12_beatGoes_47 ?_
    refine a_iconst C dX12_beatGoes_48 (v := 0) rfl ?_
    refine a_sipush C dX12_beatGoes_49 (v := 999) rfl ?_
    refine p_callSi C (As := [.int ((σ5.1 267 22) - (σ5.1 252 (σ5.1 236 18).toInt.toNat)), .int 0, .int 999]) h (fun _ _ e => Z_X12_held hid e) ms_X12_held ml_RX12_338 rfl rfl (Nat.le_of_ble_eq_true rfl) (Nat.le_of_ble_eq_true rfl) (Nat.le_of_ble_eq_true rfl) dX12_beatGoes_52 (fun r11 σ10 h => ?_)
    refine p_iastc C (i := 267) 22 (show rowOK 267 from ⟨kd_267, by decide⟩) hid (by decide) (by rw [al_267]; decide) dX12_beatGoes_55 h (fun σ12 h => ?_)
    refine a_goto C dX12_beatGoes_56 (tgt := 71) rfl ?_
    exact j71 _ h
set_option maxHeartbeats 4000000 in
set_option maxRecDepth 100000 in
theorem Z_X12_goes {l : Launch} {D : va_G} {ids : List Nat} {ad : Nat → Nat} {ca : Nat → ClassId} {σ : HS} {x1 : Int32} {s0 : HS} (hid : ∀ i, i < 277 → i ∈ ids) (h : f_X12_goes x1 σ = some s0) : Kv l D ids ad ca yX12_goes cX12_goes 3 5 122 [.ref (ad 236), .int x1] σ (fun σ1 => σ1 = s0) := by
  obtain ⟨R, hR⟩ : ∃ R, s0 = R := ⟨_, rfl⟩
  replace h := h.trans (congrArg some hR)
  refine Kv.of (by decide) (Nat.le_of_ble_eq_true rfl) 1 (fun Γ C Rt => ?_)
  show AW ids ad ca Γ 0 [some (.ref (ad 236)), some (.int x1), none] [] σ
  unfold f_X12_goes at h
  have j2 : ∀ (n : Nat) (y1 : Int32) (y2 : Int32) (σ : HS), f_X12_goes_2 n y1 y2 σ = some R → AW ids ad ca Γ 2 [some (.ref (ad 236)), some (.int y1), some (.int y2)] [] σ := by
    intro n
    induction n with
    | zero => intro y1 y2 σ h; exact nn h
    | succ n ih =>
      intro y1 y2 σ h
      have h : b_X12_goes_2 (f_X12_goes_2 n) y1 y2 σ = some R := h
      unfold b_X12_goes_2 at h
      refine a_iload_n C dX12_goes_2 (i := 2) rfl rfl ?_
      refine a_iload_n C dX12_goes_3 (i := 1) rfl rfl ?_
      refine p_ic_ge C (X := y2.toInt) (Y := y1.toInt) rfl rfl dX12_goes_4 (tgt := 17) rfl h (fun h => ?_) (fun h => ?_)
      ·
        exact a_vret Rt dX12_goes_17 (retv_eq (h.trans (congrArg some hR.symm)))
      ·
        refine a_aload_n C dX12_goes_7 (i := 0) rfl rfl ?_
        refine p_callVv C (As := []) (i := 236) kd_236 (hid 236 (by decide)) ⟨_, _, rfl⟩ (by decide) h (fun _ e => Z_X12_beatGoes hid e) mi_X12_beatGoes ml_RX12_387 rfl rfl (Nat.le_of_ble_eq_true rfl) (Nat.le_of_ble_eq_true rfl) (Nat.le_of_ble_eq_true rfl) dX12_goes_8 (fun σ1 h => ?_)
        refine p_iinc C (y := (y2 + 1)) (fun z3 => [some (.ref (ad 236)), some (.int y1), some (.int z3)]) dX12_goes_11 rfl rfl (by decide) rfl (fun _ => rfl) h (fun z3 h => ?_)
        refine a_goto C dX12_goes_14 (tgt := 2) rfl ?_
        exact ih _ _ _ h
  refine a_iconst C dX12_goes_0 (v := 0) rfl ?_
  refine a_istore_n C dX12_goes_1 (i := 2) rfl (by decide) rfl (vs1 := [some (.ref (ad 236)), some (.int x1), some (.int 0)]) rfl ?_
  exact j2 _ _ _ _ h
set_option maxHeartbeats 4000000 in
set_option maxRecDepth 100000 in
theorem Z_X12_thing {l : Launch} {D : va_G} {ids : List Nat} {ad : Nat → Nat} {ca : Nat → ClassId} {σ : HS} {x1 : Int32} {x2 : Int32} {r0 : Int32} {s0 : HS} (hid : ∀ i, i < 277 → i ∈ ids) (h : f_X12_thing x1 x2 σ = some (r0, s0)) : Ki l D ids ad ca yX12_thing cX12_thing 3 .int 2 43 [.ref (ad 236), .int x1, .int x2] σ (fun r σ1 => r = r0 ∧ σ1 = s0) := by
  obtain ⟨R, hR⟩ : ∃ R, (r0, s0) = R := ⟨_, rfl⟩
  replace h := h.trans (congrArg some hR)
  refine Ki.of (by decide) (Nat.le_of_ble_eq_true rfl) 0 (fun Γ C Rt => ?_)
  show AW ids ad ca Γ 0 [some (.ref (ad 236)), some (.int x1), some (.int x2)] [] σ
  unfold f_X12_thing at h
  refine a_aload_n C dX12_thing_0 (i := 0) rfl rfl ?_
  refine a_iload_n C dX12_thing_1 (i := 1) rfl rfl ?_
  refine p_callVi C (As := [.int x1]) (i := 236) kd_236 (hid 236 (by decide)) ⟨_, _, rfl⟩ (by decide) h (fun _ _ e => Z_X12_isThing hid e) mi_X12_isThing ml_RX12_390 rfl rfl (Nat.le_of_ble_eq_true rfl) (Nat.le_of_ble_eq_true rfl) (Nat.le_of_ble_eq_true rfl) dX12_thing_2 (fun r2 σ1 h => ?_)
  refine p_if_ne C (X := r2.toInt) rfl dX12_thing_5 (tgt := 10) rfl h (fun h => ?_) (fun h => ?_)
  ·
    refine a_iload_n C dX12_thing_10 (i := 2) rfl rfl ?_
    refine ite_k h (fun c1 h => ?_) (fun c1 h => ?_)
    ·
      refine a_tableIn C dX12_thing_11 (by omega) (by omega) (by rw [c1]; rfl) (tgt := 44) rfl ?_
      refine a_aload_n C dX12_thing_44 (i := 0) rfl rfl ?_
      refine a_get C fl_RX12_46 (i := 236) kd_236 (hid 236 (by decide)) (v := .ref (ad 246)) rfl dX12_thing_45 ?_
      refine a_bipush C dX12_thing_48 (v := 7) rfl ?_
      refine a_aload_n C dX12_thing_50 (i := 0) rfl rfl ?_
      refine a_get C fl_RX12_221 (i := 236) kd_236 (hid 236 (by decide)) (v := .int (σ1.1 236 18)) rfl dX12_thing_51 ?_
      refine a_imul C dX12_thing_54 ?_
      refine a_iload_n C dX12_thing_55 (i := 1) rfl rfl ?_
      refine a_iadd C dX12_thing_56 ?_
      refine p_iald C (i := 246) (show rowOK 246 from ⟨kd_246, by decide⟩) hid (by rw [al_246]; rfl) dX12_thing_57 h (fun h => ?_)
      exact a_iret Rt dX12_thing_58 rfl (ret_eq (h.trans (congrArg some hR.symm)))
    ·
      refine ite_k h (fun c2 h => ?_) (fun c2 h => ?_)
      ·
        refine a_tableIn C dX12_thing_11 (by omega) (by omega) (by rw [c2]; rfl) (tgt := 59) rfl ?_
        refine a_aload_n C dX12_thing_59 (i := 0) rfl rfl ?_
        refine a_get C fl_RX12_49 (i := 236) kd_236 (hid 236 (by decide)) (v := .ref (ad 247)) rfl dX12_thing_60 ?_
        refine a_bipush C dX12_thing_63 (v := 7) rfl ?_
        refine a_aload_n C dX12_thing_65 (i := 0) rfl rfl ?_
        refine a_get C fl_RX12_221 (i := 236) kd_236 (hid 236 (by decide)) (v := .int (σ1.1 236 18)) rfl dX12_thing_66 ?_
        refine a_imul C dX12_thing_69 ?_
        refine a_iload_n C dX12_thing_70 (i := 1) rfl rfl ?_
        refine a_iadd C dX12_thing_71 ?_
        refine p_iald C (i := 247) (show rowOK 247 from ⟨kd_247, by decide⟩) hid (by rw [al_247]; rfl) dX12_thing_72 h (fun h => ?_)
        exact a_iret Rt dX12_thing_73 rfl (ret_eq (h.trans (congrArg some hR.symm)))
      ·
        refine ite_k h (fun c3 h => ?_) (fun c3 h => ?_)
        ·
          refine a_tableIn C dX12_thing_11 (by omega) (by omega) (by rw [c3]; rfl) (tgt := 74) rfl ?_
          refine a_aload_n C dX12_thing_74 (i := 0) rfl rfl ?_
          refine a_get C fl_RX12_107 (i := 236) kd_236 (hid 236 (by decide)) (v := .ref (ad 266)) rfl dX12_thing_75 ?_
          refine a_iload_n C dX12_thing_78 (i := 1) rfl rfl ?_
          refine p_iald C (i := 266) (show rowOK 266 from ⟨kd_266, by decide⟩) hid (by rw [al_266]; rfl) dX12_thing_79 h (fun h => ?_)
          exact a_iret Rt dX12_thing_80 rfl (ret_eq (h.trans (congrArg some hR.symm)))
        ·
          refine ite_k h (fun c4 h => ?_) (fun c4 h => ?_)
          ·
            refine a_tableIn C dX12_thing_11 (by omega) (by omega) (by rw [c4]; rfl) (tgt := 81) rfl ?_
            refine a_aload_n C dX12_thing_81 (i := 0) rfl rfl ?_
            refine a_get C fl_RX12_107 (i := 236) kd_236 (hid 236 (by decide)) (v := .ref (ad 266)) rfl dX12_thing_82 ?_
            refine a_iload_n C dX12_thing_85 (i := 1) rfl rfl ?_
            refine p_iald C (i := 266) (show rowOK 266 from ⟨kd_266, by decide⟩) hid (by rw [al_266]; rfl) dX12_thing_86 h (fun h => ?_)
            refine p_if_ne C (X := (σ1.1 266 x1.toInt.toNat).toInt) rfl dX12_thing_87 (tgt := 102) rfl h (fun h => ?_) (fun h => ?_)
            ·
              refine a_bipush C dX12_thing_102 (v := (-2)) rfl ?_
              exact a_iret Rt dX12_thing_104 rfl (ret_eq (h.trans (congrArg some hR.symm)))
            ·
              refine a_aload_n C dX12_thing_90 (i := 0) rfl rfl ?_
              refine a_get C fl_RX12_107 (i := 236) kd_236 (hid 236 (by decide)) (v := .ref (ad 266)) rfl dX12_thing_91 ?_
              refine a_bipush C dX12_thing_94 (v := 7) rfl ?_
              refine a_iload_n C dX12_thing_96 (i := 1) rfl rfl ?_
              refine a_iadd C dX12_thing_97 ?_
              refine p_iald C (i := 266) (show rowOK 266 from ⟨kd_266, by decide⟩) hid (by rw [al_266]; rfl) dX12_thing_98 h (fun h => ?_)
              refine a_goto C dX12_thing_99 (tgt := 104) rfl ?_
              exact a_iret Rt dX12_thing_104 rfl (ret_eq (h.trans (congrArg some hR.symm)))
          ·
            refine ite_k h (fun c5 h => ?_) (fun c5 h => ?_)
            ·
              refine a_tableIn C dX12_thing_11 (by omega) (by omega) (by rw [c5]; rfl) (tgt := 105) rfl ?_
              refine a_aload_n C dX12_thing_105 (i := 0) rfl rfl ?_
              refine a_get C fl_RX12_107 (i := 236) kd_236 (hid 236 (by decide)) (v := .ref (ad 266)) rfl dX12_thing_106 ?_
              refine a_bipush C dX12_thing_109 (v := 14) rfl ?_
              refine a_iload_n C dX12_thing_111 (i := 1) rfl rfl ?_
              refine a_iadd C dX12_thing_112 ?_
              refine p_iald C (i := 266) (show rowOK 266 from ⟨kd_266, by decide⟩) hid (by rw [al_266]; rfl) dX12_thing_113 h (fun h => ?_)
              exact a_iret Rt dX12_thing_114 rfl (ret_eq (h.trans (congrArg some hR.symm)))
            ·
              refine a_tableOut C dX12_thing_11 (by omega) (tgt := 115) rfl ?_
              refine a_iconst C dX12_thing_115 (v := (-1)) rfl ?_
              exact a_iret Rt dX12_thing_116 rfl (ret_eq (h.trans (congrArg some hR.symm)))
  ·
    refine a_iconst C dX12_thing_8 (v := (-1)) rfl ?_
    exact a_iret Rt dX12_thing_9 rfl (ret_eq (h.trans (congrArg some hR.symm)))
set_option maxHeartbeats 4000000 in
set_option maxRecDepth 100000 in
theorem Z_X12_pattern {l : Launch} {D : va_G} {ids : List Nat} {ad : Nat → Nat} {ca : Nat → ClassId} {σ : HS} {x1 : Int32} {x2 : Int32} {r0 : Int32} {s0 : HS} (hid : ∀ i, i < 277 → i ∈ ids) (h : f_X12_pattern x1 x2 σ = some (r0, s0)) : Ki l D ids ad ca yX12_pattern cX12_pattern 3 .int 2 43 [.ref (ad 236), .int x1, .int x2] σ (fun r σ1 => r = r0 ∧ σ1 = s0) := by
  obtain ⟨R, hR⟩ : ∃ R, (r0, s0) = R := ⟨_, rfl⟩
  replace h := h.trans (congrArg some hR)
  refine Ki.of (by decide) (Nat.le_of_ble_eq_true rfl) 0 (fun Γ C Rt => ?_)
  show AW ids ad ca Γ 0 [some (.ref (ad 236)), some (.int x1), some (.int x2)] [] σ
  unfold f_X12_pattern at h
  refine a_aload_n C dX12_pattern_0 (i := 0) rfl rfl ?_
  refine a_iload_n C dX12_pattern_1 (i := 1) rfl rfl ?_
  refine p_callVi C (As := [.int x1]) (i := 236) kd_236 (hid 236 (by decide)) ⟨_, _, rfl⟩ (by decide) h (fun _ _ e => Z_X12_isPattern hid e) mi_X12_isPattern ml_RX12_393 rfl rfl (Nat.le_of_ble_eq_true rfl) (Nat.le_of_ble_eq_true rfl) (Nat.le_of_ble_eq_true rfl) dX12_pattern_2 (fun r2 σ1 h => ?_)
  refine p_if_eq C (X := r2.toInt) rfl dX12_pattern_5 (tgt := 23) rfl h (fun h => ?_) (fun h => ?_)
  ·
    refine a_iconst C dX12_pattern_23 (v := (-1)) rfl ?_
    exact a_iret Rt dX12_pattern_24 rfl (ret_eq (h.trans (congrArg some hR.symm)))
  ·
    refine a_iload_n C dX12_pattern_8 (i := 2) rfl rfl ?_
    refine a_iconst C dX12_pattern_9 (v := (-1)) rfl ?_
    refine a_aload_n C dX12_pattern_10 (i := 0) rfl rfl ?_
    refine a_iload_n C dX12_pattern_11 (i := 1) rfl rfl ?_
    refine p_callVi C (As := [.int x1]) (i := 236) kd_236 (hid 236 (by decide)) ⟨_, _, rfl⟩ (by decide) h (fun _ _ e => Z_X12_lengthOf hid e) mi_X12_lengthOf ml_RX12_318 rfl rfl (Nat.le_of_ble_eq_true rfl) (Nat.le_of_ble_eq_true rfl) (Nat.le_of_ble_eq_true rfl) dX12_pattern_12 (fun r4 σ3 h => ?_)
    refine a_iconst C dX12_pattern_15 (v := 1) rfl ?_
    refine a_isub C dX12_pattern_16 ?_
    refine p_callSi C (As := [.int x2, .int (-1), .int (r4 - (1 : Int32))]) h (fun _ _ e => Z_X12_in hid e) ms_X12_in ml_RX12_301 rfl rfl (Nat.le_of_ble_eq_true rfl) (Nat.le_of_ble_eq_true rfl) (Nat.le_of_ble_eq_true rfl) dX12_pattern_17 (fun r6 σ5 h => ?_)
    refine p_if_ne C (X := r6.toInt) rfl dX12_pattern_20 (tgt := 25) rfl h (fun h => ?_) (fun h => ?_)
    ·
      refine a_iload_n C dX12_pattern_25 (i := 2) rfl rfl ?_
      refine a_iconst C dX12_pattern_26 (v := (-1)) rfl ?_
      refine p_ic_ne C (X := x2.toInt) (Y := (-1)) rfl (by decide) dX12_pattern_27 (tgt := 38) rfl h (fun h => ?_) (fun h => ?_)
      ·
        refine a_aload_n C dX12_pattern_38 (i := 0) rfl rfl ?_
        refine a_iload_n C dX12_pattern_39 (i := 1) rfl rfl ?_
        refine a_iload_n C dX12_pattern_40 (i := 2) rfl rfl ?_
        refine p_callVi C (As := [.int x1, .int x2]) (i := 236) kd_236 (hid 236 (by decide)) ⟨_, _, rfl⟩ (by decide) h (fun _ _ e => Z_X12_heightAt hid e) mi_X12_heightAt ml_RX12_321 rfl rfl (Nat.le_of_ble_eq_true rfl) (Nat.le_of_ble_eq_true rfl) (Nat.le_of_ble_eq_true rfl) dX12_pattern_41 (fun r8 σ7 h => ?_)
        exact a_iret Rt dX12_pattern_44 rfl (ret_eq (h.trans (congrArg some hR.symm)))
      ·
        refine a_aload_n C dX12_pattern_30 (i := 0) rfl rfl ?_
        refine a_iload_n C dX12_pattern_31 (i := 1) rfl rfl ?_
        refine p_callVi C (As := [.int x1]) (i := 236) kd_236 (hid 236 (by decide)) ⟨_, _, rfl⟩ (by decide) h (fun _ _ e => Z_X12_lengthOf hid e) mi_X12_lengthOf ml_RX12_318 rfl rfl (Nat.le_of_ble_eq_true rfl) (Nat.le_of_ble_eq_true rfl) (Nat.le_of_ble_eq_true rfl) dX12_pattern_32 (fun r10 σ9 h => ?_)
        refine a_goto C dX12_pattern_35 (tgt := 44) rfl ?_
        exact a_iret Rt dX12_pattern_44 rfl (ret_eq (h.trans (congrArg some hR.symm)))
    ·
      refine a_iconst C dX12_pattern_23 (v := (-1)) rfl ?_
      exact a_iret Rt dX12_pattern_24 rfl (ret_eq (h.trans (congrArg some hR.symm)))
set_option maxHeartbeats 4000000 in
set_option maxRecDepth 100000 in
theorem Z_X12_tells {l : Launch} {D : va_G} {ids : List Nat} {ad : Nat → Nat} {ca : Nat → ClassId} {σ : HS} {x1 : Int32} {x2 : Int32} {x3 : Int32} {r0 : Int32} {s0 : HS} (hid : ∀ i, i < 277 → i ∈ ids) (h : f_X12_tells x1 x2 x3 σ = some (r0, s0)) : Ki l D ids ad ca yX12_tells cX12_tells 5 .int 3 76 [.ref (ad 236), .int x1, .int x2, .int x3] σ (fun r σ1 => r = r0 ∧ σ1 = s0) := by
  obtain ⟨R, hR⟩ : ∃ R, (r0, s0) = R := ⟨_, rfl⟩
  replace h := h.trans (congrArg some hR)
  refine Ki.of (by decide) (Nat.le_of_ble_eq_true rfl) 1 (fun Γ C Rt => ?_)
  show AW ids ad ca Γ 0 [some (.ref (ad 236)), some (.int x1), some (.int x2), some (.int x3), none] [] σ
  unfold f_X12_tells at h
  have j35 : ∀ (y1 : Int32) (y2 : Int32) (y3 : Int32) (σ : HS), f_X12_tells_35 y1 y2 y3 σ = some R → AW ids ad ca Γ 35 [some (.ref (ad 236)), some (.int y1), some (.int y2), some (.int y3), none] [] σ := by
    intro y1 y2 y3 σ h
    unfold f_X12_tells_35 at h
    refine a_aload_n C dX12_tells_35 (i := 0) rfl rfl ?_
    refine p_callVv C (As := []) (i := 236) kd_236 (hid 236 (by decide)) ⟨_, _, rfl⟩ (by decide) h (fun _ e => Z_X12_copies hid e) mi_X12_copies ml_RX12_311 rfl rfl (Nat.le_of_ble_eq_true rfl) (Nat.le_of_ble_eq_true rfl) (Nat.le_of_ble_eq_true rfl) dX12_tells_36 (fun σ1 h => ?_)
    refine a_aload_n C dX12_tells_39 (i := 0) rfl rfl ?_
    refine a_iconst C dX12_tells_40 (v := 0) rfl ?_
    refine p_callVi C (As := [.int 0]) (i := 236) kd_236 (hid 236 (by decide)) ⟨_, _, rfl⟩ (by decide) h (fun _ _ e => Z_X12_thingsSo hid e) mi_X12_thingsSo ml_RX12_350 rfl rfl (Nat.le_of_ble_eq_true rfl) (Nat.le_of_ble_eq_true rfl) (Nat.le_of_ble_eq_true rfl) dX12_tells_41 (fun r4 σ3 h => ?_)
    refine p_callSi C (As := [.int r4]) h (fun _ _ e => Z_X12_bits hid e) ms_X12_bits ml_RX12_353 rfl rfl (Nat.le_of_ble_eq_true rfl) (Nat.le_of_ble_eq_true rfl) (Nat.le_of_ble_eq_true rfl) dX12_tells_44 (fun r6 σ5 h => ?_)
    refine a_istore C dX12_tells_47 (by decide) rfl (vs1 := [some (.ref (ad 236)), some (.int y1), some (.int y2), some (.int y3), some (.int r6)]) rfl ?_
    refine a_iload_n C dX12_tells_49 (i := 3) rfl rfl ?_
    refine p_if_ne C (X := y3.toInt) rfl dX12_tells_50 (tgt := 64) rfl h (fun h => ?_) (fun h => ?_)
    ·
      refine a_iload_n C dX12_tells_64 (i := 3) rfl rfl ?_
      refine a_iconst C dX12_tells_65 (v := 1) rfl ?_
      refine p_ic_ne C (X := y3.toInt) (Y := 1) rfl (by decide) dX12_tells_66 (tgt := 80) rfl h (fun h => ?_) (fun h => ?_)
      ·
        refine a_iload_n C dX12_tells_80 (i := 3) rfl rfl ?_
        refine a_iconst C dX12_tells_81 (v := 2) rfl ?_
        refine p_ic_ne C (X := y3.toInt) (Y := 2) rfl (by decide) dX12_tells_82 (tgt := 95) rfl h (fun h => ?_) (fun h => ?_)
        ·
          refine a_aload_n C dX12_tells_95 (i := 0) rfl rfl ?_
          refine a_iload_n C dX12_tells_96 (i := 1) rfl rfl ?_
          refine a_iload C dX12_tells_97 rfl ?_
          refine p_callVi C (As := [.int y1, .int r6]) (i := 236) kd_236 (hid 236 (by decide)) ⟨_, _, rfl⟩ (by decide) h (fun _ _ e => Z_X12_paysOf hid e) mi_X12_paysOf ml_RX12_359 rfl rfl (Nat.le_of_ble_eq_true rfl) (Nat.le_of_ble_eq_true rfl) (Nat.le_of_ble_eq_true rfl) dX12_tells_99 (fun r8 σ7 h => ?_)
          exact a_iret Rt dX12_tells_102 rfl (ret_eq (h.trans (congrArg some hR.symm)))
        ·
          refine a_aload_n C dX12_tells_85 (i := 0) rfl rfl ?_
          refine a_iload_n C dX12_tells_86 (i := 1) rfl rfl ?_
          refine a_iload C dX12_tells_87 rfl ?_
          refine p_callVi C (As := [.int y1, .int r6]) (i := 236) kd_236 (hid 236 (by decide)) ⟨_, _, rfl⟩ (by decide) h (fun _ _ e => Z_X12_forceOf hid e) mi_X12_forceOf ml_RX12_362 rfl rfl (Nat.le_of_ble_eq_true rfl) (Nat.le_of_ble_eq_true rfl) (Nat.le_of_ble_eq_true rfl) dX12_tells_89 (fun r10 σ9 h => ?_)
          refine a_goto C dX12_tells_92 (tgt := 102) rfl ?_
          exact a_iret Rt dX12_tells_102 rfl (ret_eq (h.trans (congrArg some hR.symm)))
      ·
        refine a_aload_n C dX12_tells_69 (i := 0) rfl rfl ?_
        refine a_iload_n C dX12_tells_70 (i := 1) rfl rfl ?_
        refine a_iload_n C dX12_tells_71 (i := 2) rfl rfl ?_
        refine a_iload C dX12_tells_72 rfl ?_
        refine p_callVi C (As := [.int y1, .int y2, .int r6]) (i := 236) kd_236 (hid 236 (by decide)) ⟨_, _, rfl⟩ (by decide) h (fun _ _ e => Z_X12_dropsBy hid e) mi_X12_dropsBy ml_RX12_371 rfl rfl (Nat.le_of_ble_eq_true rfl) (Nat.le_of_ble_eq_true rfl) (Nat.le_of_ble_eq_true rfl) dX12_tells_74 (fun r12 σ11 h => ?_)
        refine a_goto C dX12_tells_77 (tgt := 102) rfl ?_
        exact a_iret Rt dX12_tells_102 rfl (ret_eq (h.trans (congrArg some hR.symm)))
    ·
      refine a_aload_n C dX12_tells_53 (i := 0) rfl rfl ?_
      refine a_iload_n C dX12_tells_54 (i := 1) rfl rfl ?_
      refine a_iload_n C dX12_tells_55 (i := 2) rfl rfl ?_
      refine a_iload C dX12_tells_56 rfl ?_
      refine p_callVi C (As := [.int y1, .int y2, .int r6]) (i := 236) kd_236 (hid 236 (by decide)) ⟨_, _, rfl⟩ (by decide) h (fun _ _ e => Z_X12_tiresBy hid e) mi_X12_tiresBy ml_RX12_356 rfl rfl (Nat.le_of_ble_eq_true rfl) (Nat.le_of_ble_eq_true rfl) (Nat.le_of_ble_eq_true rfl) dX12_tells_58 (fun r14 σ13 h => ?_)
      refine a_goto C dX12_tells_61 (tgt := 102) rfl ?_
      exact a_iret Rt dX12_tells_102 rfl (ret_eq (h.trans (congrArg some hR.symm)))
  refine a_aload_n C dX12_tells_0 (i := 0) rfl rfl ?_
  refine a_iload_n C dX12_tells_1 (i := 1) rfl rfl ?_
  refine p_callVi C (As := [.int x1]) (i := 236) kd_236 (hid 236 (by decide)) ⟨_, _, rfl⟩ (by decide) h (fun _ _ e => Z_X12_isThing hid e) mi_X12_isThing ml_RX12_390 rfl rfl (Nat.le_of_ble_eq_true rfl) (Nat.le_of_ble_eq_true rfl) (Nat.le_of_ble_eq_true rfl) dX12_tells_2 (fun r2 σ1 h => ?_)
  refine p_if_eq C (X := r2.toInt) rfl dX12_tells_5 (tgt := 32) rfl h (fun h => ?_) (fun h => ?_)
  ·
    refine a_bipush C dX12_tells_32 (v := (-100)) rfl ?_
    exact a_iret Rt dX12_tells_34 rfl (ret_eq (h.trans (congrArg some hR.symm)))
  ·
    refine a_iload_n C dX12_tells_8 (i := 3) rfl rfl ?_
    refine a_iconst C dX12_tells_9 (v := 0) rfl ?_
    refine a_iconst C dX12_tells_10 (v := 3) rfl ?_
    refine p_callSi C (As := [.int x3, .int 0, .int 3]) h (fun _ _ e => Z_X12_in hid e) ms_X12_in ml_RX12_301 rfl rfl (Nat.le_of_ble_eq_true rfl) (Nat.le_of_ble_eq_true rfl) (Nat.le_of_ble_eq_true rfl) dX12_tells_11 (fun r4 σ3 h => ?_)
    refine p_if_eq C (X := r4.toInt) rfl dX12_tells_14 (tgt := 32) rfl h (fun h => ?_) (fun h => ?_)
    ·
      refine a_bipush C dX12_tells_32 (v := (-100)) rfl ?_
      exact a_iret Rt dX12_tells_34 rfl (ret_eq (h.trans (congrArg some hR.symm)))
    ·
      refine a_iload_n C dX12_tells_17 (i := 3) rfl rfl ?_
      refine a_iconst C dX12_tells_18 (v := 2) rfl ?_
      refine p_ic_ge C (X := x3.toInt) (Y := 2) rfl (by decide) dX12_tells_19 (tgt := 35) rfl h (fun h => ?_) (fun h => ?_)
      ·
        exact j35 _ _ _ _ h
      ·
        refine a_iload_n C dX12_tells_22 (i := 2) rfl rfl ?_
        refine a_iconst C dX12_tells_23 (v := 0) rfl ?_
        refine a_bipush C dX12_tells_24 (v := 9) rfl ?_
        refine p_callSi C (As := [.int x2, .int 0, .int 9]) h (fun _ _ e => Z_X12_in hid e) ms_X12_in ml_RX12_301 rfl rfl (Nat.le_of_ble_eq_true rfl) (Nat.le_of_ble_eq_true rfl) (Nat.le_of_ble_eq_true rfl) dX12_tells_26 (fun r6 σ5 h => ?_)
        refine p_if_ne C (X := r6.toInt) rfl dX12_tells_29 (tgt := 35) rfl h (fun h => ?_) (fun h => ?_)
        ·
          exact j35 _ _ _ _ h
        ·
          refine a_bipush C dX12_tells_32 (v := (-100)) rfl ?_
          exact a_iret Rt dX12_tells_34 rfl (ret_eq (h.trans (congrArg some hR.symm)))
set_option maxHeartbeats 4000000 in
set_option maxRecDepth 100000 in
theorem Z_X12_records {l : Launch} {D : va_G} {ids : List Nat} {ad : Nat → Nat} {ca : Nat → ClassId} {σ : HS} {s0 : HS} (hid : ∀ i, i < 277 → i ∈ ids) (h : f_X12_records σ = some s0) : Kv l D ids ad ca yX12_records cX12_records 2 1 21 [.ref (ad 236)] σ (fun σ1 => σ1 = s0) := by
  obtain ⟨R, hR⟩ : ∃ R, s0 = R := ⟨_, rfl⟩
  replace h := h.trans (congrArg some hR)
  refine Kv.of (by decide) (Nat.le_of_ble_eq_true rfl) 1 (fun Γ C Rt => ?_)
  show AW ids ad ca Γ 0 [some (.ref (ad 236)), none] [] σ
  unfold f_X12_records at h
  have j51 : ∀ (n : Nat) (y1 : Int32) (σ : HS), f_X12_records_51 n y1 σ = some R → AW ids ad ca Γ 51 [some (.ref (ad 236)), some (.int y1)] [] σ := by
    intro n
    induction n with
    | zero => intro y1 σ h; exact nn h
    | succ n ih =>
      intro y1 σ h
      have h : b_X12_records_51 (f_X12_records_51 n) y1 σ = some R := h
      unfold b_X12_records_51 at h
      refine a_iload_n C dX12_records_51 (i := 1) rfl rfl ?_
      refine a_bipush C dX12_records_52 (v := 29) rfl ?_
      refine p_ic_ge C (X := y1.toInt) (Y := 29) rfl (by decide) dX12_records_54 (tgt := 83) rfl h (fun h => ?_) (fun h => ?_)
      ·
        refine a_aload_n C dX12_records_83 (i := 0) rfl rfl ?_
        refine a_dup C dX12_records_84 rfl ?_
        refine a_get C fl_RX12_239 (i := 236) kd_236 (hid 236 (by decide)) (v := .int (σ.1 236 54)) rfl dX12_records_85 ?_
        refine a_iconst C dX12_records_88 (v := 1) rfl ?_
        refine a_iadd C dX12_records_89 ?_
        refine p_put C fp_RX12_239 (i := 236) kd_236 (hid 236 (by decide)) rfl rfl dX12_records_90 h (fun σ1 h => ?_)
        refine a_aload_n C dX12_records_93 (i := 0) rfl rfl ?_
        refine p_callVv C (As := []) (i := 236) kd_236 (hid 236 (by decide)) ⟨_, _, rfl⟩ (by decide) h (fun _ e => Z_X12_keepsRow hid e) mi_X12_keepsRow ml_RX12_151 rfl rfl (Nat.le_of_ble_eq_true rfl) (Nat.le_of_ble_eq_true rfl) (Nat.le_of_ble_eq_true rfl) dX12_records_94 (fun σ2 h => ?_)
        exact a_vret Rt dX12_records_97 (retv_eq (h.trans (congrArg some hR.symm)))
      ·
        refine a_aload_n C dX12_records_57 (i := 0) rfl rfl ?_
        refine a_get C fl_RX12_113 (i := 236) kd_236 (hid 236 (by decide)) (v := .ref (ad 268)) rfl dX12_records_58 ?_
        refine a_bipush C dX12_records_61 (v := 29) rfl ?_
        refine a_aload_n C dX12_records_63 (i := 0) rfl rfl ?_
        refine a_get C fl_RX12_239 (i := 236) kd_236 (hid 236 (by decide)) (v := .int (σ.1 236 54)) rfl dX12_records_64 ?_
        refine a_imul C dX12_records_67 ?_
        refine a_iload_n C dX12_records_68 (i := 1) rfl rfl ?_
        refine a_iadd C dX12_records_69 ?_
        refine a_aload_n C dX12_records_70 (i := 0) rfl rfl ?_
        refine a_get C fl_RX12_107 (i := 236) kd_236 (hid 236 (by decide)) (v := .ref (ad 266)) rfl dX12_records_71 ?_
        refine a_iload_n C dX12_records_74 (i := 1) rfl rfl ?_
        refine p_iald C (i := 266) (show rowOK 266 from ⟨kd_266, by decide⟩) hid (by rw [al_266]; rfl) dX12_records_75 h (fun h => ?_)
        refine p_iast C (i := 268) (show rowOK 268 from ⟨kd_268, by decide⟩) hid (by rw [al_268]; rfl) dX12_records_76 h (fun σ4 h => ?_)
        refine p_iinc C (y := (y1 + 1)) (fun z5 => [some (.ref (ad 236)), some (.int z5)]) dX12_records_77 rfl rfl (by decide) rfl (fun _ => rfl) h (fun z5 h => ?_)
        refine a_goto C dX12_records_80 (tgt := 51) rfl ?_
        exact ih _ _ h
  have j49 : ∀ (σ : HS), f_X12_records_49 σ = some R → AW ids ad ca Γ 49 [some (.ref (ad 236)), none] [] σ := by
    intro σ h
    unfold f_X12_records_49 at h
    refine a_iconst C dX12_records_49 (v := 0) rfl ?_
    refine a_istore_n C dX12_records_50 (i := 1) rfl (by decide) rfl (vs1 := [some (.ref (ad 236)), some (.int 0)]) rfl ?_
    exact j51 _ _ _ h
  have j11 : ∀ (n : Nat) (y1 : Int32) (σ : HS), f_X12_records_11 n y1 σ = some R → AW ids ad ca Γ 11 [some (.ref (ad 236)), some (.int y1)] [] σ := by
    intro n
    induction n with
    | zero => intro y1 σ h; exact nn h
    | succ n ih =>
      intro y1 σ h
      have h : b_X12_records_11 (f_X12_records_11 n) y1 σ = some R := h
      unfold b_X12_records_11 at h
      refine a_iload_n C dX12_records_11 (i := 1) rfl rfl ?_
      refine a_sipush C dX12_records_12 (v := 1131) rfl ?_
      refine p_ic_ge C (X := y1.toInt) (Y := 1131) rfl (by decide) dX12_records_15 (tgt := 39) rfl h (fun h => ?_) (fun h => ?_)
      ·
        refine a_aload_n C dX12_records_39 (i := 0) rfl rfl ?_
        refine a_dup C dX12_records_40 rfl ?_
        refine a_get C fl_RX12_239 (i := 236) kd_236 (hid 236 (by decide)) (v := .int (σ.1 236 54)) rfl dX12_records_41 ?_
        refine a_iconst C dX12_records_44 (v := 1) rfl ?_
        refine a_isub C dX12_records_45 ?_
        refine p_put C fp_RX12_239 (i := 236) kd_236 (hid 236 (by decide)) rfl rfl dX12_records_46 h (fun σ1 h => ?_)
        refine AW.sub (vs' := [some (.ref (ad 236)), none]) (lsub_of (by simp [lsubB])) ?_
        exact j49 _ h
      ·
        refine a_aload_n C dX12_records_18 (i := 0) rfl rfl ?_
        refine a_get C fl_RX12_113 (i := 236) kd_236 (hid 236 (by decide)) (v := .ref (ad 268)) rfl dX12_records_19 ?_
        refine a_iload_n C dX12_records_22 (i := 1) rfl rfl ?_
        refine a_aload_n C dX12_records_23 (i := 0) rfl rfl ?_
        refine a_get C fl_RX12_113 (i := 236) kd_236 (hid 236 (by decide)) (v := .ref (ad 268)) rfl dX12_records_24 ?_
        refine a_iload_n C dX12_records_27 (i := 1) rfl rfl ?_
        refine a_bipush C dX12_records_28 (v := 29) rfl ?_
        refine a_iadd C dX12_records_30 ?_
        refine p_iald C (i := 268) (show rowOK 268 from ⟨kd_268, by decide⟩) hid (by rw [al_268]; rfl) dX12_records_31 h (fun h => ?_)
        refine p_iast C (i := 268) (show rowOK 268 from ⟨kd_268, by decide⟩) hid (by rw [al_268]; rfl) dX12_records_32 h (fun σ2 h => ?_)
        refine p_iinc C (y := (y1 + 1)) (fun z3 => [some (.ref (ad 236)), some (.int z3)]) dX12_records_33 rfl rfl (by decide) rfl (fun _ => rfl) h (fun z3 h => ?_)
        refine a_goto C dX12_records_36 (tgt := 11) rfl ?_
        exact ih _ _ h
  refine a_aload_n C dX12_records_0 (i := 0) rfl rfl ?_
  refine a_get C fl_RX12_239 (i := 236) kd_236 (hid 236 (by decide)) (v := .int (σ.1 236 54)) rfl dX12_records_1 ?_
  refine a_bipush C dX12_records_4 (v := 40) rfl ?_
  refine p_ic_ne C (X := (σ.1 236 54).toInt) (Y := 40) rfl (by decide) dX12_records_6 (tgt := 49) rfl h (fun h => ?_) (fun h => ?_)
  ·
    exact j49 _ h
  ·
    refine a_iconst C dX12_records_9 (v := 0) rfl ?_
    refine a_istore_n C dX12_records_10 (i := 1) rfl (by decide) rfl (vs1 := [some (.ref (ad 236)), some (.int 0)]) rfl ?_
    exact j11 _ _ _ h
set_option maxHeartbeats 4000000 in
set_option maxRecDepth 100000 in
theorem Z_X12_throwIn {l : Launch} {D : va_G} {ids : List Nat} {ad : Nat → Nat} {ca : Nat → ClassId} {σ : HS} {x1 : Int32} {x2 : Int32} {r0 : Int32} {s0 : HS} (hid : ∀ i, i < 277 → i ∈ ids) (h : f_X12_throwIn x1 x2 σ = some (r0, s0)) : Ki l D ids ad ca yX12_throwIn cX12_throwIn 3 .boolean 2 43 [.ref (ad 236), .int x1, .int x2] σ (fun r σ1 => r = r0 ∧ σ1 = s0) := by
  obtain ⟨R, hR⟩ : ∃ R, (r0, s0) = R := ⟨_, rfl⟩
  replace h := h.trans (congrArg some hR)
  refine Ki.of (by decide) (Nat.le_of_ble_eq_true rfl) 0 (fun Γ C Rt => ?_)
  show AW ids ad ca Γ 0 [some (.ref (ad 236)), some (.int x1), some (.int x2)] [] σ
  unfold f_X12_throwIn at h
  refine a_aload_n C dX12_throwIn_0 (i := 0) rfl rfl ?_
  refine a_iload_n C dX12_throwIn_1 (i := 1) rfl rfl ?_
  refine p_callVi C (As := [.int x1]) (i := 236) kd_236 (hid 236 (by decide)) ⟨_, _, rfl⟩ (by decide) h (fun _ _ e => Z_X12_isThing hid e) mi_X12_isThing ml_RX12_390 rfl rfl (Nat.le_of_ble_eq_true rfl) (Nat.le_of_ble_eq_true rfl) (Nat.le_of_ble_eq_true rfl) dX12_throwIn_2 (fun r2 σ1 h => ?_)
  refine p_if_eq C (X := r2.toInt) rfl dX12_throwIn_5 (tgt := 27) rfl h (fun h => ?_) (fun h => ?_)
  ·
    refine a_iconst C dX12_throwIn_27 (v := 0) rfl ?_
    exact a_iret Rt dX12_throwIn_28 (nar_z (by decide)).1 (ret_eq (h.trans (congrArg some hR.symm)))
  ·
    refine a_aload_n C dX12_throwIn_8 (i := 0) rfl rfl ?_
    refine a_get C fl_RX12_107 (i := 236) kd_236 (hid 236 (by decide)) (v := .ref (ad 266)) rfl dX12_throwIn_9 ?_
    refine a_iload_n C dX12_throwIn_12 (i := 1) rfl rfl ?_
    refine p_iald C (i := 266) (show rowOK 266 from ⟨kd_266, by decide⟩) hid (by rw [al_266]; rfl) dX12_throwIn_13 h (fun h => ?_)
    refine p_if_eq C (X := (σ1.1 266 x1.toInt.toNat).toInt) rfl dX12_throwIn_14 (tgt := 27) rfl h (fun h => ?_) (fun h => ?_)
    ·
      refine a_iconst C dX12_throwIn_27 (v := 0) rfl ?_
      exact a_iret Rt dX12_throwIn_28 (nar_z (by decide)).1 (ret_eq (h.trans (congrArg some hR.symm)))
    ·
      refine a_iload_n C dX12_throwIn_17 (i := 2) rfl rfl ?_
      refine a_iconst C dX12_throwIn_18 (v := 0) rfl ?_
      refine a_bipush C dX12_throwIn_19 (v := 9) rfl ?_
      refine p_callSi C (As := [.int x2, .int 0, .int 9]) h (fun _ _ e => Z_X12_in hid e) ms_X12_in ml_RX12_301 rfl rfl (Nat.le_of_ble_eq_true rfl) (Nat.le_of_ble_eq_true rfl) (Nat.le_of_ble_eq_true rfl) dX12_throwIn_21 (fun r4 σ3 h => ?_)
      refine p_if_ne C (X := r4.toInt) rfl dX12_throwIn_24 (tgt := 29) rfl h (fun h => ?_) (fun h => ?_)
      ·
        refine a_aload_n C dX12_throwIn_29 (i := 0) rfl rfl ?_
        refine p_callVv C (As := []) (i := 236) kd_236 (hid 236 (by decide)) ⟨_, _, rfl⟩ (by decide) h (fun _ e => Z_X12_copies hid e) mi_X12_copies ml_RX12_311 rfl rfl (Nat.le_of_ble_eq_true rfl) (Nat.le_of_ble_eq_true rfl) (Nat.le_of_ble_eq_true rfl) dX12_throwIn_30 (fun σ5 h => ?_)
        refine a_aload_n C dX12_throwIn_33 (i := 0) rfl rfl ?_
        refine a_get C fl_RX12_110 (i := 236) kd_236 (hid 236 (by decide)) (v := .ref (ad 267)) rfl dX12_throwIn_34 ?_
        refine a_iload_n C dX12_throwIn_37 (i := 1) rfl rfl ?_
        refine a_iconst C dX12_throwIn_38 (v := 0) rfl ?_
        refine p_iast C (i := 267) (show rowOK 267 from ⟨kd_267, by decide⟩) hid (by rw [al_267]; rfl) dX12_throwIn_39 h (fun σ7 h => ?_)
        refine a_aload_n C dX12_throwIn_40 (i := 0) rfl rfl ?_
        refine a_get C fl_RX12_110 (i := 236) kd_236 (hid 236 (by decide)) (v := .ref (ad 267)) rfl dX12_throwIn_41 ?_
        refine a_bipush C dX12_throwIn_44 (v := 7) rfl ?_
        refine a_iload_n C dX12_throwIn_46 (i := 1) rfl rfl ?_
        refine a_iadd C dX12_throwIn_47 ?_
        refine a_iload_n C dX12_throwIn_48 (i := 2) rfl rfl ?_
        refine p_iast C (i := 267) (show rowOK 267 from ⟨kd_267, by decide⟩) hid (by rw [al_267]; rfl) dX12_throwIn_49 h (fun σ8 h => ?_)
        refine a_aload_n C dX12_throwIn_50 (i := 0) rfl rfl ?_
        refine p_callVv C (As := []) (i := 236) kd_236 (hid 236 (by decide)) ⟨_, _, rfl⟩ (by decide) h (fun _ e => Z_X12_records hid e) mi_X12_records ml_RX12_396 rfl rfl (Nat.le_of_ble_eq_true rfl) (Nat.le_of_ble_eq_true rfl) (Nat.le_of_ble_eq_true rfl) dX12_throwIn_51 (fun σ9 h => ?_)
        refine a_iconst C dX12_throwIn_54 (v := 1) rfl ?_
        exact a_iret Rt dX12_throwIn_55 (nar_z (by decide)).1 (ret_eq (h.trans (congrArg some hR.symm)))
      ·
        refine a_iconst C dX12_throwIn_27 (v := 0) rfl ?_
        exact a_iret Rt dX12_throwIn_28 (nar_z (by decide)).1 (ret_eq (h.trans (congrArg some hR.symm)))
set_option maxHeartbeats 4000000 in
set_option maxRecDepth 100000 in
theorem Z_X12_uses {l : Launch} {D : va_G} {ids : List Nat} {ad : Nat → Nat} {ca : Nat → ClassId} {σ : HS} {x1 : Int32} {s0 : HS} (hid : ∀ i, i < 277 → i ∈ ids) (h : f_X12_uses x1 σ = some s0) : Kv l D ids ad ca yX12_uses cX12_uses 2 0 0 [.ref (ad 236), .int x1] σ (fun σ1 => σ1 = s0) := by
  obtain ⟨R, hR⟩ : ∃ R, s0 = R := ⟨_, rfl⟩
  replace h := h.trans (congrArg some hR)
  refine Kv.of (by decide) (Nat.le_of_ble_eq_true rfl) 0 (fun Γ C Rt => ?_)
  show AW ids ad ca Γ 0 [some (.ref (ad 236)), some (.int x1)] [] σ
  unfold f_X12_uses at h
  refine a_aload_n C dX12_uses_0 (i := 0) rfl rfl ?_
  refine a_get C fl_RX12_110 (i := 236) kd_236 (hid 236 (by decide)) (v := .ref (ad 267)) rfl dX12_uses_1 ?_
  refine a_bipush C dX12_uses_4 (v := 26) rfl ?_
  refine a_iload_n C dX12_uses_6 (i := 1) rfl rfl ?_
  refine p_iastc C (i := 267) 26 (show rowOK 267 from ⟨kd_267, by decide⟩) hid (by decide) (by rw [al_267]; decide) dX12_uses_7 h (fun σ1 h => ?_)
  refine a_aload_n C dX12_uses_8 (i := 0) rfl rfl ?_
  refine a_get C fl_RX12_110 (i := 236) kd_236 (hid 236 (by decide)) (v := .ref (ad 267)) rfl dX12_uses_9 ?_
  refine a_bipush C dX12_uses_12 (v := 27) rfl ?_
  refine a_aload_n C dX12_uses_14 (i := 0) rfl rfl ?_
  refine a_get C fl_RX12_110 (i := 236) kd_236 (hid 236 (by decide)) (v := .ref (ad 267)) rfl dX12_uses_15 ?_
  refine a_bipush C dX12_uses_18 (v := 21) rfl ?_
  refine p_ialdc C (i := 267) 21 (show rowOK 267 from ⟨kd_267, by decide⟩) hid (by decide) (by rw [al_267]; decide) dX12_uses_20 ?_
  refine p_iastc C (i := 267) 27 (show rowOK 267 from ⟨kd_267, by decide⟩) hid (by decide) (by rw [al_267]; decide) dX12_uses_21 h (fun σ2 h => ?_)
  exact a_vret Rt dX12_uses_22 (retv_eq (h.trans (congrArg some hR.symm)))
set_option maxHeartbeats 4000000 in
set_option maxRecDepth 100000 in
theorem Z_X12_use {l : Launch} {D : va_G} {ids : List Nat} {ad : Nat → Nat} {ca : Nat → ClassId} {σ : HS} {x1 : Int32} {r0 : Int32} {s0 : HS} (hid : ∀ i, i < 277 → i ∈ ids) (h : f_X12_use x1 σ = some (r0, s0)) : Ki l D ids ad ca yX12_use cX12_use 2 .boolean 2 43 [.ref (ad 236), .int x1] σ (fun r σ1 => r = r0 ∧ σ1 = s0) := by
  obtain ⟨R, hR⟩ : ∃ R, (r0, s0) = R := ⟨_, rfl⟩
  replace h := h.trans (congrArg some hR)
  refine Ki.of (by decide) (Nat.le_of_ble_eq_true rfl) 0 (fun Γ C Rt => ?_)
  show AW ids ad ca Γ 0 [some (.ref (ad 236)), some (.int x1)] [] σ
  unfold f_X12_use at h
  refine a_aload_n C dX12_use_0 (i := 0) rfl rfl ?_
  refine a_iload_n C dX12_use_1 (i := 1) rfl rfl ?_
  refine p_callVi C (As := [.int x1]) (i := 236) kd_236 (hid 236 (by decide)) ⟨_, _, rfl⟩ (by decide) h (fun _ _ e => Z_X12_isPattern hid e) mi_X12_isPattern ml_RX12_393 rfl rfl (Nat.le_of_ble_eq_true rfl) (Nat.le_of_ble_eq_true rfl) (Nat.le_of_ble_eq_true rfl) dX12_use_2 (fun r2 σ1 h => ?_)
  refine p_if_ne C (X := r2.toInt) rfl dX12_use_5 (tgt := 10) rfl h (fun h => ?_) (fun h => ?_)
  ·
    refine a_aload_n C dX12_use_10 (i := 0) rfl rfl ?_
    refine p_callVv C (As := []) (i := 236) kd_236 (hid 236 (by decide)) ⟨_, _, rfl⟩ (by decide) h (fun _ e => Z_X12_copies hid e) mi_X12_copies ml_RX12_311 rfl rfl (Nat.le_of_ble_eq_true rfl) (Nat.le_of_ble_eq_true rfl) (Nat.le_of_ble_eq_true rfl) dX12_use_11 (fun σ3 h => ?_)
    refine a_aload_n C dX12_use_14 (i := 0) rfl rfl ?_
    refine a_iload_n C dX12_use_15 (i := 1) rfl rfl ?_
    refine p_callVv C (As := [.int x1]) (i := 236) kd_236 (hid 236 (by decide)) ⟨_, _, rfl⟩ (by decide) h (fun _ e => Z_X12_uses hid e) mi_X12_uses ml_RX12_399 rfl rfl (Nat.le_of_ble_eq_true rfl) (Nat.le_of_ble_eq_true rfl) (Nat.le_of_ble_eq_true rfl) dX12_use_16 (fun σ5 h => ?_)
    refine a_aload_n C dX12_use_19 (i := 0) rfl rfl ?_
    refine p_callVv C (As := []) (i := 236) kd_236 (hid 236 (by decide)) ⟨_, _, rfl⟩ (by decide) h (fun _ e => Z_X12_records hid e) mi_X12_records ml_RX12_396 rfl rfl (Nat.le_of_ble_eq_true rfl) (Nat.le_of_ble_eq_true rfl) (Nat.le_of_ble_eq_true rfl) dX12_use_20 (fun σ7 h => ?_)
    refine a_iconst C dX12_use_23 (v := 1) rfl ?_
    exact a_iret Rt dX12_use_24 (nar_z (by decide)).1 (ret_eq (h.trans (congrArg some hR.symm)))
  ·
    refine a_iconst C dX12_use_8 (v := 0) rfl ?_
    exact a_iret Rt dX12_use_9 (nar_z (by decide)).1 (ret_eq (h.trans (congrArg some hR.symm)))
set_option maxHeartbeats 4000000 in
set_option maxRecDepth 100000 in
theorem Z_X12_set {l : Launch} {D : va_G} {ids : List Nat} {ad : Nat → Nat} {ca : Nat → ClassId} {σ : HS} {x1 : Int32} {r0 : Int32} {s0 : HS} (hid : ∀ i, i < 277 → i ∈ ids) (h : f_X12_set x1 σ = some (r0, s0)) : Ki l D ids ad ca yX12_set cX12_set 2 .boolean 2 42 [.ref (ad 236), .int x1] σ (fun r σ1 => r = r0 ∧ σ1 = s0) := by
  obtain ⟨R, hR⟩ : ∃ R, (r0, s0) = R := ⟨_, rfl⟩
  replace h := h.trans (congrArg some hR)
  refine Ki.of (by decide) (Nat.le_of_ble_eq_true rfl) 0 (fun Γ C Rt => ?_)
  show AW ids ad ca Γ 0 [some (.ref (ad 236)), some (.int x1)] [] σ
  unfold f_X12_set at h
  refine a_iload_n C dX12_set_0 (i := 1) rfl rfl ?_
  refine a_iconst C dX12_set_1 (v := 0) rfl ?_
  refine a_bipush C dX12_set_2 (v := 9) rfl ?_
  refine p_callSi C (As := [.int x1, .int 0, .int 9]) h (fun _ _ e => Z_X12_in hid e) ms_X12_in ml_RX12_301 rfl rfl (Nat.le_of_ble_eq_true rfl) (Nat.le_of_ble_eq_true rfl) (Nat.le_of_ble_eq_true rfl) dX12_set_4 (fun r2 σ1 h => ?_)
  refine p_if_eq C (X := r2.toInt) rfl dX12_set_7 (tgt := 21) rfl h (fun h => ?_) (fun h => ?_)
  ·
    refine a_iconst C dX12_set_21 (v := 0) rfl ?_
    exact a_iret Rt dX12_set_22 (nar_z (by decide)).1 (ret_eq (h.trans (congrArg some hR.symm)))
  ·
    refine a_aload_n C dX12_set_10 (i := 0) rfl rfl ?_
    refine a_get C fl_RX12_107 (i := 236) kd_236 (hid 236 (by decide)) (v := .ref (ad 266)) rfl dX12_set_11 ?_
    refine a_bipush C dX12_set_14 (v := 28) rfl ?_
    refine p_ialdc C (i := 266) 28 (show rowOK 266 from ⟨kd_266, by decide⟩) hid (by decide) (by rw [al_266]; decide) dX12_set_16 ?_
    refine a_iload_n C dX12_set_17 (i := 1) rfl rfl ?_
    refine p_ic_ne C (X := (σ1.1 266 28).toInt) (Y := x1.toInt) rfl rfl dX12_set_18 (tgt := 23) rfl h (fun h => ?_) (fun h => ?_)
    ·
      refine a_aload_n C dX12_set_23 (i := 0) rfl rfl ?_
      refine p_callVv C (As := []) (i := 236) kd_236 (hid 236 (by decide)) ⟨_, _, rfl⟩ (by decide) h (fun _ e => Z_X12_copies hid e) mi_X12_copies ml_RX12_311 rfl rfl (Nat.le_of_ble_eq_true rfl) (Nat.le_of_ble_eq_true rfl) (Nat.le_of_ble_eq_true rfl) dX12_set_24 (fun σ3 h => ?_)
      refine a_aload_n C dX12_set_27 (i := 0) rfl rfl ?_
      refine a_get C fl_RX12_110 (i := 236) kd_236 (hid 236 (by decide)) (v := .ref (ad 267)) rfl dX12_set_28 ?_
      refine a_bipush C dX12_set_31 (v := 28) rfl ?_
      refine a_iload_n C dX12_set_33 (i := 1) rfl rfl ?_
      refine p_iastc C (i := 267) 28 (show rowOK 267 from ⟨kd_267, by decide⟩) hid (by decide) (by rw [al_267]; decide) dX12_set_34 h (fun σ5 h => ?_)
      refine a_aload_n C dX12_set_35 (i := 0) rfl rfl ?_
      refine p_callVv C (As := []) (i := 236) kd_236 (hid 236 (by decide)) ⟨_, _, rfl⟩ (by decide) h (fun _ e => Z_X12_records hid e) mi_X12_records ml_RX12_396 rfl rfl (Nat.le_of_ble_eq_true rfl) (Nat.le_of_ble_eq_true rfl) (Nat.le_of_ble_eq_true rfl) dX12_set_36 (fun σ6 h => ?_)
      refine a_iconst C dX12_set_39 (v := 1) rfl ?_
      exact a_iret Rt dX12_set_40 (nar_z (by decide)).1 (ret_eq (h.trans (congrArg some hR.symm)))
    ·
      refine a_iconst C dX12_set_21 (v := 0) rfl ?_
      exact a_iret Rt dX12_set_22 (nar_z (by decide)).1 (ret_eq (h.trans (congrArg some hR.symm)))
set_option maxHeartbeats 4000000 in
set_option maxRecDepth 100000 in
theorem Z_X12_isLong {l : Launch} {D : va_G} {ids : List Nat} {ad : Nat → Nat} {ca : Nat → ClassId} {σ : HS} {x1 : Int32} {r0 : Int32} {s0 : HS} (hid : ∀ i, i < 277 → i ∈ ids) (h : f_X12_isLong x1 σ = some (r0, s0)) : Ki l D ids ad ca yX12_isLong cX12_isLong 1 .boolean 1 22 [.int x1] σ (fun r σ1 => r = r0 ∧ σ1 = s0) := by
  obtain ⟨R, hR⟩ : ∃ R, (r0, s0) = R := ⟨_, rfl⟩
  replace h := h.trans (congrArg some hR)
  refine Ki.of (by decide) (Nat.le_of_ble_eq_true rfl) 0 (fun Γ C Rt => ?_)
  show AW ids ad ca Γ 0 [some (.int x1)] [] σ
  unfold f_X12_isLong at h
  refine a_iload_n C dX12_isLong_0 (i := 0) rfl rfl ?_
  refine a_iconst C dX12_isLong_1 (v := 0) rfl ?_
  refine a_bipush C dX12_isLong_2 (v := 60) rfl ?_
  refine p_callSi C (As := [.int x1, .int 0, .int 60]) h (fun _ _ e => Z_X12_in hid e) ms_X12_in ml_RX12_301 rfl rfl (Nat.le_of_ble_eq_true rfl) (Nat.le_of_ble_eq_true rfl) (Nat.le_of_ble_eq_true rfl) dX12_isLong_4 (fun r2 σ1 h => ?_)
  refine ite_n h (fun c h => ?_)
  exact a_iret Rt dX12_isLong_7 (nar_z c).1 (ret_eq (h.trans (congrArg some hR.symm)))
set_option maxHeartbeats 4000000 in
set_option maxRecDepth 100000 in
theorem Z_X12_beats {l : Launch} {D : va_G} {ids : List Nat} {ad : Nat → Nat} {ca : Nat → ClassId} {σ : HS} {x1 : Int32} {r0 : Int32} {s0 : HS} (hid : ∀ i, i < 277 → i ∈ ids) (h : f_X12_beats x1 σ = some (r0, s0)) : Ki l D ids ad ca yX12_beats cX12_beats 2 .int 6 144 [.ref (ad 236), .int x1] σ (fun r σ1 => r = r0 ∧ σ1 = s0) := by
  obtain ⟨R, hR⟩ : ∃ R, (r0, s0) = R := ⟨_, rfl⟩
  replace h := h.trans (congrArg some hR)
  refine Ki.of (by decide) (Nat.le_of_ble_eq_true rfl) 0 (fun Γ C Rt => ?_)
  show AW ids ad ca Γ 0 [some (.ref (ad 236)), some (.int x1)] [] σ
  unfold f_X12_beats at h
  refine a_iload_n C dX12_beats_0 (i := 1) rfl rfl ?_
  refine p_callSi C (As := [.int x1]) h (fun _ _ e => Z_X12_isLong hid e) ms_X12_isLong ml_RX12_402 rfl rfl (Nat.le_of_ble_eq_true rfl) (Nat.le_of_ble_eq_true rfl) (Nat.le_of_ble_eq_true rfl) dX12_beats_1 (fun r2 σ1 h => ?_)
  refine p_if_ne C (X := r2.toInt) rfl dX12_beats_4 (tgt := 9) rfl h (fun h => ?_) (fun h => ?_)
  ·
    refine a_iload_n C dX12_beats_9 (i := 1) rfl rfl ?_
    refine p_if_ne C (X := x1.toInt) rfl dX12_beats_10 (tgt := 21) rfl h (fun h => ?_) (fun h => ?_)
    ·
      refine a_aload_n C dX12_beats_21 (i := 0) rfl rfl ?_
      refine p_callVv C (As := []) (i := 236) kd_236 (hid 236 (by decide)) ⟨_, _, rfl⟩ (by decide) h (fun _ e => Z_X12_copies hid e) mi_X12_copies ml_RX12_311 rfl rfl (Nat.le_of_ble_eq_true rfl) (Nat.le_of_ble_eq_true rfl) (Nat.le_of_ble_eq_true rfl) dX12_beats_22 (fun σ3 h => ?_)
      refine a_aload_n C dX12_beats_25 (i := 0) rfl rfl ?_
      refine a_iload_n C dX12_beats_26 (i := 1) rfl rfl ?_
      refine p_callVv C (As := [.int x1]) (i := 236) kd_236 (hid 236 (by decide)) ⟨_, _, rfl⟩ (by decide) h (fun _ e => Z_X12_goes hid e) mi_X12_goes ml_RX12_405 rfl rfl (Nat.le_of_ble_eq_true rfl) (Nat.le_of_ble_eq_true rfl) (Nat.le_of_ble_eq_true rfl) dX12_beats_27 (fun σ5 h => ?_)
      refine a_aload_n C dX12_beats_30 (i := 0) rfl rfl ?_
      refine p_callVv C (As := []) (i := 236) kd_236 (hid 236 (by decide)) ⟨_, _, rfl⟩ (by decide) h (fun _ e => Z_X12_records hid e) mi_X12_records ml_RX12_396 rfl rfl (Nat.le_of_ble_eq_true rfl) (Nat.le_of_ble_eq_true rfl) (Nat.le_of_ble_eq_true rfl) dX12_beats_31 (fun σ7 h => ?_)
      refine a_aload_n C dX12_beats_34 (i := 0) rfl rfl ?_
      refine a_get C fl_RX12_107 (i := 236) kd_236 (hid 236 (by decide)) (v := .ref (ad 266)) rfl dX12_beats_35 ?_
      refine a_bipush C dX12_beats_38 (v := 21) rfl ?_
      refine p_ialdc C (i := 266) 21 (show rowOK 266 from ⟨kd_266, by decide⟩) hid (by decide) (by rw [al_266]; decide) dX12_beats_40 ?_
      exact a_iret Rt dX12_beats_41 rfl (ret_eq (h.trans (congrArg some hR.symm)))
    ·
      refine a_aload_n C dX12_beats_13 (i := 0) rfl rfl ?_
      refine a_get C fl_RX12_107 (i := 236) kd_236 (hid 236 (by decide)) (v := .ref (ad 266)) rfl dX12_beats_14 ?_
      refine a_bipush C dX12_beats_17 (v := 21) rfl ?_
      refine p_ialdc C (i := 266) 21 (show rowOK 266 from ⟨kd_266, by decide⟩) hid (by decide) (by rw [al_266]; decide) dX12_beats_19 ?_
      exact a_iret Rt dX12_beats_20 rfl (ret_eq (h.trans (congrArg some hR.symm)))
  ·
    refine a_iconst C dX12_beats_7 (v := (-1)) rfl ?_
    exact a_iret Rt dX12_beats_8 rfl (ret_eq (h.trans (congrArg some hR.symm)))
set_option maxHeartbeats 4000000 in
set_option maxRecDepth 100000 in
theorem Z_X12_undo {l : Launch} {D : va_G} {ids : List Nat} {ad : Nat → Nat} {ca : Nat → ClassId} {σ : HS} {r0 : Int32} {s0 : HS} (hid : ∀ i, i < 277 → i ∈ ids) (h : f_X12_undo σ = some (r0, s0)) : Ki l D ids ad ca yX12_undo cX12_undo 2 .boolean 0 0 [.ref (ad 236)] σ (fun r σ1 => r = r0 ∧ σ1 = s0) := by
  obtain ⟨R, hR⟩ : ∃ R, (r0, s0) = R := ⟨_, rfl⟩
  replace h := h.trans (congrArg some hR)
  refine Ki.of (by decide) (Nat.le_of_ble_eq_true rfl) 1 (fun Γ C Rt => ?_)
  show AW ids ad ca Γ 0 [some (.ref (ad 236)), none] [] σ
  unfold f_X12_undo at h
  have j21 : ∀ (n : Nat) (y1 : Int32) (σ : HS), f_X12_undo_21 n y1 σ = some R → AW ids ad ca Γ 21 [some (.ref (ad 236)), some (.int y1)] [] σ := by
    intro n
    induction n with
    | zero => intro y1 σ h; exact nn h
    | succ n ih =>
      intro y1 σ h
      have h : b_X12_undo_21 (f_X12_undo_21 n) y1 σ = some R := h
      unfold b_X12_undo_21 at h
      refine a_iload_n C dX12_undo_21 (i := 1) rfl rfl ?_
      refine a_bipush C dX12_undo_22 (v := 29) rfl ?_
      refine p_ic_ge C (X := y1.toInt) (Y := 29) rfl (by decide) dX12_undo_24 (tgt := 53) rfl h (fun h => ?_) (fun h => ?_)
      ·
        refine a_iconst C dX12_undo_53 (v := 1) rfl ?_
        exact a_iret Rt dX12_undo_54 (nar_z (by decide)).1 (ret_eq (h.trans (congrArg some hR.symm)))
      ·
        refine a_aload_n C dX12_undo_27 (i := 0) rfl rfl ?_
        refine a_get C fl_RX12_107 (i := 236) kd_236 (hid 236 (by decide)) (v := .ref (ad 266)) rfl dX12_undo_28 ?_
        refine a_iload_n C dX12_undo_31 (i := 1) rfl rfl ?_
        refine a_aload_n C dX12_undo_32 (i := 0) rfl rfl ?_
        refine a_get C fl_RX12_113 (i := 236) kd_236 (hid 236 (by decide)) (v := .ref (ad 268)) rfl dX12_undo_33 ?_
        refine a_bipush C dX12_undo_36 (v := 29) rfl ?_
        refine a_aload_n C dX12_undo_38 (i := 0) rfl rfl ?_
        refine a_get C fl_RX12_239 (i := 236) kd_236 (hid 236 (by decide)) (v := .int (σ.1 236 54)) rfl dX12_undo_39 ?_
        refine a_imul C dX12_undo_42 ?_
        refine a_iload_n C dX12_undo_43 (i := 1) rfl rfl ?_
        refine a_iadd C dX12_undo_44 ?_
        refine p_iald C (i := 268) (show rowOK 268 from ⟨kd_268, by decide⟩) hid (by rw [al_268]; rfl) dX12_undo_45 h (fun h => ?_)
        refine p_iast C (i := 266) (show rowOK 266 from ⟨kd_266, by decide⟩) hid (by rw [al_266]; rfl) dX12_undo_46 h (fun σ1 h => ?_)
        refine p_iinc C (y := (y1 + 1)) (fun z2 => [some (.ref (ad 236)), some (.int z2)]) dX12_undo_47 rfl rfl (by decide) rfl (fun _ => rfl) h (fun z2 h => ?_)
        refine a_goto C dX12_undo_50 (tgt := 21) rfl ?_
        exact ih _ _ h
  refine a_aload_n C dX12_undo_0 (i := 0) rfl rfl ?_
  refine a_get C fl_RX12_239 (i := 236) kd_236 (hid 236 (by decide)) (v := .int (σ.1 236 54)) rfl dX12_undo_1 ?_
  refine p_if_ne C (X := (σ.1 236 54).toInt) rfl dX12_undo_4 (tgt := 9) rfl h (fun h => ?_) (fun h => ?_)
  ·
    refine a_aload_n C dX12_undo_9 (i := 0) rfl rfl ?_
    refine a_dup C dX12_undo_10 rfl ?_
    refine a_get C fl_RX12_239 (i := 236) kd_236 (hid 236 (by decide)) (v := .int (σ.1 236 54)) rfl dX12_undo_11 ?_
    refine a_iconst C dX12_undo_14 (v := 1) rfl ?_
    refine a_isub C dX12_undo_15 ?_
    refine p_put C fp_RX12_239 (i := 236) kd_236 (hid 236 (by decide)) rfl rfl dX12_undo_16 h (fun σ1 h => ?_)
    refine a_iconst C dX12_undo_19 (v := 0) rfl ?_
    refine a_istore_n C dX12_undo_20 (i := 1) rfl (by decide) rfl (vs1 := [some (.ref (ad 236)), some (.int 0)]) rfl ?_
    exact j21 _ _ _ h
  ·
    refine a_iconst C dX12_undo_7 (v := 0) rfl ?_
    exact a_iret Rt dX12_undo_8 (nar_z (by decide)).1 (ret_eq (h.trans (congrArg some hR.symm)))
set_option maxHeartbeats 4000000 in
set_option maxRecDepth 100000 in
theorem Z_X12_takesPattern {l : Launch} {D : va_G} {ids : List Nat} {ad : Nat → Nat} {ca : Nat → ClassId} {σ : HS} {x1 : Int32} {x2 : Int32} {s0 : HS} (hid : ∀ i, i < 277 → i ∈ ids) (h : f_X12_takesPattern x1 x2 σ = some s0) : Kv l D ids ad ca yX12_takesPattern cX12_takesPattern 4 2 43 [.ref (ad 236), .int x1, .int x2] σ (fun σ1 => σ1 = s0) := by
  obtain ⟨R, hR⟩ : ∃ R, s0 = R := ⟨_, rfl⟩
  replace h := h.trans (congrArg some hR)
  refine Kv.of (by decide) (Nat.le_of_ble_eq_true rfl) 1 (fun Γ C Rt => ?_)
  show AW ids ad ca Γ 0 [some (.ref (ad 236)), some (.int x1), some (.int x2), none] [] σ
  unfold f_X12_takesPattern at h
  have j2 : ∀ (n : Nat) (y1 : Int32) (y2 : Int32) (y3 : Int32) (σ : HS), f_X12_takesPattern_2 n y1 y2 y3 σ = some R → AW ids ad ca Γ 2 [some (.ref (ad 236)), some (.int y1), some (.int y2), some (.int y3)] [] σ := by
    intro n
    induction n with
    | zero => intro y1 y2 y3 σ h; exact nn h
    | succ n ih =>
      intro y1 y2 y3 σ h
      have h : b_X12_takesPattern_2 (f_X12_takesPattern_2 n) y1 y2 y3 σ = some R := h
      unfold b_X12_takesPattern_2 at h
      refine a_iload_n C dX12_takesPattern_2 (i := 3) rfl rfl ?_
      refine a_aload_n C dX12_takesPattern_3 (i := 0) rfl rfl ?_
      refine a_iload_n C dX12_takesPattern_4 (i := 1) rfl rfl ?_
      refine p_callVi C (As := [.int y1]) (i := 236) kd_236 (hid 236 (by decide)) ⟨_, _, rfl⟩ (by decide) h (fun _ _ e => Z_X12_lengthOf hid e) mi_X12_lengthOf ml_RX12_318 rfl rfl (Nat.le_of_ble_eq_true rfl) (Nat.le_of_ble_eq_true rfl) (Nat.le_of_ble_eq_true rfl) dX12_takesPattern_5 (fun r2 σ1 h => ?_)
      refine p_ic_ge C (X := y3.toInt) (Y := r2.toInt) rfl rfl dX12_takesPattern_8 (tgt := 31) rfl h (fun h => ?_) (fun h => ?_)
      ·
        refine a_aload_n C dX12_takesPattern_31 (i := 0) rfl rfl ?_
        refine a_iload_n C dX12_takesPattern_32 (i := 2) rfl rfl ?_
        refine a_aload_n C dX12_takesPattern_33 (i := 0) rfl rfl ?_
        refine a_iload_n C dX12_takesPattern_34 (i := 1) rfl rfl ?_
        refine p_callVi C (As := [.int y1]) (i := 236) kd_236 (hid 236 (by decide)) ⟨_, _, rfl⟩ (by decide) h (fun _ _ e => Z_X12_lengthOf hid e) mi_X12_lengthOf ml_RX12_318 rfl rfl (Nat.le_of_ble_eq_true rfl) (Nat.le_of_ble_eq_true rfl) (Nat.le_of_ble_eq_true rfl) dX12_takesPattern_35 (fun r4 σ3 h => ?_)
        refine a_iadd C dX12_takesPattern_38 ?_
        refine p_put C fp_RX12_408 (i := 236) kd_236 (hid 236 (by decide)) rfl rfl dX12_takesPattern_39 h (fun σ5 h => ?_)
        exact a_vret Rt dX12_takesPattern_42 (retv_eq (h.trans (congrArg some hR.symm)))
      ·
        refine a_aload_n C dX12_takesPattern_11 (i := 0) rfl rfl ?_
        refine a_get C fl_RX12_116 (i := 236) kd_236 (hid 236 (by decide)) (v := .ref (ad 269)) rfl dX12_takesPattern_12 ?_
        refine a_iload_n C dX12_takesPattern_15 (i := 2) rfl rfl ?_
        refine a_iload_n C dX12_takesPattern_16 (i := 3) rfl rfl ?_
        refine a_iadd C dX12_takesPattern_17 ?_
        refine a_aload_n C dX12_takesPattern_18 (i := 0) rfl rfl ?_
        refine a_iload_n C dX12_takesPattern_19 (i := 1) rfl rfl ?_
        refine a_iload_n C dX12_takesPattern_20 (i := 3) rfl rfl ?_
        refine p_callVi C (As := [.int y1, .int y3]) (i := 236) kd_236 (hid 236 (by decide)) ⟨_, _, rfl⟩ (by decide) h (fun _ _ e => Z_X12_heightAt hid e) mi_X12_heightAt ml_RX12_321 rfl rfl (Nat.le_of_ble_eq_true rfl) (Nat.le_of_ble_eq_true rfl) (Nat.le_of_ble_eq_true rfl) dX12_takesPattern_21 (fun r7 σ6 h => ?_)
        refine p_iast C (i := 269) (show rowOK 269 from ⟨kd_269, by decide⟩) hid (by rw [al_269]; rfl) dX12_takesPattern_24 h (fun σ8 h => ?_)
        refine p_iinc C (y := (y3 + 1)) (fun z9 => [some (.ref (ad 236)), some (.int y1), some (.int y2), some (.int z9)]) dX12_takesPattern_25 rfl rfl (by decide) rfl (fun _ => rfl) h (fun z9 h => ?_)
        refine a_goto C dX12_takesPattern_28 (tgt := 2) rfl ?_
        exact ih _ _ _ _ h
  refine a_iconst C dX12_takesPattern_0 (v := 0) rfl ?_
  refine a_istore_n C dX12_takesPattern_1 (i := 3) rfl (by decide) rfl (vs1 := [some (.ref (ad 236)), some (.int x1), some (.int x2), some (.int 0)]) rfl ?_
  exact j2 _ _ _ _ _ h


theorem dX12_tellOne_0 : decode cX12_tellOne 0 = .ok (.aload_n 0, 1) := by decide +kernel
theorem dX12_tellOne_1 : decode cX12_tellOne 1 = .ok (.getfield 20, 3) := by decide +kernel
theorem dX12_tellOne_4 : decode cX12_tellOne 4 = .ok (.aload_n 0, 1) := by decide +kernel
theorem dX12_tellOne_5 : decode cX12_tellOne 5 = .ok (.getfield 194, 3) := by decide +kernel
theorem dX12_tellOne_8 : decode cX12_tellOne 8 = .ok (.iaload, 1) := by decide +kernel
theorem dX12_tellOne_9 : decode cX12_tellOne 9 = .ok (.tableswitch 143 20 27 #[47, 76, 143, 143, 143, 143, 104, 123], 47) := by decide +kernel
theorem dX12_tellOne_56 : decode cX12_tellOne 56 = .ok (.aload_n 0, 1) := by decide +kernel
theorem dX12_tellOne_57 : decode cX12_tellOne 57 = .ok (.aload_n 0, 1) := by decide +kernel
theorem dX12_tellOne_58 : decode cX12_tellOne 58 = .ok (.getfield 43, 3) := by decide +kernel
theorem dX12_tellOne_61 : decode cX12_tellOne 61 = .ok (.aload_n 0, 1) := by decide +kernel
theorem dX12_tellOne_62 : decode cX12_tellOne 62 = .ok (.getfield 224, 3) := by decide +kernel
theorem dX12_tellOne_65 : decode cX12_tellOne 65 = .ok (.iaload, 1) := by decide +kernel
theorem dX12_tellOne_66 : decode cX12_tellOne 66 = .ok (.bipush 7, 2) := by decide +kernel
theorem dX12_tellOne_68 : decode cX12_tellOne 68 = .ok (.invokevirtual 252, 3) := by decide +kernel
theorem dX12_tellOne_71 : decode cX12_tellOne 71 = .ok (.aload_n 0, 1) := by decide +kernel
theorem dX12_tellOne_72 : decode cX12_tellOne 72 = .ok (.getfield 191, 3) := by decide +kernel
theorem dX12_tellOne_75 : decode cX12_tellOne 75 = .ok (.ifCond .ne 130, 3) := by decide +kernel
theorem dX12_tellOne_78 : decode cX12_tellOne 78 = .ok (.aload_n 0, 1) := by decide +kernel
theorem dX12_tellOne_79 : decode cX12_tellOne 79 = .ok (.invokevirtual 256, 3) := by decide +kernel
theorem dX12_tellOne_82 : decode cX12_tellOne 82 = .ok (.goto 123, 3) := by decide +kernel
theorem dX12_tellOne_85 : decode cX12_tellOne 85 = .ok (.aload_n 0, 1) := by decide +kernel
theorem dX12_tellOne_86 : decode cX12_tellOne 86 = .ok (.aload_n 0, 1) := by decide +kernel
theorem dX12_tellOne_87 : decode cX12_tellOne 87 = .ok (.getfield 55, 3) := by decide +kernel
theorem dX12_tellOne_90 : decode cX12_tellOne 90 = .ok (.aload_n 0, 1) := by decide +kernel
theorem dX12_tellOne_91 : decode cX12_tellOne 91 = .ok (.getfield 224, 3) := by decide +kernel
theorem dX12_tellOne_94 : decode cX12_tellOne 94 = .ok (.iaload, 1) := by decide +kernel
theorem dX12_tellOne_95 : decode cX12_tellOne 95 = .ok (.iconst 5, 1) := by decide +kernel
theorem dX12_tellOne_96 : decode cX12_tellOne 96 = .ok (.invokevirtual 252, 3) := by decide +kernel
theorem dX12_tellOne_99 : decode cX12_tellOne 99 = .ok (.aload_n 0, 1) := by decide +kernel
theorem dX12_tellOne_100 : decode cX12_tellOne 100 = .ok (.getfield 191, 3) := by decide +kernel
theorem dX12_tellOne_103 : decode cX12_tellOne 103 = .ok (.ifCond .ne 102, 3) := by decide +kernel
theorem dX12_tellOne_106 : decode cX12_tellOne 106 = .ok (.aload_n 0, 1) := by decide +kernel
theorem dX12_tellOne_107 : decode cX12_tellOne 107 = .ok (.invokevirtual 259, 3) := by decide +kernel
theorem dX12_tellOne_110 : decode cX12_tellOne 110 = .ok (.goto 95, 3) := by decide +kernel
theorem dX12_tellOne_113 : decode cX12_tellOne 113 = .ok (.aload_n 0, 1) := by decide +kernel
theorem dX12_tellOne_114 : decode cX12_tellOne 114 = .ok (.getfield 64, 3) := by decide +kernel
theorem dX12_tellOne_117 : decode cX12_tellOne 117 = .ok (.aload_n 0, 1) := by decide +kernel
theorem dX12_tellOne_118 : decode cX12_tellOne 118 = .ok (.getfield 224, 3) := by decide +kernel
theorem dX12_tellOne_121 : decode cX12_tellOne 121 = .ok (.aload_n 0, 1) := by decide +kernel
theorem dX12_tellOne_122 : decode cX12_tellOne 122 = .ok (.iconst 0, 1) := by decide +kernel
theorem dX12_tellOne_123 : decode cX12_tellOne 123 = .ok (.bipush 99, 2) := by decide +kernel
theorem dX12_tellOne_125 : decode cX12_tellOne 125 = .ok (.invokevirtual 262, 3) := by decide +kernel
theorem dX12_tellOne_128 : decode cX12_tellOne 128 = .ok (.iastore, 1) := by decide +kernel
theorem dX12_tellOne_129 : decode cX12_tellOne 129 = .ok (.goto 76, 3) := by decide +kernel
theorem dX12_tellOne_132 : decode cX12_tellOne 132 = .ok (.aload_n 0, 1) := by decide +kernel
theorem dX12_tellOne_133 : decode cX12_tellOne 133 = .ok (.getfield 67, 3) := by decide +kernel
theorem dX12_tellOne_136 : decode cX12_tellOne 136 = .ok (.aload_n 0, 1) := by decide +kernel
theorem dX12_tellOne_137 : decode cX12_tellOne 137 = .ok (.getfield 224, 3) := by decide +kernel
theorem dX12_tellOne_140 : decode cX12_tellOne 140 = .ok (.aload_n 0, 1) := by decide +kernel
theorem dX12_tellOne_141 : decode cX12_tellOne 141 = .ok (.iconst 0, 1) := by decide +kernel
theorem dX12_tellOne_142 : decode cX12_tellOne 142 = .ok (.sipush 9999, 3) := by decide +kernel
theorem dX12_tellOne_145 : decode cX12_tellOne 145 = .ok (.invokevirtual 262, 3) := by decide +kernel
theorem dX12_tellOne_148 : decode cX12_tellOne 148 = .ok (.iastore, 1) := by decide +kernel
theorem dX12_tellOne_149 : decode cX12_tellOne 149 = .ok (.goto 56, 3) := by decide +kernel
theorem dX12_tellOne_152 : decode cX12_tellOne 152 = .ok (.aload_n 0, 1) := by decide +kernel
theorem dX12_tellOne_153 : decode cX12_tellOne 153 = .ok (.getfield 20, 3) := by decide +kernel
theorem dX12_tellOne_156 : decode cX12_tellOne 156 = .ok (.aload_n 0, 1) := by decide +kernel
theorem dX12_tellOne_157 : decode cX12_tellOne 157 = .ok (.getfield 194, 3) := by decide +kernel
theorem dX12_tellOne_160 : decode cX12_tellOne 160 = .ok (.iaload, 1) := by decide +kernel
theorem dX12_tellOne_161 : decode cX12_tellOne 161 = .ok (.bipush 22, 2) := by decide +kernel
theorem dX12_tellOne_163 : decode cX12_tellOne 163 = .ok (.isub, 1) := by decide +kernel
theorem dX12_tellOne_164 : decode cX12_tellOne 164 = .ok (.istore_n 1, 1) := by decide +kernel
theorem dX12_tellOne_165 : decode cX12_tellOne 165 = .ok (.iload_n 1, 1) := by decide +kernel
theorem dX12_tellOne_166 : decode cX12_tellOne 166 = .ok (.ifCond .lt 17, 3) := by decide +kernel
theorem dX12_tellOne_169 : decode cX12_tellOne 169 = .ok (.aload_n 0, 1) := by decide +kernel
theorem dX12_tellOne_170 : decode cX12_tellOne 170 = .ok (.getfield 20, 3) := by decide +kernel
theorem dX12_tellOne_173 : decode cX12_tellOne 173 = .ok (.aload_n 0, 1) := by decide +kernel
theorem dX12_tellOne_174 : decode cX12_tellOne 174 = .ok (.getfield 194, 3) := by decide +kernel
theorem dX12_tellOne_177 : decode cX12_tellOne 177 = .ok (.iaload, 1) := by decide +kernel
theorem dX12_tellOne_178 : decode cX12_tellOne 178 = .ok (.bipush 25, 2) := by decide +kernel
theorem dX12_tellOne_180 : decode cX12_tellOne 180 = .ok (.if_icmp .le 8, 3) := by decide +kernel
theorem dX12_tellOne_183 : decode cX12_tellOne 183 = .ok (.aload_n 0, 1) := by decide +kernel
theorem dX12_tellOne_184 : decode cX12_tellOne 184 = .ok (.iconst 1, 1) := by decide +kernel
theorem dX12_tellOne_185 : decode cX12_tellOne 185 = .ok (.invokevirtual 206, 3) := by decide +kernel
theorem dX12_tellOne_188 : decode cX12_tellOne 188 = .ok (.aload_n 0, 1) := by decide +kernel
theorem dX12_tellOne_189 : decode cX12_tellOne 189 = .ok (.getfield 191, 3) := by decide +kernel
theorem dX12_tellOne_192 : decode cX12_tellOne 192 = .ok (.ifCond .le 4, 3) := by decide +kernel
theorem dX12_tellOne_195 : decode cX12_tellOne 195 = .ok (.return_, 1) := by decide +kernel
theorem dX12_tellOne_196 : decode cX12_tellOne 196 = .ok (.aload_n 0, 1) := by decide +kernel
theorem dX12_tellOne_197 : decode cX12_tellOne 197 = .ok (.invokevirtual 212, 3) := by decide +kernel
theorem dX12_tellOne_200 : decode cX12_tellOne 200 = .ok (.aload_n 0, 1) := by decide +kernel
theorem dX12_tellOne_201 : decode cX12_tellOne 201 = .ok (.iload_n 1, 1) := by decide +kernel
theorem dX12_tellOne_202 : decode cX12_tellOne 202 = .ok (.invokevirtual 265, 3) := by decide +kernel
theorem dX12_tellOne_205 : decode cX12_tellOne 205 = .ok (.return_, 1) := by decide +kernel
set_option maxHeartbeats 4000000 in
set_option maxRecDepth 100000 in
theorem S_X12_tellOne_236 {l : Launch} {D : va_G} {ids : List Nat} {ad : Nat → Nat} {ca : Nat → ClassId} {σ : HS} (hid : ∀ i, i < 277 → i ∈ ids) (hG : GIm σ) {s : HS} (hR : AGm s σ) (hp0 : (σ.1 236 19).toInt + (s.1 236 18).toInt = 1) (hp1 : (σ.1 236 13).toInt = 0) (hp2 : RDI σ) : Kv l D ids ad ca yX12_tellOne cX12_tellOne 2 6 126 [.ref (ad 236)] σ (fun σ1 => (GIm σ1) ∧ (onm [244, 245, 246, 247, 248, 249, 250, 251, 252, 253, 254, 255, 256, 257, 258, 259, 260, 261, 262, 263, 1011, 1012, 1013, 1014, 1015, 1016, 1020, 1033, 1039, 1043] σ σ1) ∧ (AGm s σ1) ∧ ((σ1.1 236 13).toInt = 0 → (σ.1 236 11).toInt + 1 ≤ (σ1.1 236 11).toInt) ∧ ((σ.1 236 11).toInt ≤ (σ1.1 236 11).toInt) ∧ (RDI σ1)) := by
  refine Kv.of (by decide) (Nat.le_of_ble_eq_true rfl) 1 (fun Γ C Rt => ?_)
  show AW ids ad ca Γ 0 [some (.ref (ad 236)), none] [] σ
  have j188 : ∀ (σq188 : HS) (y188_1 : Int32), GIm σq188 → onm [244, 245, 246, 247, 248, 249, 250, 251, 252, 253, 254, 255, 256, 257, 258, 259, 260, 261, 262, 263, 1011, 1012, 1013, 1014, 1015, 1016, 1020, 1033, 1039, 1043] σ σq188 → AGm s σq188 → -22 ≤ y188_1.toInt ∧ y188_1.toInt ≤ 17 → (0 ≤ (σq188.1 236 13).toInt) → ((σq188.1 236 13).toInt = 0 → 0 ≤ y188_1.toInt) → ((σq188.1 236 13).toInt = 0 → y188_1.toInt ≤ 3) → (onm [1013, 1014] σ σq188) → AW ids ad ca Γ 188 [some (.ref (ad 236)), some (.int y188_1)] [] σq188 := by
    intro σq188 y188_1 hGq188 hoq188 hRq188 hx188_0 hx188_1 hx188_2 hx188_3 hx188_4
    have g1 := bF_236_11 hGq188
    have g2 := bF_236_12 hGq188
    have g3 := bF_236_13 hGq188
    have g4 := bF_236_19 hGq188
    have g5 : (σq188.1 236 19).toInt = (σ.1 236 19).toInt := congrArg Int32.toInt (hoq188.1 236 19 (by decide))
    have g6 := bF_236_20 hGq188
    obtain ⟨gL, gN, gI1, gI2, gI3, gI4, gI5, gI6⟩ := hp2 (by omega)
    have gth := bA_245 hG (σ.1 236 19).toInt.toNat
    have gpt := bA_249 hG (σ.1 236 19).toInt.toNat
    have g188_11 : (σq188.1 236 11).toInt = (σ.1 236 11).toInt := congrArg Int32.toInt (hx188_4.1 236 11 (by decide))
    have g188_12 : (σq188.1 236 12).toInt = (σ.1 236 12).toInt := congrArg Int32.toInt (hx188_4.1 236 12 (by decide))
    have g188_19 : (σq188.1 236 19).toInt = (σ.1 236 19).toInt := congrArg Int32.toInt (hx188_4.1 236 19 (by decide))
    have g188_20 : (σq188.1 236 20).toInt = (σ.1 236 20).toInt := congrArg Int32.toInt (hx188_4.1 236 20 (by decide))
    have g188_33 : (σq188.1 236 33).toInt = (σ.1 236 33).toInt := congrArg Int32.toInt (hx188_4.1 236 33 (by decide))
    have g188_39 : (σq188.1 236 39).toInt = (σ.1 236 39).toInt := congrArg Int32.toInt (hx188_4.1 236 39 (by decide))
    refine a_aload_n C dX12_tellOne_188 (i := 0) rfl rfl ?_
    refine a_get C fl_RX12_191 (i := 236) kd_236 (hid 236 (by decide)) (v := .int (σq188.1 236 13)) rfl dX12_tellOne_189 ?_
    refine s_if_le C dX12_tellOne_192 (tgt := 196) rfl (fun c7 => ?_) (fun c7 => ?_)
    ·
      refine a_aload_n C dX12_tellOne_196 (i := 0) rfl rfl ?_
      refine a_callVv C (i := 236) kd_236 (hid 236 (by decide)) ⟨_, _, rfl⟩ (by decide) (S_X12_goesOn_236 hid hGq188) mi_X12_goesOn ml_RX12_212 rfl rfl (Nat.le_of_ble_eq_true rfl) (Nat.le_of_ble_eq_true rfl) (Nat.le_of_ble_eq_true rfl) dX12_tellOne_197 (fun σ9 q10 => ?_)
      obtain ⟨hG11, ho12, w14, w15, w16, w17⟩ := q10
      have hR13 := AGm.ony hRq188 ho12 (by decide)
      have g18 := bF_236_11 hG11
      have g19 := bF_236_12 hG11
      have g20 : (σ9.1 236 12).toInt = (σq188.1 236 12).toInt := congrArg Int32.toInt (ho12.1 236 12 (by decide))
      have g21 := bF_236_13 hG11
      have g22 := bF_236_19 hG11
      have g23 : (σ9.1 236 19).toInt = (σq188.1 236 19).toInt := congrArg Int32.toInt (ho12.1 236 19 (by decide))
      have g24 := bF_236_20 hG11
      have g25 : (σ9.1 236 20).toInt = (σq188.1 236 20).toInt := congrArg Int32.toInt (ho12.1 236 20 (by decide))
      have g26 : (σ9.1 236 33).toInt = (σq188.1 236 33).toInt := congrArg Int32.toInt (ho12.1 236 33 (by decide))
      have g27 : (σ9.1 236 39).toInt = (σq188.1 236 39).toInt := congrArg Int32.toInt (ho12.1 236 39 (by decide))
      refine a_aload_n C dX12_tellOne_200 (i := 0) rfl rfl ?_
      refine a_iload_n C dX12_tellOne_201 (i := 1) rfl rfl ?_
      refine a_callVv C (i := 236) kd_236 (hid 236 (by decide)) ⟨_, _, rfl⟩ (by decide) (S_X12_tellLaw_236 (x1 := y188_1) hid hG11 hR13 (by omega) (by omega) (by omega) (by omega) (by omega) (by omega) (by omega) (by omega) (by omega) (fun h9 => LAW.ony (LAW.ony gL hx188_4 (by decide)) ho12 (by decide))) mi_X12_tellLaw ml_RX12_265 rfl rfl (Nat.le_of_ble_eq_true rfl) (Nat.le_of_ble_eq_true rfl) (Nat.le_of_ble_eq_true rfl) dX12_tellOne_202 (fun σ29 q30 => ?_)
      obtain ⟨hG31, ho32, hR33, w34, w35, w36, w37, w38, w39, w40, w41, w42⟩ := q30
      have g43 := bF_236_11 hG31
      have g44 := bF_236_12 hG31
      have g45 := bF_236_13 hG31
      have g46 := bF_236_19 hG31
      have g47 : (σ29.1 236 19).toInt = (σ9.1 236 19).toInt := congrArg Int32.toInt (ho32.1 236 19 (by decide))
      have g48 := bF_236_20 hG31
      have g49 : (σ29.1 236 20).toInt = (σ9.1 236 20).toInt := congrArg Int32.toInt (ho32.1 236 20 (by decide))
      exact a_vret Rt dX12_tellOne_205 (⟨hG31, (onm.tr (onm.tr hoq188 (onm.mono ho12 (by decide))) (onm.mono ho32 (by decide))), hR33, (show (σ29.1 236 13).toInt = 0 → (σ.1 236 11).toInt + 1 ≤ (σ29.1 236 11).toInt by intros; omega), (show (σ.1 236 11).toInt ≤ (σ29.1 236 11).toInt by intros; omega), (fun h9 => by
          have e245 : (σ29.1 245 (σ29.1 236 19).toInt.toNat).toInt = (σ.1 245 (σ.1 236 19).toInt.toNat).toInt := congrArg Int32.toInt (by rw [show (σ29.1 236 19).toInt.toNat = (σ.1 236 19).toInt.toNat by omega]; exact congrFun ((show σ29.1 245 = σq188.1 245 from ((ho32.a (i := 245) (by decide)).trans (ho12.a (i := 245) (by decide)))).trans (hx188_4.a (i := 245) (by decide))) _)
          have e249 : (σ29.1 249 (σ29.1 236 19).toInt.toNat).toInt = (σ.1 249 (σ.1 236 19).toInt.toNat).toInt := congrArg Int32.toInt (by rw [show (σ29.1 236 19).toInt.toNat = (σ.1 236 19).toInt.toNat by omega]; exact congrFun ((show σ29.1 249 = σq188.1 249 from ((ho32.a (i := 249) (by decide)).trans (ho12.a (i := 249) (by decide)))).trans (hx188_4.a (i := 249) (by decide))) _)
          exact ⟨w42 h9, (LNG.ony (LNG.ony (LNG.ony gN hx188_4 (by decide) (by decide) (by decide)) ho12 (by decide) (by decide) (by decide)) ho32 (by decide) (by decide) (by decide)), by omega, by omega, by omega, by omega, by omega, by omega⟩)⟩)
    ·
      exact a_vret Rt dX12_tellOne_195 (⟨hGq188, hoq188, hRq188, (show (σq188.1 236 13).toInt = 0 → (σ.1 236 11).toInt + 1 ≤ (σq188.1 236 11).toInt by intros; omega), (show (σ.1 236 11).toInt ≤ (σq188.1 236 11).toInt by intros; omega), (fun h9 => absurd h9 (by omega))⟩)
  have j183 : ∀ (σq183 : HS) (y183_1 : Int32), GIm σq183 → onm [244, 245, 246, 247, 248, 249, 250, 251, 252, 253, 254, 255, 256, 257, 258, 259, 260, 261, 262, 263, 1011, 1012, 1013, 1014, 1015, 1016, 1020, 1033, 1039, 1043] σ σq183 → AGm s σq183 → -22 ≤ y183_1.toInt ∧ y183_1.toInt ≤ 17 → (onm [1013, 1014] σ σq183) → AW ids ad ca Γ 183 [some (.ref (ad 236)), some (.int y183_1)] [] σq183 := by
    intro σq183 y183_1 hGq183 hoq183 hRq183 hx183_0 hx183_1
    refine a_aload_n C dX12_tellOne_183 (i := 0) rfl rfl ?_
    refine s_iconst C dX12_tellOne_184 (1) (by decide) (fun z50 h51 => ?_)
    have g55 := bF_236_13 hGq183
    refine a_callVv C (i := 236) kd_236 (hid 236 (by decide)) ⟨_, _, rfl⟩ (by decide) (S_X12_fail_236 (x1 := z50) hid hGq183 (by omega)) mi_X12_fail ml_RX12_206 rfl rfl (Nat.le_of_ble_eq_true rfl) (Nat.le_of_ble_eq_true rfl) (Nat.le_of_ble_eq_true rfl) dX12_tellOne_185 (fun σ53 q54 => ?_)
    obtain ⟨hG56, ho57, w59, w60⟩ := q54
    have hR58 := AGm.ony hRq183 ho57 (by decide)
    have g61 := bF_236_13 hG56
    exact j188 _ y183_1 hG56 (onm.tr hoq183 (onm.mono ho57 (by decide))) hR58 (by omega) (show 0 ≤ (σ53.1 236 13).toInt by omega) (show (σ53.1 236 13).toInt = 0 → 0 ≤ y183_1.toInt by omega) (show (σ53.1 236 13).toInt = 0 → y183_1.toInt ≤ 3 by omega) (onm.tr hx183_1 (show onm [1013, 1014] σq183 σ53 from ho57))
  have g62 := bF_236_11 hG
  have g63 := bF_236_12 hG
  have g64 := bF_236_13 hG
  have g65 := bF_236_19 hG
  have g66 := bF_236_20 hG
  obtain ⟨gL, gN, gI1, gI2, gI3, gI4, gI5, gI6⟩ := hp2 (by omega)
  have gth := bA_245 hG (σ.1 236 19).toInt.toNat
  have gpt := bA_249 hG (σ.1 236 19).toInt.toNat
  refine a_aload_n C dX12_tellOne_0 (i := 0) rfl rfl ?_
  refine a_get C fl_RX12_20 (i := 236) kd_236 (hid 236 (by decide)) (v := .ref (ad 239)) rfl dX12_tellOne_1 ?_
  refine a_aload_n C dX12_tellOne_4 (i := 0) rfl rfl ?_
  refine a_get C fl_RX12_194 (i := 236) kd_236 (hid 236 (by decide)) (v := .int (σ.1 236 11)) rfl dX12_tellOne_5 ?_
  refine s_iald C (i := 239) kd_239 (hid 239 (by decide)) al_239 (by omega) (by omega) dX12_tellOne_8 (fun n67 h68 => ?_)
  refine s_val (fun z69 e70 => ?_)
  have g71 := bA_239 hG n67
  rw [e70] at g71
  by_cases hsw : z69.toInt < 20 ∨ 27 < z69.toInt
  ·
    refine a_tableOut C dX12_tellOne_9 hsw (tgt := 152) rfl ?_
    refine a_aload_n C dX12_tellOne_152 (i := 0) rfl rfl ?_
    refine a_get C fl_RX12_20 (i := 236) kd_236 (hid 236 (by decide)) (v := .ref (ad 239)) rfl dX12_tellOne_153 ?_
    refine a_aload_n C dX12_tellOne_156 (i := 0) rfl rfl ?_
    refine a_get C fl_RX12_194 (i := 236) kd_236 (hid 236 (by decide)) (v := .int (σ.1 236 11)) rfl dX12_tellOne_157 ?_
    refine s_iald C (i := 239) kd_239 (hid 239 (by decide)) al_239 (by omega) (by omega) dX12_tellOne_160 (fun n72 h73 => ?_)
    refine s_val (fun z74 e75 => ?_)
    have g76 : z74.toInt = z69.toInt := congrArg Int32.toInt (e75.symm.trans ((congrArg (σ.1 239) (show n72 = n67 by omega)).trans e70))
    have g77 := bA_239 hG n72
    rw [e75] at g77
    refine s_bipush C dX12_tellOne_161 (22) (by decide) (fun z78 h79 => ?_)
    refine s_isub C dX12_tellOne_163 (by omega) (fun z80 h81 => ?_)
    refine a_istore_n C dX12_tellOne_164 (i := 1) rfl (by decide) rfl (vs1 := [some (.ref (ad 236)), some (.int z80)]) rfl ?_
    refine a_iload_n C dX12_tellOne_165 (i := 1) rfl rfl ?_
    refine s_if_lt C dX12_tellOne_166 (tgt := 183) rfl (fun c82 => ?_) (fun c82 => ?_)
    ·
      exact j183 _ z80 hG onm.rf hR (by omega) onm.rf
    ·
      refine a_aload_n C dX12_tellOne_169 (i := 0) rfl rfl ?_
      refine a_get C fl_RX12_20 (i := 236) kd_236 (hid 236 (by decide)) (v := .ref (ad 239)) rfl dX12_tellOne_170 ?_
      refine a_aload_n C dX12_tellOne_173 (i := 0) rfl rfl ?_
      refine a_get C fl_RX12_194 (i := 236) kd_236 (hid 236 (by decide)) (v := .int (σ.1 236 11)) rfl dX12_tellOne_174 ?_
      refine s_iald C (i := 239) kd_239 (hid 239 (by decide)) al_239 (by omega) (by omega) dX12_tellOne_177 (fun n83 h84 => ?_)
      refine s_val (fun z85 e86 => ?_)
      have g87 : z85.toInt = z74.toInt := congrArg Int32.toInt (e86.symm.trans ((congrArg (σ.1 239) (show n83 = n72 by omega)).trans e75))
      have g88 := bA_239 hG n83
      rw [e86] at g88
      refine s_bipush C dX12_tellOne_178 (25) (by decide) (fun z89 h90 => ?_)
      refine s_ic_le C dX12_tellOne_180 (tgt := 188) rfl (fun c91 => ?_) (fun c91 => ?_)
      ·
        exact j188 _ z80 hG onm.rf hR (by omega) (show 0 ≤ (σ.1 236 13).toInt by omega) (show (σ.1 236 13).toInt = 0 → 0 ≤ z80.toInt by omega) (show (σ.1 236 13).toInt = 0 → z80.toInt ≤ 3 by omega) onm.rf
      ·
        exact j183 _ z80 hG onm.rf hR (by omega) onm.rf
  rcases (show z69.toInt = 20 ∨ z69.toInt = 21 ∨ z69.toInt = 22 ∨ z69.toInt = 23 ∨ z69.toInt = 24 ∨ z69.toInt = 25 ∨ z69.toInt = 26 ∨ z69.toInt = 27 by omega) with hq | hq | hq | hq | hq | hq | hq | hq
  ·
    refine a_tableIn C dX12_tellOne_9 (by omega) (by omega) (by rw [hq]; rfl) (tgt := 56) rfl ?_
    refine a_aload_n C dX12_tellOne_56 (i := 0) rfl rfl ?_
    refine a_aload_n C dX12_tellOne_57 (i := 0) rfl rfl ?_
    refine a_get C fl_RX12_43 (i := 236) kd_236 (hid 236 (by decide)) (v := .ref (ad 245)) rfl dX12_tellOne_58 ?_
    refine a_aload_n C dX12_tellOne_61 (i := 0) rfl rfl ?_
    refine a_get C fl_RX12_224 (i := 236) kd_236 (hid 236 (by decide)) (v := .int (σ.1 236 19)) rfl dX12_tellOne_62 ?_
    refine s_iald C (i := 245) kd_245 (hid 245 (by decide)) al_245 (by omega) (by omega) dX12_tellOne_65 (fun n92 h93 => ?_)
    refine s_val (fun z94 e95 => ?_)
    have g96 := bA_245 hG n92
    rw [e95] at g96
    have gt245 : (σ.1 245 (σ.1 236 19).toInt.toNat).toInt = z94.toInt := congrArg Int32.toInt (by rw [show (σ.1 236 19).toInt.toNat = n92 by omega]; exact e95)
    refine s_bipush C dX12_tellOne_66 (7) (by decide) (fun z97 h98 => ?_)
    refine a_callVv C (i := 236) kd_236 (hid 236 (by decide)) ⟨_, _, rfl⟩ (by decide) (S_X12_roomFor_236 (x1 := z94) (x2 := z97) hid hG) mi_X12_roomFor ml_RX12_252 rfl rfl (Nat.le_of_ble_eq_true rfl) (Nat.le_of_ble_eq_true rfl) (Nat.le_of_ble_eq_true rfl) dX12_tellOne_68 (fun σ100 q101 => ?_)
    obtain ⟨hG102, ho103, w105, w106, w107, w108, w109⟩ := q101
    have hR104 := AGm.ony hR ho103 (by decide)
    refine a_aload_n C dX12_tellOne_71 (i := 0) rfl rfl ?_
    have g110 := bF_236_13 hG102
    refine a_get C fl_RX12_191 (i := 236) kd_236 (hid 236 (by decide)) (v := .int (σ100.1 236 13)) rfl dX12_tellOne_72 ?_
    refine s_if_ne C dX12_tellOne_75 (tgt := 205) rfl (fun c111 => ?_) (fun c111 => ?_)
    ·
      have g112 := bF_236_11 hG102
      have g113 := bF_236_12 hG102
      have g114 : (σ100.1 236 12).toInt = (σ.1 236 12).toInt := congrArg Int32.toInt (ho103.1 236 12 (by decide))
      have g115 := bF_236_19 hG102
      have g116 : (σ100.1 236 19).toInt = (σ.1 236 19).toInt := congrArg Int32.toInt (ho103.1 236 19 (by decide))
      have g117 := bF_236_20 hG102
      have g118 : (σ100.1 236 20).toInt = (σ.1 236 20).toInt := congrArg Int32.toInt (ho103.1 236 20 (by decide))
      have g119 : (σ100.1 236 33).toInt = (σ.1 236 33).toInt := congrArg Int32.toInt (ho103.1 236 33 (by decide))
      have g120 : (σ100.1 236 39).toInt = (σ.1 236 39).toInt := congrArg Int32.toInt (ho103.1 236 39 (by decide))
      exact a_vret Rt dX12_tellOne_205 (⟨hG102, (onm.tr onm.rf (onm.mono ho103 (by decide))), hR104, (show (σ100.1 236 13).toInt = 0 → (σ.1 236 11).toInt + 1 ≤ (σ100.1 236 11).toInt by intros; omega), (show (σ.1 236 11).toInt ≤ (σ100.1 236 11).toInt by intros; omega), (fun h9 => absurd h9 (by omega))⟩)
    ·
      refine a_aload_n C dX12_tellOne_78 (i := 0) rfl rfl ?_
      have g124 := bF_236_19 hG102
      have g125 : (σ100.1 236 19).toInt = (σ.1 236 19).toInt := congrArg Int32.toInt (ho103.1 236 19 (by decide))
      have g126 := bF_236_20 hG102
      have g127 : (σ100.1 236 20).toInt = (σ.1 236 20).toInt := congrArg Int32.toInt (ho103.1 236 20 (by decide))
      have g128 := bF_236_11 hG102
      have ga_245 : (σ100.1 245 (σ100.1 236 19).toInt.toNat).toInt = (σ.1 245 (σ.1 236 19).toInt.toNat).toInt := congrArg Int32.toInt (by rw [show (σ100.1 236 19).toInt.toNat = (σ.1 236 19).toInt.toNat by omega]; exact congrFun (show σ100.1 245 = σ.1 245 from (ho103.a (i := 245) (by decide))) _)
      have ga_249 : (σ100.1 249 (σ100.1 236 19).toInt.toNat).toInt = (σ.1 249 (σ.1 236 19).toInt.toNat).toInt := congrArg Int32.toInt (by rw [show (σ100.1 236 19).toInt.toNat = (σ.1 236 19).toInt.toNat by omega]; exact congrFun (show σ100.1 249 = σ.1 249 from (ho103.a (i := 249) (by decide))) _)
      refine a_callVv C (i := 236) kd_236 (hid 236 (by decide)) ⟨_, _, rfl⟩ (by decide) (S_X12_tellThing_236 hid hG102 (by omega) (by omega)) mi_X12_tellThing ml_RX12_256 rfl rfl (Nat.le_of_ble_eq_true rfl) (Nat.le_of_ble_eq_true rfl) (Nat.le_of_ble_eq_true rfl) dX12_tellOne_79 (fun σ122 q123 => ?_)
      obtain ⟨hG129, ho130, w132, w133, w134, w135, w136⟩ := q123
      have hR131 := AGm.ony hR104 ho130 (by decide)
      have g137 := bF_236_11 hG129
      have g138 := bF_236_12 hG129
      have g139 := bF_236_12 hG102
      have g140 : (σ100.1 236 12).toInt = (σ.1 236 12).toInt := congrArg Int32.toInt (ho103.1 236 12 (by decide))
      have g141 : (σ122.1 236 12).toInt = (σ100.1 236 12).toInt := congrArg Int32.toInt (ho130.1 236 12 (by decide))
      have g142 := bF_236_13 hG129
      have g143 := bF_236_19 hG129
      have g144 : (σ122.1 236 19).toInt = (σ100.1 236 19).toInt := congrArg Int32.toInt (ho130.1 236 19 (by decide))
      have g145 := bF_236_20 hG129
      have g146 : (σ100.1 236 33).toInt = (σ.1 236 33).toInt := congrArg Int32.toInt (ho103.1 236 33 (by decide))
      have g147 : (σ122.1 236 33).toInt = (σ100.1 236 33).toInt := congrArg Int32.toInt (ho130.1 236 33 (by decide))
      have g148 : (σ100.1 236 39).toInt = (σ.1 236 39).toInt := congrArg Int32.toInt (ho103.1 236 39 (by decide))
      have g149 : (σ122.1 236 39).toInt = (σ100.1 236 39).toInt := congrArg Int32.toInt (ho130.1 236 39 (by decide))
      refine a_goto C dX12_tellOne_82 (tgt := 205) rfl ?_
      exact a_vret Rt dX12_tellOne_205 (⟨hG129, (onm.tr (onm.tr onm.rf (onm.mono ho103 (by decide))) (onm.mono ho130 (by decide))), hR131, (show (σ122.1 236 13).toInt = 0 → (σ.1 236 11).toInt + 1 ≤ (σ122.1 236 11).toInt by intros; omega), (show (σ.1 236 11).toInt ≤ (σ122.1 236 11).toInt by intros; omega), (fun h9 => by
          have e1 : (σ122.1 245 (σ122.1 236 19).toInt.toNat).toInt = (σ.1 245 (σ.1 236 19).toInt.toNat).toInt + 1 := by rw [show (σ122.1 236 19).toInt.toNat = (σ100.1 236 19).toInt.toNat by omega]; have e9 := w136 (by omega); omega
          have e2 : (σ122.1 249 (σ122.1 236 19).toInt.toNat).toInt = (σ.1 249 (σ.1 236 19).toInt.toNat).toInt := congrArg Int32.toInt (by rw [show (σ122.1 236 19).toInt.toNat = (σ.1 236 19).toInt.toNat by omega]; exact congrFun (show σ122.1 249 = σ.1 249 from ((ho130.a (i := 249) (by decide)).trans (ho103.a (i := 249) (by decide)))) _)
          exact ⟨(LAW.ony (LAW.ony gL ho103 (by decide)) ho130 (by decide)), (LNG.ony (LNG.ony gN ho103 (by decide) (by decide) (by decide)) ho130 (by decide) (by decide) (by decide)), by omega, by omega, by omega, by omega, by omega, by omega⟩)⟩)
  ·
    refine a_tableIn C dX12_tellOne_9 (by omega) (by omega) (by rw [hq]; rfl) (tgt := 85) rfl ?_
    refine a_aload_n C dX12_tellOne_85 (i := 0) rfl rfl ?_
    refine a_aload_n C dX12_tellOne_86 (i := 0) rfl rfl ?_
    refine a_get C fl_RX12_55 (i := 236) kd_236 (hid 236 (by decide)) (v := .ref (ad 249)) rfl dX12_tellOne_87 ?_
    refine a_aload_n C dX12_tellOne_90 (i := 0) rfl rfl ?_
    refine a_get C fl_RX12_224 (i := 236) kd_236 (hid 236 (by decide)) (v := .int (σ.1 236 19)) rfl dX12_tellOne_91 ?_
    refine s_iald C (i := 249) kd_249 (hid 249 (by decide)) al_249 (by omega) (by omega) dX12_tellOne_94 (fun n150 h151 => ?_)
    refine s_val (fun z152 e153 => ?_)
    have g154 := bA_249 hG n150
    rw [e153] at g154
    have gt249 : (σ.1 249 (σ.1 236 19).toInt.toNat).toInt = z152.toInt := congrArg Int32.toInt (by rw [show (σ.1 236 19).toInt.toNat = n150 by omega]; exact e153)
    refine s_iconst C dX12_tellOne_95 (5) (by decide) (fun z155 h156 => ?_)
    refine a_callVv C (i := 236) kd_236 (hid 236 (by decide)) ⟨_, _, rfl⟩ (by decide) (S_X12_roomFor_236 (x1 := z152) (x2 := z155) hid hG) mi_X12_roomFor ml_RX12_252 rfl rfl (Nat.le_of_ble_eq_true rfl) (Nat.le_of_ble_eq_true rfl) (Nat.le_of_ble_eq_true rfl) dX12_tellOne_96 (fun σ158 q159 => ?_)
    obtain ⟨hG160, ho161, w163, w164, w165, w166, w167⟩ := q159
    have hR162 := AGm.ony hR ho161 (by decide)
    refine a_aload_n C dX12_tellOne_99 (i := 0) rfl rfl ?_
    have g168 := bF_236_13 hG160
    refine a_get C fl_RX12_191 (i := 236) kd_236 (hid 236 (by decide)) (v := .int (σ158.1 236 13)) rfl dX12_tellOne_100 ?_
    refine s_if_ne C dX12_tellOne_103 (tgt := 205) rfl (fun c169 => ?_) (fun c169 => ?_)
    ·
      have g170 := bF_236_11 hG160
      have g171 := bF_236_12 hG160
      have g172 : (σ158.1 236 12).toInt = (σ.1 236 12).toInt := congrArg Int32.toInt (ho161.1 236 12 (by decide))
      have g173 := bF_236_19 hG160
      have g174 : (σ158.1 236 19).toInt = (σ.1 236 19).toInt := congrArg Int32.toInt (ho161.1 236 19 (by decide))
      have g175 := bF_236_20 hG160
      have g176 : (σ158.1 236 20).toInt = (σ.1 236 20).toInt := congrArg Int32.toInt (ho161.1 236 20 (by decide))
      have g177 : (σ158.1 236 33).toInt = (σ.1 236 33).toInt := congrArg Int32.toInt (ho161.1 236 33 (by decide))
      have g178 : (σ158.1 236 39).toInt = (σ.1 236 39).toInt := congrArg Int32.toInt (ho161.1 236 39 (by decide))
      exact a_vret Rt dX12_tellOne_205 (⟨hG160, (onm.tr onm.rf (onm.mono ho161 (by decide))), hR162, (show (σ158.1 236 13).toInt = 0 → (σ.1 236 11).toInt + 1 ≤ (σ158.1 236 11).toInt by intros; omega), (show (σ.1 236 11).toInt ≤ (σ158.1 236 11).toInt by intros; omega), (fun h9 => absurd h9 (by omega))⟩)
    ·
      refine a_aload_n C dX12_tellOne_106 (i := 0) rfl rfl ?_
      have g182 := bF_236_19 hG160
      have g183 : (σ158.1 236 19).toInt = (σ.1 236 19).toInt := congrArg Int32.toInt (ho161.1 236 19 (by decide))
      have g184 := bF_236_20 hG160
      have g185 : (σ158.1 236 20).toInt = (σ.1 236 20).toInt := congrArg Int32.toInt (ho161.1 236 20 (by decide))
      have g186 := bF_236_11 hG160
      have gb_245 : (σ158.1 245 (σ158.1 236 19).toInt.toNat).toInt = (σ.1 245 (σ.1 236 19).toInt.toNat).toInt := congrArg Int32.toInt (by rw [show (σ158.1 236 19).toInt.toNat = (σ.1 236 19).toInt.toNat by omega]; exact congrFun (show σ158.1 245 = σ.1 245 from (ho161.a (i := 245) (by decide))) _)
      have gb_249 : (σ158.1 249 (σ158.1 236 19).toInt.toNat).toInt = (σ.1 249 (σ.1 236 19).toInt.toNat).toInt := congrArg Int32.toInt (by rw [show (σ158.1 236 19).toInt.toNat = (σ.1 236 19).toInt.toNat by omega]; exact congrFun (show σ158.1 249 = σ.1 249 from (ho161.a (i := 249) (by decide))) _)
      refine a_callVv C (i := 236) kd_236 (hid 236 (by decide)) ⟨_, _, rfl⟩ (by decide) (S_X12_tellPattern_236 hid hG160 hR162 (by omega) (by omega) (by omega) (LNG.ony gN ho161 (by decide) (by decide) (by decide))) mi_X12_tellPattern ml_RX12_259 rfl rfl (Nat.le_of_ble_eq_true rfl) (Nat.le_of_ble_eq_true rfl) (Nat.le_of_ble_eq_true rfl) dX12_tellOne_107 (fun σ180 q181 => ?_)
      obtain ⟨hG187, ho188, hR189, w190, w191, w192, w193, w194⟩ := q181
      have g195 := bF_236_11 hG187
      have g196 := bF_236_12 hG187
      have g197 := bF_236_12 hG160
      have g198 : (σ158.1 236 12).toInt = (σ.1 236 12).toInt := congrArg Int32.toInt (ho161.1 236 12 (by decide))
      have g199 : (σ180.1 236 12).toInt = (σ158.1 236 12).toInt := congrArg Int32.toInt (ho188.1 236 12 (by decide))
      have g200 := bF_236_13 hG187
      have g201 := bF_236_19 hG187
      have g202 : (σ180.1 236 19).toInt = (σ158.1 236 19).toInt := congrArg Int32.toInt (ho188.1 236 19 (by decide))
      have g203 := bF_236_20 hG187
      have g204 : (σ158.1 236 33).toInt = (σ.1 236 33).toInt := congrArg Int32.toInt (ho161.1 236 33 (by decide))
      have g205 : (σ180.1 236 33).toInt = (σ158.1 236 33).toInt := congrArg Int32.toInt (ho188.1 236 33 (by decide))
      have g206 : (σ158.1 236 39).toInt = (σ.1 236 39).toInt := congrArg Int32.toInt (ho161.1 236 39 (by decide))
      have g207 : (σ180.1 236 39).toInt = (σ158.1 236 39).toInt := congrArg Int32.toInt (ho188.1 236 39 (by decide))
      refine a_goto C dX12_tellOne_110 (tgt := 205) rfl ?_
      exact a_vret Rt dX12_tellOne_205 (⟨hG187, (onm.tr (onm.tr onm.rf (onm.mono ho161 (by decide))) (onm.mono ho188 (by decide))), hR189, (show (σ180.1 236 13).toInt = 0 → (σ.1 236 11).toInt + 1 ≤ (σ180.1 236 11).toInt by intros; omega), (show (σ.1 236 11).toInt ≤ (σ180.1 236 11).toInt by intros; omega), (fun h9 => by
          have e1 : (σ180.1 249 (σ180.1 236 19).toInt.toNat).toInt = (σ.1 249 (σ.1 236 19).toInt.toNat).toInt + 1 := by rw [show (σ180.1 236 19).toInt.toNat = (σ158.1 236 19).toInt.toNat by omega]; have e9 := w193 (by omega); omega
          have e2 : (σ180.1 245 (σ180.1 236 19).toInt.toNat).toInt = (σ.1 245 (σ.1 236 19).toInt.toNat).toInt := congrArg Int32.toInt (by rw [show (σ180.1 236 19).toInt.toNat = (σ.1 236 19).toInt.toNat by omega]; exact congrFun (show σ180.1 245 = σ.1 245 from ((ho188.a (i := 245) (by decide)).trans (ho161.a (i := 245) (by decide)))) _)
          exact ⟨(LAW.ony (LAW.ony gL ho161 (by decide)) ho188 (by decide)), w194, by omega, by omega, by omega, by omega, by omega, by omega⟩)⟩)
  ·
    refine a_tableIn C dX12_tellOne_9 (by omega) (by omega) (by rw [hq]; rfl) (tgt := 152) rfl ?_
    refine a_aload_n C dX12_tellOne_152 (i := 0) rfl rfl ?_
    refine a_get C fl_RX12_20 (i := 236) kd_236 (hid 236 (by decide)) (v := .ref (ad 239)) rfl dX12_tellOne_153 ?_
    refine a_aload_n C dX12_tellOne_156 (i := 0) rfl rfl ?_
    refine a_get C fl_RX12_194 (i := 236) kd_236 (hid 236 (by decide)) (v := .int (σ.1 236 11)) rfl dX12_tellOne_157 ?_
    refine s_iald C (i := 239) kd_239 (hid 239 (by decide)) al_239 (by omega) (by omega) dX12_tellOne_160 (fun n208 h209 => ?_)
    refine s_val (fun z210 e211 => ?_)
    have g212 : z210.toInt = z69.toInt := congrArg Int32.toInt (e211.symm.trans ((congrArg (σ.1 239) (show n208 = n67 by omega)).trans e70))
    have g213 := bA_239 hG n208
    rw [e211] at g213
    refine s_bipush C dX12_tellOne_161 (22) (by decide) (fun z214 h215 => ?_)
    refine s_isub C dX12_tellOne_163 (by omega) (fun z216 h217 => ?_)
    refine a_istore_n C dX12_tellOne_164 (i := 1) rfl (by decide) rfl (vs1 := [some (.ref (ad 236)), some (.int z216)]) rfl ?_
    refine a_iload_n C dX12_tellOne_165 (i := 1) rfl rfl ?_
    refine s_if_lt C dX12_tellOne_166 (tgt := 183) rfl (fun c218 => ?_) (fun c218 => ?_)
    ·
      exact j183 _ z216 hG onm.rf hR (by omega) onm.rf
    ·
      refine a_aload_n C dX12_tellOne_169 (i := 0) rfl rfl ?_
      refine a_get C fl_RX12_20 (i := 236) kd_236 (hid 236 (by decide)) (v := .ref (ad 239)) rfl dX12_tellOne_170 ?_
      refine a_aload_n C dX12_tellOne_173 (i := 0) rfl rfl ?_
      refine a_get C fl_RX12_194 (i := 236) kd_236 (hid 236 (by decide)) (v := .int (σ.1 236 11)) rfl dX12_tellOne_174 ?_
      refine s_iald C (i := 239) kd_239 (hid 239 (by decide)) al_239 (by omega) (by omega) dX12_tellOne_177 (fun n219 h220 => ?_)
      refine s_val (fun z221 e222 => ?_)
      have g223 : z221.toInt = z210.toInt := congrArg Int32.toInt (e222.symm.trans ((congrArg (σ.1 239) (show n219 = n208 by omega)).trans e211))
      have g224 := bA_239 hG n219
      rw [e222] at g224
      refine s_bipush C dX12_tellOne_178 (25) (by decide) (fun z225 h226 => ?_)
      refine s_ic_le C dX12_tellOne_180 (tgt := 188) rfl (fun c227 => ?_) (fun c227 => ?_)
      ·
        exact j188 _ z216 hG onm.rf hR (by omega) (show 0 ≤ (σ.1 236 13).toInt by omega) (show (σ.1 236 13).toInt = 0 → 0 ≤ z216.toInt by omega) (show (σ.1 236 13).toInt = 0 → z216.toInt ≤ 3 by omega) onm.rf
      ·
        exact j183 _ z216 hG onm.rf hR (by omega) onm.rf
  ·
    refine a_tableIn C dX12_tellOne_9 (by omega) (by omega) (by rw [hq]; rfl) (tgt := 152) rfl ?_
    refine a_aload_n C dX12_tellOne_152 (i := 0) rfl rfl ?_
    refine a_get C fl_RX12_20 (i := 236) kd_236 (hid 236 (by decide)) (v := .ref (ad 239)) rfl dX12_tellOne_153 ?_
    refine a_aload_n C dX12_tellOne_156 (i := 0) rfl rfl ?_
    refine a_get C fl_RX12_194 (i := 236) kd_236 (hid 236 (by decide)) (v := .int (σ.1 236 11)) rfl dX12_tellOne_157 ?_
    refine s_iald C (i := 239) kd_239 (hid 239 (by decide)) al_239 (by omega) (by omega) dX12_tellOne_160 (fun n228 h229 => ?_)
    refine s_val (fun z230 e231 => ?_)
    have g232 : z230.toInt = z69.toInt := congrArg Int32.toInt (e231.symm.trans ((congrArg (σ.1 239) (show n228 = n67 by omega)).trans e70))
    have g233 := bA_239 hG n228
    rw [e231] at g233
    refine s_bipush C dX12_tellOne_161 (22) (by decide) (fun z234 h235 => ?_)
    refine s_isub C dX12_tellOne_163 (by omega) (fun z236 h237 => ?_)
    refine a_istore_n C dX12_tellOne_164 (i := 1) rfl (by decide) rfl (vs1 := [some (.ref (ad 236)), some (.int z236)]) rfl ?_
    refine a_iload_n C dX12_tellOne_165 (i := 1) rfl rfl ?_
    refine s_if_lt C dX12_tellOne_166 (tgt := 183) rfl (fun c238 => ?_) (fun c238 => ?_)
    ·
      exact j183 _ z236 hG onm.rf hR (by omega) onm.rf
    ·
      refine a_aload_n C dX12_tellOne_169 (i := 0) rfl rfl ?_
      refine a_get C fl_RX12_20 (i := 236) kd_236 (hid 236 (by decide)) (v := .ref (ad 239)) rfl dX12_tellOne_170 ?_
      refine a_aload_n C dX12_tellOne_173 (i := 0) rfl rfl ?_
      refine a_get C fl_RX12_194 (i := 236) kd_236 (hid 236 (by decide)) (v := .int (σ.1 236 11)) rfl dX12_tellOne_174 ?_
      refine s_iald C (i := 239) kd_239 (hid 239 (by decide)) al_239 (by omega) (by omega) dX12_tellOne_177 (fun n239 h240 => ?_)
      refine s_val (fun z241 e242 => ?_)
      have g243 : z241.toInt = z230.toInt := congrArg Int32.toInt (e242.symm.trans ((congrArg (σ.1 239) (show n239 = n228 by omega)).trans e231))
      have g244 := bA_239 hG n239
      rw [e242] at g244
      refine s_bipush C dX12_tellOne_178 (25) (by decide) (fun z245 h246 => ?_)
      refine s_ic_le C dX12_tellOne_180 (tgt := 188) rfl (fun c247 => ?_) (fun c247 => ?_)
      ·
        exact j188 _ z236 hG onm.rf hR (by omega) (show 0 ≤ (σ.1 236 13).toInt by omega) (show (σ.1 236 13).toInt = 0 → 0 ≤ z236.toInt by omega) (show (σ.1 236 13).toInt = 0 → z236.toInt ≤ 3 by omega) onm.rf
      ·
        exact j183 _ z236 hG onm.rf hR (by omega) onm.rf
  ·
    refine a_tableIn C dX12_tellOne_9 (by omega) (by omega) (by rw [hq]; rfl) (tgt := 152) rfl ?_
    refine a_aload_n C dX12_tellOne_152 (i := 0) rfl rfl ?_
    refine a_get C fl_RX12_20 (i := 236) kd_236 (hid 236 (by decide)) (v := .ref (ad 239)) rfl dX12_tellOne_153 ?_
    refine a_aload_n C dX12_tellOne_156 (i := 0) rfl rfl ?_
    refine a_get C fl_RX12_194 (i := 236) kd_236 (hid 236 (by decide)) (v := .int (σ.1 236 11)) rfl dX12_tellOne_157 ?_
    refine s_iald C (i := 239) kd_239 (hid 239 (by decide)) al_239 (by omega) (by omega) dX12_tellOne_160 (fun n248 h249 => ?_)
    refine s_val (fun z250 e251 => ?_)
    have g252 : z250.toInt = z69.toInt := congrArg Int32.toInt (e251.symm.trans ((congrArg (σ.1 239) (show n248 = n67 by omega)).trans e70))
    have g253 := bA_239 hG n248
    rw [e251] at g253
    refine s_bipush C dX12_tellOne_161 (22) (by decide) (fun z254 h255 => ?_)
    refine s_isub C dX12_tellOne_163 (by omega) (fun z256 h257 => ?_)
    refine a_istore_n C dX12_tellOne_164 (i := 1) rfl (by decide) rfl (vs1 := [some (.ref (ad 236)), some (.int z256)]) rfl ?_
    refine a_iload_n C dX12_tellOne_165 (i := 1) rfl rfl ?_
    refine s_if_lt C dX12_tellOne_166 (tgt := 183) rfl (fun c258 => ?_) (fun c258 => ?_)
    ·
      exact j183 _ z256 hG onm.rf hR (by omega) onm.rf
    ·
      refine a_aload_n C dX12_tellOne_169 (i := 0) rfl rfl ?_
      refine a_get C fl_RX12_20 (i := 236) kd_236 (hid 236 (by decide)) (v := .ref (ad 239)) rfl dX12_tellOne_170 ?_
      refine a_aload_n C dX12_tellOne_173 (i := 0) rfl rfl ?_
      refine a_get C fl_RX12_194 (i := 236) kd_236 (hid 236 (by decide)) (v := .int (σ.1 236 11)) rfl dX12_tellOne_174 ?_
      refine s_iald C (i := 239) kd_239 (hid 239 (by decide)) al_239 (by omega) (by omega) dX12_tellOne_177 (fun n259 h260 => ?_)
      refine s_val (fun z261 e262 => ?_)
      have g263 : z261.toInt = z250.toInt := congrArg Int32.toInt (e262.symm.trans ((congrArg (σ.1 239) (show n259 = n248 by omega)).trans e251))
      have g264 := bA_239 hG n259
      rw [e262] at g264
      refine s_bipush C dX12_tellOne_178 (25) (by decide) (fun z265 h266 => ?_)
      refine s_ic_le C dX12_tellOne_180 (tgt := 188) rfl (fun c267 => ?_) (fun c267 => ?_)
      ·
        exact j188 _ z256 hG onm.rf hR (by omega) (show 0 ≤ (σ.1 236 13).toInt by omega) (show (σ.1 236 13).toInt = 0 → 0 ≤ z256.toInt by omega) (show (σ.1 236 13).toInt = 0 → z256.toInt ≤ 3 by omega) onm.rf
      ·
        exact j183 _ z256 hG onm.rf hR (by omega) onm.rf
  ·
    refine a_tableIn C dX12_tellOne_9 (by omega) (by omega) (by rw [hq]; rfl) (tgt := 152) rfl ?_
    refine a_aload_n C dX12_tellOne_152 (i := 0) rfl rfl ?_
    refine a_get C fl_RX12_20 (i := 236) kd_236 (hid 236 (by decide)) (v := .ref (ad 239)) rfl dX12_tellOne_153 ?_
    refine a_aload_n C dX12_tellOne_156 (i := 0) rfl rfl ?_
    refine a_get C fl_RX12_194 (i := 236) kd_236 (hid 236 (by decide)) (v := .int (σ.1 236 11)) rfl dX12_tellOne_157 ?_
    refine s_iald C (i := 239) kd_239 (hid 239 (by decide)) al_239 (by omega) (by omega) dX12_tellOne_160 (fun n268 h269 => ?_)
    refine s_val (fun z270 e271 => ?_)
    have g272 : z270.toInt = z69.toInt := congrArg Int32.toInt (e271.symm.trans ((congrArg (σ.1 239) (show n268 = n67 by omega)).trans e70))
    have g273 := bA_239 hG n268
    rw [e271] at g273
    refine s_bipush C dX12_tellOne_161 (22) (by decide) (fun z274 h275 => ?_)
    refine s_isub C dX12_tellOne_163 (by omega) (fun z276 h277 => ?_)
    refine a_istore_n C dX12_tellOne_164 (i := 1) rfl (by decide) rfl (vs1 := [some (.ref (ad 236)), some (.int z276)]) rfl ?_
    refine a_iload_n C dX12_tellOne_165 (i := 1) rfl rfl ?_
    refine s_if_lt C dX12_tellOne_166 (tgt := 183) rfl (fun c278 => ?_) (fun c278 => ?_)
    ·
      exact j183 _ z276 hG onm.rf hR (by omega) onm.rf
    ·
      refine a_aload_n C dX12_tellOne_169 (i := 0) rfl rfl ?_
      refine a_get C fl_RX12_20 (i := 236) kd_236 (hid 236 (by decide)) (v := .ref (ad 239)) rfl dX12_tellOne_170 ?_
      refine a_aload_n C dX12_tellOne_173 (i := 0) rfl rfl ?_
      refine a_get C fl_RX12_194 (i := 236) kd_236 (hid 236 (by decide)) (v := .int (σ.1 236 11)) rfl dX12_tellOne_174 ?_
      refine s_iald C (i := 239) kd_239 (hid 239 (by decide)) al_239 (by omega) (by omega) dX12_tellOne_177 (fun n279 h280 => ?_)
      refine s_val (fun z281 e282 => ?_)
      have g283 : z281.toInt = z270.toInt := congrArg Int32.toInt (e282.symm.trans ((congrArg (σ.1 239) (show n279 = n268 by omega)).trans e271))
      have g284 := bA_239 hG n279
      rw [e282] at g284
      refine s_bipush C dX12_tellOne_178 (25) (by decide) (fun z285 h286 => ?_)
      refine s_ic_le C dX12_tellOne_180 (tgt := 188) rfl (fun c287 => ?_) (fun c287 => ?_)
      ·
        exact j188 _ z276 hG onm.rf hR (by omega) (show 0 ≤ (σ.1 236 13).toInt by omega) (show (σ.1 236 13).toInt = 0 → 0 ≤ z276.toInt by omega) (show (σ.1 236 13).toInt = 0 → z276.toInt ≤ 3 by omega) onm.rf
      ·
        exact j183 _ z276 hG onm.rf hR (by omega) onm.rf
  ·
    refine a_tableIn C dX12_tellOne_9 (by omega) (by omega) (by rw [hq]; rfl) (tgt := 113) rfl ?_
    refine a_aload_n C dX12_tellOne_113 (i := 0) rfl rfl ?_
    refine a_get C fl_RX12_64 (i := 236) kd_236 (hid 236 (by decide)) (v := .ref (ad 252)) rfl dX12_tellOne_114 ?_
    refine a_aload_n C dX12_tellOne_117 (i := 0) rfl rfl ?_
    refine a_get C fl_RX12_224 (i := 236) kd_236 (hid 236 (by decide)) (v := .int (σ.1 236 19)) rfl dX12_tellOne_118 ?_
    refine a_aload_n C dX12_tellOne_121 (i := 0) rfl rfl ?_
    refine s_iconst C dX12_tellOne_122 (0) (by decide) (fun z288 h289 => ?_)
    refine s_bipush C dX12_tellOne_123 (99) (by decide) (fun z290 h291 => ?_)
    refine a_callVi C (i := 236) kd_236 (hid 236 (by decide)) ⟨_, _, rfl⟩ (by decide) (S_X12_toldInt_236 (x1 := z288) (x2 := z290) hid hG (by omega)) mi_X12_toldInt ml_RX12_262 rfl rfl (Nat.le_of_ble_eq_true rfl) (Nat.le_of_ble_eq_true rfl) (Nat.le_of_ble_eq_true rfl) dX12_tellOne_125 (fun z292 σ293 q294 => ?_)
    obtain ⟨hG295, ho296, w298, w299, w300, w301⟩ := q294
    have hR297 := AGm.ony hR ho296 (by decide)
    refine s_iast C (i := 252) kd_252 (hid 252 (by decide)) al_252 (by omega) (by omega) dX12_tellOne_128 (fun n302 h303 => ?_)
    have hG304 := wA_252 (v := z292) (j := n302) hG295
    have hR305 := AGm.ony (σ1 := hI _ 252 n302 z292) hR297 (onm.I (L := [252]) onm.rf (by decide)) (by decide)
    have g306 := bF_236_11 hG295
    have g307 : ((hI σ293 252 n302 z292).1 236 11).toInt = (σ293.1 236 11).toInt := congrArg Int32.toInt rfl
    have g308 := bF_236_12 hG295
    have g309 : (σ293.1 236 12).toInt = (σ.1 236 12).toInt := congrArg Int32.toInt (ho296.1 236 12 (by decide))
    have g310 : ((hI σ293 252 n302 z292).1 236 12).toInt = (σ293.1 236 12).toInt := congrArg Int32.toInt rfl
    have g311 := bF_236_13 hG295
    have g312 : ((hI σ293 252 n302 z292).1 236 13).toInt = (σ293.1 236 13).toInt := congrArg Int32.toInt rfl
    have g313 := bF_236_19 hG295
    have g314 : (σ293.1 236 19).toInt = (σ.1 236 19).toInt := congrArg Int32.toInt (ho296.1 236 19 (by decide))
    have g315 : ((hI σ293 252 n302 z292).1 236 19).toInt = (σ293.1 236 19).toInt := congrArg Int32.toInt rfl
    have g316 := bF_236_20 hG295
    have g317 : (σ293.1 236 20).toInt = (σ.1 236 20).toInt := congrArg Int32.toInt (ho296.1 236 20 (by decide))
    have g318 : ((hI σ293 252 n302 z292).1 236 20).toInt = (σ293.1 236 20).toInt := congrArg Int32.toInt rfl
    have g319 : (σ293.1 236 33).toInt = (σ.1 236 33).toInt := congrArg Int32.toInt (ho296.1 236 33 (by decide))
    have g320 : ((hI σ293 252 n302 z292).1 236 33).toInt = (σ293.1 236 33).toInt := congrArg Int32.toInt rfl
    have g321 : (σ293.1 236 39).toInt = (σ.1 236 39).toInt := congrArg Int32.toInt (ho296.1 236 39 (by decide))
    have g322 : ((hI σ293 252 n302 z292).1 236 39).toInt = (σ293.1 236 39).toInt := congrArg Int32.toInt rfl
    refine a_goto C dX12_tellOne_129 (tgt := 205) rfl ?_
    have g323 : ((hI σ293 252 n302 z292).1 236 11).toInt = (σ293.1 236 11).toInt := congrArg Int32.toInt rfl
    have g324 : ((hI σ293 252 n302 z292).1 236 12).toInt = (σ293.1 236 12).toInt := congrArg Int32.toInt rfl
    have g325 : ((hI σ293 252 n302 z292).1 236 13).toInt = (σ293.1 236 13).toInt := congrArg Int32.toInt rfl
    have g326 : ((hI σ293 252 n302 z292).1 236 19).toInt = (σ293.1 236 19).toInt := congrArg Int32.toInt rfl
    have g327 : ((hI σ293 252 n302 z292).1 236 20).toInt = (σ293.1 236 20).toInt := congrArg Int32.toInt rfl
    have g328 : ((hI σ293 252 n302 z292).1 236 33).toInt = (σ293.1 236 33).toInt := congrArg Int32.toInt rfl
    have g329 : ((hI σ293 252 n302 z292).1 236 39).toInt = (σ293.1 236 39).toInt := congrArg Int32.toInt rfl
    have g330 : ((hI σ293 252 n302 z292).1 236 19).toInt = (σ293.1 236 19).toInt := congrArg Int32.toInt rfl
    have g331 : ((hI σ293 252 n302 z292).1 236 20).toInt = (σ293.1 236 20).toInt := congrArg Int32.toInt rfl
    exact a_vret Rt dX12_tellOne_205 (⟨hG304, (onm.I (onm.tr onm.rf (onm.mono ho296 (by decide))) (by decide)), hR305, (show (σ293.1 236 13).toInt = 0 → (σ.1 236 11).toInt + 1 ≤ (σ293.1 236 11).toInt by intros; omega), (show (σ.1 236 11).toInt ≤ (σ293.1 236 11).toInt by intros; omega), (fun h9 => by
        have gz_245 : ((hI σ293 252 n302 z292).1 245 ((hI σ293 252 n302 z292).1 236 19).toInt.toNat).toInt = (σ.1 245 (σ.1 236 19).toInt.toNat).toInt := congrArg Int32.toInt (by rw [show ((hI σ293 252 n302 z292).1 236 19).toInt.toNat = (σ.1 236 19).toInt.toNat by omega]; exact congrFun (show (hI σ293 252 n302 z292).1 245 = σ.1 245 from ((hI_o (by decide)).trans (ho296.a (i := 245) (by decide)))) _)
        have gz_249 : ((hI σ293 252 n302 z292).1 249 ((hI σ293 252 n302 z292).1 236 19).toInt.toNat).toInt = (σ.1 249 (σ.1 236 19).toInt.toNat).toInt := congrArg Int32.toInt (by rw [show ((hI σ293 252 n302 z292).1 236 19).toInt.toNat = (σ.1 236 19).toInt.toNat by omega]; exact congrFun (show (hI σ293 252 n302 z292).1 249 = σ.1 249 from ((hI_o (by decide)).trans (ho296.a (i := 249) (by decide)))) _)
        exact ⟨(LAW.ony (σ1 := hI _ 252 n302 z292) (LAW.ony gL ho296 (by decide)) (onm.I (L := [252]) onm.rf (by decide)) (by decide)), (LNG.ony (σ1 := hI _ 252 n302 z292) (LNG.ony gN ho296 (by decide) (by decide) (by decide)) (onm.I (L := [252]) onm.rf (by decide)) (by decide) (by decide) (by decide)), by omega, by omega, by omega, by omega, by omega, by omega⟩)⟩)
  ·
    refine a_tableIn C dX12_tellOne_9 (by omega) (by omega) (by rw [hq]; rfl) (tgt := 132) rfl ?_
    refine a_aload_n C dX12_tellOne_132 (i := 0) rfl rfl ?_
    refine a_get C fl_RX12_67 (i := 236) kd_236 (hid 236 (by decide)) (v := .ref (ad 253)) rfl dX12_tellOne_133 ?_
    refine a_aload_n C dX12_tellOne_136 (i := 0) rfl rfl ?_
    refine a_get C fl_RX12_224 (i := 236) kd_236 (hid 236 (by decide)) (v := .int (σ.1 236 19)) rfl dX12_tellOne_137 ?_
    refine a_aload_n C dX12_tellOne_140 (i := 0) rfl rfl ?_
    refine s_iconst C dX12_tellOne_141 (0) (by decide) (fun z332 h333 => ?_)
    refine s_sipush C dX12_tellOne_142 (9999) (by decide) (fun z334 h335 => ?_)
    refine a_callVi C (i := 236) kd_236 (hid 236 (by decide)) ⟨_, _, rfl⟩ (by decide) (S_X12_toldInt_236 (x1 := z332) (x2 := z334) hid hG (by omega)) mi_X12_toldInt ml_RX12_262 rfl rfl (Nat.le_of_ble_eq_true rfl) (Nat.le_of_ble_eq_true rfl) (Nat.le_of_ble_eq_true rfl) dX12_tellOne_145 (fun z336 σ337 q338 => ?_)
    obtain ⟨hG339, ho340, w342, w343, w344, w345⟩ := q338
    have hR341 := AGm.ony hR ho340 (by decide)
    refine s_iast C (i := 253) kd_253 (hid 253 (by decide)) al_253 (by omega) (by omega) dX12_tellOne_148 (fun n346 h347 => ?_)
    have hG348 := wA_253 (v := z336) (j := n346) hG339
    have hR349 := AGm.ony (σ1 := hI _ 253 n346 z336) hR341 (onm.I (L := [253]) onm.rf (by decide)) (by decide)
    have g350 := bF_236_11 hG339
    have g351 : ((hI σ337 253 n346 z336).1 236 11).toInt = (σ337.1 236 11).toInt := congrArg Int32.toInt rfl
    have g352 := bF_236_12 hG339
    have g353 : (σ337.1 236 12).toInt = (σ.1 236 12).toInt := congrArg Int32.toInt (ho340.1 236 12 (by decide))
    have g354 : ((hI σ337 253 n346 z336).1 236 12).toInt = (σ337.1 236 12).toInt := congrArg Int32.toInt rfl
    have g355 := bF_236_13 hG339
    have g356 : ((hI σ337 253 n346 z336).1 236 13).toInt = (σ337.1 236 13).toInt := congrArg Int32.toInt rfl
    have g357 := bF_236_19 hG339
    have g358 : (σ337.1 236 19).toInt = (σ.1 236 19).toInt := congrArg Int32.toInt (ho340.1 236 19 (by decide))
    have g359 : ((hI σ337 253 n346 z336).1 236 19).toInt = (σ337.1 236 19).toInt := congrArg Int32.toInt rfl
    have g360 := bF_236_20 hG339
    have g361 : (σ337.1 236 20).toInt = (σ.1 236 20).toInt := congrArg Int32.toInt (ho340.1 236 20 (by decide))
    have g362 : ((hI σ337 253 n346 z336).1 236 20).toInt = (σ337.1 236 20).toInt := congrArg Int32.toInt rfl
    have g363 : (σ337.1 236 33).toInt = (σ.1 236 33).toInt := congrArg Int32.toInt (ho340.1 236 33 (by decide))
    have g364 : ((hI σ337 253 n346 z336).1 236 33).toInt = (σ337.1 236 33).toInt := congrArg Int32.toInt rfl
    have g365 : (σ337.1 236 39).toInt = (σ.1 236 39).toInt := congrArg Int32.toInt (ho340.1 236 39 (by decide))
    have g366 : ((hI σ337 253 n346 z336).1 236 39).toInt = (σ337.1 236 39).toInt := congrArg Int32.toInt rfl
    refine a_goto C dX12_tellOne_149 (tgt := 205) rfl ?_
    have g367 : ((hI σ337 253 n346 z336).1 236 11).toInt = (σ337.1 236 11).toInt := congrArg Int32.toInt rfl
    have g368 : ((hI σ337 253 n346 z336).1 236 12).toInt = (σ337.1 236 12).toInt := congrArg Int32.toInt rfl
    have g369 : ((hI σ337 253 n346 z336).1 236 13).toInt = (σ337.1 236 13).toInt := congrArg Int32.toInt rfl
    have g370 : ((hI σ337 253 n346 z336).1 236 19).toInt = (σ337.1 236 19).toInt := congrArg Int32.toInt rfl
    have g371 : ((hI σ337 253 n346 z336).1 236 20).toInt = (σ337.1 236 20).toInt := congrArg Int32.toInt rfl
    have g372 : ((hI σ337 253 n346 z336).1 236 33).toInt = (σ337.1 236 33).toInt := congrArg Int32.toInt rfl
    have g373 : ((hI σ337 253 n346 z336).1 236 39).toInt = (σ337.1 236 39).toInt := congrArg Int32.toInt rfl
    have g374 : ((hI σ337 253 n346 z336).1 236 19).toInt = (σ337.1 236 19).toInt := congrArg Int32.toInt rfl
    have g375 : ((hI σ337 253 n346 z336).1 236 20).toInt = (σ337.1 236 20).toInt := congrArg Int32.toInt rfl
    exact a_vret Rt dX12_tellOne_205 (⟨hG348, (onm.I (onm.tr onm.rf (onm.mono ho340 (by decide))) (by decide)), hR349, (show (σ337.1 236 13).toInt = 0 → (σ.1 236 11).toInt + 1 ≤ (σ337.1 236 11).toInt by intros; omega), (show (σ.1 236 11).toInt ≤ (σ337.1 236 11).toInt by intros; omega), (fun h9 => by
        have gz_245 : ((hI σ337 253 n346 z336).1 245 ((hI σ337 253 n346 z336).1 236 19).toInt.toNat).toInt = (σ.1 245 (σ.1 236 19).toInt.toNat).toInt := congrArg Int32.toInt (by rw [show ((hI σ337 253 n346 z336).1 236 19).toInt.toNat = (σ.1 236 19).toInt.toNat by omega]; exact congrFun (show (hI σ337 253 n346 z336).1 245 = σ.1 245 from ((hI_o (by decide)).trans (ho340.a (i := 245) (by decide)))) _)
        have gz_249 : ((hI σ337 253 n346 z336).1 249 ((hI σ337 253 n346 z336).1 236 19).toInt.toNat).toInt = (σ.1 249 (σ.1 236 19).toInt.toNat).toInt := congrArg Int32.toInt (by rw [show ((hI σ337 253 n346 z336).1 236 19).toInt.toNat = (σ.1 236 19).toInt.toNat by omega]; exact congrFun (show (hI σ337 253 n346 z336).1 249 = σ.1 249 from ((hI_o (by decide)).trans (ho340.a (i := 249) (by decide)))) _)
        exact ⟨(LAW.ony (σ1 := hI _ 253 n346 z336) (LAW.ony gL ho340 (by decide)) (onm.I (L := [253]) onm.rf (by decide)) (by decide)), (LNG.ony (σ1 := hI _ 253 n346 z336) (LNG.ony gN ho340 (by decide) (by decide) (by decide)) (onm.I (L := [253]) onm.rf (by decide)) (by decide) (by decide) (by decide)), by omega, by omega, by omega, by omega, by omega, by omega⟩)⟩)

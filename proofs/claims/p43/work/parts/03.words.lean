/-- the words that a callee may take as its own -/
def gw_tbl : List Cond := lw_tbl.filter goodWord
theorem gwm {w : Cond} (i : Nat) (h : lw_tbl[i]? = some w) (hg : goodWord w = true) : w ∈ gw_tbl := List.mem_filter.mpr ⟨List.mem_of_getElem? h, hg⟩
theorem gw_lw {w : Cond} (h : w ∈ gw_tbl) : w ∈ lw_tbl := (List.mem_filter.mp h).1
def nestL : List (String × Nat × MethodName × String) := [("StateJuggler", 9, ⟨"StateJuggler$Reader", "<init>", "()V"⟩, "StateJuggler"), ("StateJuggler$Reader", 11, ⟨"StateJuggler$Tape", "<init>", "()V"⟩, "StateJuggler"), ("StateJuggler", 18, ⟨"StateJuggler$Juggler", "<init>", "()V"⟩, "StateJuggler"), ("StateJuggler$Juggler", 11, ⟨"StateJuggler$Asked", "<init>", "()V"⟩, "StateJuggler"), ("StateJuggler$Past", 17, ⟨"StateJuggler$Air", "<init>", "()V"⟩, "StateJuggler"), ("StateJuggler", 32, ⟨"StateJuggler$Hearsay", "<init>", "()V"⟩, "StateJuggler"), ("StateJuggler", 39, ⟨"StateJuggler$Route", "<init>", "()V"⟩, "StateJuggler"), ("StateJuggler", 46, ⟨"StateJuggler$Rows", "<init>", "()V"⟩, "StateJuggler"), ("StateJuggler", 53, ⟨"StateJuggler$Air", "<init>", "()V"⟩, "StateJuggler"), ("StateJuggler$Heights", 15, ⟨"StateJuggler", "isHeight", "(I)Z"⟩, "StateJuggler")]
/-- calls of nest mates' private members are linked -/
def EN (U : State) : Prop := ∀ q ∈ nestL, va_Nw (.methodLinkNest q.1 q.2.1 q.2.2.1 q.2.2.2) U
theorem EN.warm {s U : State} (hW : s.WarmedH U.vm) (h : EN s) : EN U := fun q hq => va_Nw.warmM hW (h q hq)
theorem EN.same {s U : State} (hv : s.vm = U.vm) (h : EN s) : EN U := fun q hq => va_Nw.same rfl hv (h q hq)
/-- a field by its link: class n of vwCl, slot k -/
def FL (own : String) (ix n k : Nat) : Prop := ∃ (Cn : String) (T : u_T) (N : Nat), vwCl[n]? = some (Cn, T, N) ∧ k < N ∧ n < 12 ∧ Cond.fieldLink own ix (T k).1 (T k).2.1 (T k).2.2.1 ∈ gw_tbl ∧ (∀ w ∈ u_ws Cn T N, w ∈ gw_tbl)
def FP (own : String) (ix n k : Nat) (ty : FieldType) : Prop := ∃ (Cn : String) (T : u_T) (N : Nat) (ty0 : Nat → FieldType), (vwCl[n]? = some (Cn, T, N) ∧ k < N ∧ n < 12 ∧ Cond.fieldLink own ix (T k).1 (T k).2.1 (T k).2.2.1 ∈ gw_tbl ∧ (∀ w ∈ u_ws Cn T N, w ∈ gw_tbl)) ∧ (∀ k, k < N → parseFieldDescriptor (T k).2.2.1 = some (ty0 k)) ∧ (∀ a, a < N → ∀ b, b < N → a ≠ b → (T a).2.1 ≠ (T b).2.1) ∧ (T k).2.2.2 = false ∧ parseFieldDescriptor (T k).2.2.1 = some ty ∧ (∀ (ad : Nat → Nat) (i : Nat) (g : Nat → Int32) (tx : Nat → Nat) (v : Int32), fsK ad n i (upd g k v) tx = (fsK ad n i g tx).set k (.int v) ∧ k < (fsK ad n i g tx).length)
/-- the words of an instance method, of a static one; n: how many arguments -/
def MI (y : MethodName) (cc : ByteArray) (nL : Nat) (ret : Option FieldType) (n : Nat) : Prop := Cond.instanceMethod y ∈ gw_tbl ∧ Cond.selects y.cls y y ∈ gw_tbl ∧ Cond.initialized y.cls ∈ gw_tbl ∧ Cond.code y cc nL ret ∈ gw_tbl ∧ (y.cls ≠ "java/lang/invoke/MethodHandle" ∧ y.cls ≠ "java/lang/invoke/VarHandle" ∧ (parseMethodDescriptor y.desc).map (fun d => d.parameters.length) = some n)
def MS (y : MethodName) (cc : ByteArray) (nL : Nat) (ret : Option FieldType) (n : Nat) : Prop := Cond.static y ∈ gw_tbl ∧ Cond.initialized y.cls ∈ gw_tbl ∧ Cond.code y cc nL ret ∈ gw_tbl ∧ (y.cls ≠ "java/lang/invoke/MethodHandle" ∧ y.cls ≠ "java/lang/invoke/VarHandle" ∧ (parseMethodDescriptor y.desc).map (fun d => d.parameters.length) = some n)
/-! the words of fields, methods and links, by their places -/
theorem tb_in {w : Cond} (h : w ∈ tables_1) : w ∈ lw_tbl := List.mem_append.mpr (Or.inr h)
theorem gw1 {w : Cond} (i : Nat) (h : tables_1_1[i]? = some w) (hg : goodWord w = true) : w ∈ gw_tbl := List.mem_filter.mpr ⟨tb_in (by have h := List.mem_of_getElem? h; exact List.mem_append.mpr (Or.inl h)), hg⟩
theorem gw2 {w : Cond} (i : Nat) (h : tables_1_2[i]? = some w) (hg : goodWord w = true) : w ∈ gw_tbl := List.mem_filter.mpr ⟨tb_in (by have h := List.mem_of_getElem? h; exact List.mem_append.mpr (Or.inr (List.mem_append.mpr (Or.inl h)))), hg⟩
theorem gw3 {w : Cond} (i : Nat) (h : tables_1_3[i]? = some w) (hg : goodWord w = true) : w ∈ gw_tbl := List.mem_filter.mpr ⟨tb_in (by have h := List.mem_of_getElem? h; exact List.mem_append.mpr (Or.inr (List.mem_append.mpr (Or.inr (List.mem_append.mpr (Or.inl h)))))), hg⟩
theorem gw4 {w : Cond} (i : Nat) (h : tables_1_4[i]? = some w) (hg : goodWord w = true) : w ∈ gw_tbl := List.mem_filter.mpr ⟨tb_in (by have h := List.mem_of_getElem? h; exact List.mem_append.mpr (Or.inr (List.mem_append.mpr (Or.inr (List.mem_append.mpr (Or.inr (List.mem_append.mpr (Or.inl h)))))))), hg⟩
theorem gw5 {w : Cond} (i : Nat) (h : tables_1_5[i]? = some w) (hg : goodWord w = true) : w ∈ gw_tbl := List.mem_filter.mpr ⟨tb_in (by have h := List.mem_of_getElem? h; exact List.mem_append.mpr (Or.inr (List.mem_append.mpr (Or.inr (List.mem_append.mpr (Or.inr (List.mem_append.mpr (Or.inr (List.mem_append.mpr (Or.inl h)))))))))), hg⟩
theorem gw6 {w : Cond} (i : Nat) (h : tables_1_6[i]? = some w) (hg : goodWord w = true) : w ∈ gw_tbl := List.mem_filter.mpr ⟨tb_in (by have h := List.mem_of_getElem? h; exact List.mem_append.mpr (Or.inr (List.mem_append.mpr (Or.inr (List.mem_append.mpr (Or.inr (List.mem_append.mpr (Or.inr (List.mem_append.mpr (Or.inr (List.mem_append.mpr (Or.inl h)))))))))))), hg⟩
theorem gw7 {w : Cond} (i : Nat) (h : tables_1_7[i]? = some w) (hg : goodWord w = true) : w ∈ gw_tbl := List.mem_filter.mpr ⟨tb_in (by have h := List.mem_of_getElem? h; exact List.mem_append.mpr (Or.inr (List.mem_append.mpr (Or.inr (List.mem_append.mpr (Or.inr (List.mem_append.mpr (Or.inr (List.mem_append.mpr (Or.inr (List.mem_append.mpr (Or.inr (List.mem_append.mpr (Or.inl h)))))))))))))), hg⟩
theorem gw8 {w : Cond} (i : Nat) (h : tables_1_8[i]? = some w) (hg : goodWord w = true) : w ∈ gw_tbl := List.mem_filter.mpr ⟨tb_in (by have h := List.mem_of_getElem? h; exact List.mem_append.mpr (Or.inr (List.mem_append.mpr (Or.inr (List.mem_append.mpr (Or.inr (List.mem_append.mpr (Or.inr (List.mem_append.mpr (Or.inr (List.mem_append.mpr (Or.inr (List.mem_append.mpr (Or.inr (h))))))))))))))), hg⟩
set_option maxRecDepth 20000 in
theorem uw_0 : ∀ w ∈ u_ws RX0 TX0 12, w ∈ gw_tbl := by
  have h : u_ws RX0 TX0 12 = [271, 273, 275, 277, 279, 281, 283, 285, 287, 289, 291, 293].filterMap (fun i => lw_tbl[i]?) := by decide +kernel
  have hg : (u_ws RX0 TX0 12).all goodWord = true := by decide +kernel
  intro w hw
  have h1 := List.all_eq_true.mp hg w hw
  rw [h] at hw
  obtain ⟨i, -, hi⟩ := List.mem_filterMap.mp hw
  exact gwm i hi h1
set_option maxRecDepth 20000 in
theorem uw_1 : ∀ w ∈ u_ws RX1 TX1 4, w ∈ gw_tbl := by
  have h : u_ws RX1 TX1 4 = [213, 215, 217, 219].filterMap (fun i => lw_tbl[i]?) := by decide +kernel
  have hg : (u_ws RX1 TX1 4).all goodWord = true := by decide +kernel
  intro w hw
  have h1 := List.all_eq_true.mp hg w hw
  rw [h] at hw
  obtain ⟨i, -, hi⟩ := List.mem_filterMap.mp hw
  exact gwm i hi h1
set_option maxRecDepth 20000 in
theorem uw_2 : ∀ w ∈ u_ws RX2 TX2 3, w ∈ gw_tbl := by
  have h : u_ws RX2 TX2 3 = [317, 319, 321].filterMap (fun i => lw_tbl[i]?) := by decide +kernel
  have hg : (u_ws RX2 TX2 3).all goodWord = true := by decide +kernel
  intro w hw
  have h1 := List.all_eq_true.mp hg w hw
  rw [h] at hw
  obtain ⟨i, -, hi⟩ := List.mem_filterMap.mp hw
  exact gwm i hi h1
set_option maxRecDepth 20000 in
theorem uw_3 : ∀ w ∈ u_ws RX4 TX4 1, w ∈ gw_tbl := by
  have h : u_ws RX4 TX4 1 = [223].filterMap (fun i => lw_tbl[i]?) := by decide +kernel
  have hg : (u_ws RX4 TX4 1).all goodWord = true := by decide +kernel
  intro w hw
  have h1 := List.all_eq_true.mp hg w hw
  rw [h] at hw
  obtain ⟨i, -, hi⟩ := List.mem_filterMap.mp hw
  exact gwm i hi h1
set_option maxRecDepth 20000 in
theorem uw_4 : ∀ w ∈ u_ws RX5 TX5 3, w ∈ gw_tbl := by
  have h : u_ws RX5 TX5 3 = [300, 302, 304].filterMap (fun i => lw_tbl[i]?) := by decide +kernel
  have hg : (u_ws RX5 TX5 3).all goodWord = true := by decide +kernel
  intro w hw
  have h1 := List.all_eq_true.mp hg w hw
  rw [h] at hw
  obtain ⟨i, -, hi⟩ := List.mem_filterMap.mp hw
  exact gwm i hi h1
set_option maxRecDepth 20000 in
theorem uw_5 : ∀ w ∈ u_ws RX6 TX6 10, w ∈ gw_tbl := by
  have h : u_ws RX6 TX6 10 = [175, 177, 179, 181, 183, 185, 187, 189, 191, 193].filterMap (fun i => lw_tbl[i]?) := by decide +kernel
  have hg : (u_ws RX6 TX6 10).all goodWord = true := by decide +kernel
  intro w hw
  have h1 := List.all_eq_true.mp hg w hw
  rw [h] at hw
  obtain ⟨i, -, hi⟩ := List.mem_filterMap.mp hw
  exact gwm i hi h1
set_option maxRecDepth 20000 in
theorem uw_6 : ∀ w ∈ u_ws RX7 TX7 6, w ∈ gw_tbl := by
  have h : u_ws RX7 TX7 6 = [339, 341, 343, 345, 347, 349].filterMap (fun i => lw_tbl[i]?) := by decide +kernel
  have hg : (u_ws RX7 TX7 6).all goodWord = true := by decide +kernel
  intro w hw
  have h1 := List.all_eq_true.mp hg w hw
  rw [h] at hw
  obtain ⟨i, -, hi⟩ := List.mem_filterMap.mp hw
  exact gwm i hi h1
set_option maxRecDepth 20000 in
theorem uw_7 : ∀ w ∈ u_ws RX8 TX8 5, w ∈ gw_tbl := by
  have h : u_ws RX8 TX8 5 = [365, 367, 369, 371, 373].filterMap (fun i => lw_tbl[i]?) := by decide +kernel
  have hg : (u_ws RX8 TX8 5).all goodWord = true := by decide +kernel
  intro w hw
  have h1 := List.all_eq_true.mp hg w hw
  rw [h] at hw
  obtain ⟨i, -, hi⟩ := List.mem_filterMap.mp hw
  exact gwm i hi h1
set_option maxRecDepth 20000 in
theorem uw_8 : ∀ w ∈ u_ws RX9 TX9 6, w ∈ gw_tbl := by
  have h : u_ws RX9 TX9 6 = [148, 150, 152, 154, 156, 158].filterMap (fun i => lw_tbl[i]?) := by decide +kernel
  have hg : (u_ws RX9 TX9 6).all goodWord = true := by decide +kernel
  intro w hw
  have h1 := List.all_eq_true.mp hg w hw
  rw [h] at hw
  obtain ⟨i, -, hi⟩ := List.mem_filterMap.mp hw
  exact gwm i hi h1
set_option maxRecDepth 20000 in
theorem uw_9 : ∀ w ∈ u_ws RX10 TX10 12, w ∈ gw_tbl := by
  have h : u_ws RX10 TX10 12 = [435, 437, 439, 441, 443, 445, 447, 449, 451, 453, 455, 457].filterMap (fun i => lw_tbl[i]?) := by decide +kernel
  have hg : (u_ws RX10 TX10 12).all goodWord = true := by decide +kernel
  intro w hw
  have h1 := List.all_eq_true.mp hg w hw
  rw [h] at hw
  obtain ⟨i, -, hi⟩ := List.mem_filterMap.mp hw
  exact gwm i hi h1
set_option maxRecDepth 20000 in
theorem uw_10 : ∀ w ∈ u_ws RX11 TX11 15, w ∈ gw_tbl := by
  have h : u_ws RX11 TX11 15 = [475, 477, 479, 481, 483, 485, 487, 489, 491, 493, 495, 497, 499, 501, 503].filterMap (fun i => lw_tbl[i]?) := by decide +kernel
  have hg : (u_ws RX11 TX11 15).all goodWord = true := by decide +kernel
  intro w hw
  have h1 := List.all_eq_true.mp hg w hw
  rw [h] at hw
  obtain ⟨i, -, hi⟩ := List.mem_filterMap.mp hw
  exact gwm i hi h1
set_option maxRecDepth 20000 in
theorem uw_11 : ∀ w ∈ u_ws RX12 TX12 66, w ∈ gw_tbl := by
  have h : u_ws RX12 TX12 66 = [1220, 1222, 1224, 1226, 1228, 1230, 1232, 1234, 1236, 1238, 1240, 1242, 1244, 1246, 1248, 1250, 1252, 1254, 1256, 1258, 1260, 1262, 1264, 1266, 1268, 1270, 1272, 1274, 1276, 1278, 1280, 1282, 1284, 1286, 1288, 1290, 1292, 1294, 1296, 1298, 1300, 1302, 1304, 1306, 1308, 1310, 1312, 1314, 1316, 1318, 1320, 1322, 1324, 1326, 1328, 1330, 1332, 1334, 1336, 1338, 1340, 1342, 1344, 1346, 1348, 1350].filterMap (fun i => lw_tbl[i]?) := by decide +kernel
  have hg : (u_ws RX12 TX12 66).all goodWord = true := by decide +kernel
  intro w hw
  have h1 := List.all_eq_true.mp hg w hw
  rw [h] at hw
  obtain ⟨i, -, hi⟩ := List.mem_filterMap.mp hw
  exact gwm i hi h1
theorem fl_RX11_10 : FL RX11 10 10 0 := ⟨RX11, TX11, 15, rfl, by decide, by decide, gw2 125 rfl rfl, uw_10⟩
theorem fl_RX11_19 : FL RX11 19 10 1 := ⟨RX11, TX11, 15, rfl, by decide, by decide, gw2 126 rfl rfl, uw_10⟩
theorem fl_RX11_26 : FL RX11 26 10 2 := ⟨RX11, TX11, 15, rfl, by decide, by decide, gw2 127 rfl rfl, uw_10⟩
theorem fl_RX11_33 : FL RX11 33 10 3 := ⟨RX11, TX11, 15, rfl, by decide, by decide, gw2 128 rfl rfl, uw_10⟩
theorem fl_RX11_40 : FL RX11 40 10 4 := ⟨RX11, TX11, 15, rfl, by decide, by decide, gw2 129 rfl rfl, uw_10⟩
theorem fl_RX11_47 : FL RX11 47 10 5 := ⟨RX11, TX11, 15, rfl, by decide, by decide, gw2 130 rfl rfl, uw_10⟩
theorem fl_RX11_54 : FL RX11 54 10 6 := ⟨RX11, TX11, 15, rfl, by decide, by decide, gw2 131 rfl rfl, uw_10⟩
theorem fl_RX11_58 : FL RX11 58 10 7 := ⟨RX11, TX11, 15, rfl, by decide, by decide, gw2 132 rfl rfl, uw_10⟩
theorem fl_RX11_61 : FL RX11 61 10 8 := ⟨RX11, TX11, 15, rfl, by decide, by decide, gw2 133 rfl rfl, uw_10⟩
theorem fl_RX11_65 : FL RX11 65 10 9 := ⟨RX11, TX11, 15, rfl, by decide, by decide, gw2 134 rfl rfl, uw_10⟩
theorem fl_RX11_69 : FL RX11 69 10 10 := ⟨RX11, TX11, 15, rfl, by decide, by decide, gw2 135 rfl rfl, uw_10⟩
theorem fl_RX11_73 : FL RX11 73 10 11 := ⟨RX11, TX11, 15, rfl, by decide, by decide, gw2 136 rfl rfl, uw_10⟩
theorem fl_RX11_76 : FL RX11 76 10 12 := ⟨RX11, TX11, 15, rfl, by decide, by decide, gw2 137 rfl rfl, uw_10⟩
theorem fl_RX11_82 : FL RX11 82 10 13 := ⟨RX11, TX11, 15, rfl, by decide, by decide, gw2 138 rfl rfl, uw_10⟩
theorem fl_RX11_86 : FL RX11 86 10 14 := ⟨RX11, TX11, 15, rfl, by decide, by decide, gw2 139 rfl rfl, uw_10⟩
theorem fl_RX11_89 : FL RX11 89 5 0 := ⟨RX6, TX6, 10, rfl, by decide, by decide, gw1 69 rfl rfl, uw_5⟩
theorem fl_RX11_93 : FL RX11 93 8 1 := ⟨RX9, TX9, 6, rfl, by decide, by decide, gw1 44 rfl rfl, uw_8⟩
theorem fp_RX11_93 : FP RX11 93 8 1 .int := ⟨RX9, TX9, 6, tyX9, ⟨rfl, by decide, by decide, gw1 44 rfl rfl, uw_8⟩, tyX9_ok, nmX9, rfl, by decide +kernel, fun _ _ _ _ _ => ⟨rfl, by show 1 < 6; decide⟩⟩
theorem fl_RX11_117 : FL RX11 117 2 2 := ⟨RX2, TX2, 3, rfl, by decide, by decide, gw1 221 rfl rfl, uw_2⟩
theorem fp_RX11_117 : FP RX11 117 2 2 .int := ⟨RX2, TX2, 3, tyX2, ⟨rfl, by decide, by decide, gw1 221 rfl rfl, uw_2⟩, tyX2_ok, nmX2, rfl, by decide +kernel, fun _ _ _ _ _ => ⟨rfl, by show 2 < 3; decide⟩⟩
theorem fl_RX11_118 : FL RX11 118 5 1 := ⟨RX6, TX6, 10, rfl, by decide, by decide, gw1 71 rfl rfl, uw_5⟩
theorem fl_RX11_125 : FL RX11 125 9 1 := ⟨RX10, TX10, 12, rfl, by decide, by decide, gw2 65 rfl rfl, uw_9⟩
theorem fl_RX11_128 : FL RX11 128 9 2 := ⟨RX10, TX10, 12, rfl, by decide, by decide, gw2 69 rfl rfl, uw_9⟩
theorem fl_RX11_131 : FL RX11 131 0 1 := ⟨RX0, TX0, 12, rfl, by decide, by decide, gw1 149 rfl rfl, uw_0⟩
theorem fl_RX11_137 : FL RX11 137 0 2 := ⟨RX0, TX0, 12, rfl, by decide, by decide, gw1 152 rfl rfl, uw_0⟩
theorem fl_RX11_140 : FL RX11 140 0 3 := ⟨RX0, TX0, 12, rfl, by decide, by decide, gw1 155 rfl rfl, uw_0⟩
theorem fl_RX11_146 : FL RX11 146 9 6 := ⟨RX10, TX10, 12, rfl, by decide, by decide, gw2 83 rfl rfl, uw_9⟩
theorem fl_RX11_149 : FL RX11 149 9 5 := ⟨RX10, TX10, 12, rfl, by decide, by decide, gw2 79 rfl rfl, uw_9⟩
theorem fl_RX11_168 : FL RX11 168 9 0 := ⟨RX10, TX10, 12, rfl, by decide, by decide, gw2 62 rfl rfl, uw_9⟩
theorem fl_RX11_171 : FL RX11 171 9 4 := ⟨RX10, TX10, 12, rfl, by decide, by decide, gw2 77 rfl rfl, uw_9⟩
theorem fl_RX11_174 : FL RX11 174 0 4 := ⟨RX0, TX0, 12, rfl, by decide, by decide, gw1 158 rfl rfl, uw_0⟩
theorem fl_RX11_177 : FL RX11 177 0 5 := ⟨RX0, TX0, 12, rfl, by decide, by decide, gw1 161 rfl rfl, uw_0⟩
theorem fl_RX11_184 : FL RX11 184 0 6 := ⟨RX0, TX0, 12, rfl, by decide, by decide, gw1 163 rfl rfl, uw_0⟩
theorem fl_RX11_187 : FL RX11 187 0 7 := ⟨RX0, TX0, 12, rfl, by decide, by decide, gw1 166 rfl rfl, uw_0⟩
theorem fl_RX11_190 : FL RX11 190 0 8 := ⟨RX0, TX0, 12, rfl, by decide, by decide, gw1 169 rfl rfl, uw_0⟩
theorem fl_RX11_193 : FL RX11 193 0 9 := ⟨RX0, TX0, 12, rfl, by decide, by decide, gw1 171 rfl rfl, uw_0⟩
theorem fl_RX11_199 : FL RX11 199 4 2 := ⟨RX5, TX5, 3, rfl, by decide, by decide, gw1 204 rfl rfl, uw_4⟩
theorem fl_RX11_217 : FL RX11 217 0 11 := ⟨RX0, TX0, 12, rfl, by decide, by decide, gw1 175 rfl rfl, uw_0⟩
theorem fp_RX11_217 : FP RX11 217 0 11 .int := ⟨RX0, TX0, 12, tyX0, ⟨rfl, by decide, by decide, gw1 175 rfl rfl, uw_0⟩, tyX0_ok, nmX0, rfl, by decide +kernel, fun _ _ _ _ _ => ⟨rfl, by show 11 < 12; decide⟩⟩
theorem fl_RX11_220 : FL RX11 220 9 11 := ⟨RX10, TX10, 12, rfl, by decide, by decide, gw2 99 rfl rfl, uw_9⟩
theorem fl_RX11_270 : FL RX11 270 7 2 := ⟨RX8, TX8, 5, rfl, by decide, by decide, gw2 27 rfl rfl, uw_7⟩
theorem fl_RX11_273 : FL RX11 273 7 1 := ⟨RX8, TX8, 5, rfl, by decide, by decide, gw2 25 rfl rfl, uw_7⟩
theorem fl_RX11_304 : FL RX11 304 6 5 := ⟨RX7, TX7, 6, rfl, by decide, by decide, gw2 3 rfl rfl, uw_6⟩
theorem fl_RX11_305 : FL RX11 305 6 4 := ⟨RX7, TX7, 6, rfl, by decide, by decide, gw2 1 rfl rfl, uw_6⟩
theorem fl_RX11_321 : FL RX11 321 0 0 := ⟨RX0, TX0, 12, rfl, by decide, by decide, gw1 146 rfl rfl, uw_0⟩
theorem fl_RX0_9 : FL RX0 9 0 1 := ⟨RX0, TX0, 12, rfl, by decide, by decide, gw1 147 rfl rfl, uw_0⟩
theorem fl_RX0_15 : FL RX0 15 0 2 := ⟨RX0, TX0, 12, rfl, by decide, by decide, gw1 150 rfl rfl, uw_0⟩
theorem fl_RX0_18 : FL RX0 18 0 3 := ⟨RX0, TX0, 12, rfl, by decide, by decide, gw1 153 rfl rfl, uw_0⟩
theorem fl_RX0_21 : FL RX0 21 0 9 := ⟨RX0, TX0, 12, rfl, by decide, by decide, gw1 170 rfl rfl, uw_0⟩
theorem fp_RX0_21 : FP RX0 21 0 9 .int := ⟨RX0, TX0, 12, tyX0, ⟨rfl, by decide, by decide, gw1 170 rfl rfl, uw_0⟩, tyX0_ok, nmX0, rfl, by decide +kernel, fun _ _ _ _ _ => ⟨rfl, by show 9 < 12; decide⟩⟩
theorem fl_RX0_25 : FL RX0 25 0 11 := ⟨RX0, TX0, 12, rfl, by decide, by decide, gw1 173 rfl rfl, uw_0⟩
theorem fp_RX0_25 : FP RX0 25 0 11 .int := ⟨RX0, TX0, 12, tyX0, ⟨rfl, by decide, by decide, gw1 173 rfl rfl, uw_0⟩, tyX0_ok, nmX0, rfl, by decide +kernel, fun _ _ _ _ _ => ⟨rfl, by show 11 < 12; decide⟩⟩
theorem fl_RX0_28 : FL RX0 28 9 0 := ⟨RX10, TX10, 12, rfl, by decide, by decide, gw2 60 rfl rfl, uw_9⟩
theorem fl_RX0_33 : FL RX0 33 0 0 := ⟨RX0, TX0, 12, rfl, by decide, by decide, gw1 144 rfl rfl, uw_0⟩
theorem fp_RX0_33 : FP RX0 33 0 0 .int := ⟨RX0, TX0, 12, tyX0, ⟨rfl, by decide, by decide, gw1 144 rfl rfl, uw_0⟩, tyX0_ok, nmX0, rfl, by decide +kernel, fun _ _ _ _ _ => ⟨rfl, by show 0 < 12; decide⟩⟩
theorem fl_RX0_40 : FL RX0 40 9 3 := ⟨RX10, TX10, 12, rfl, by decide, by decide, gw2 72 rfl rfl, uw_9⟩
theorem fl_RX0_49 : FL RX0 49 0 4 := ⟨RX0, TX0, 12, rfl, by decide, by decide, gw1 156 rfl rfl, uw_0⟩
theorem fp_RX0_49 : FP RX0 49 0 4 .int := ⟨RX0, TX0, 12, tyX0, ⟨rfl, by decide, by decide, gw1 156 rfl rfl, uw_0⟩, tyX0_ok, nmX0, rfl, by decide +kernel, fun _ _ _ _ _ => ⟨rfl, by show 4 < 12; decide⟩⟩
theorem fl_RX0_52 : FL RX0 52 0 5 := ⟨RX0, TX0, 12, rfl, by decide, by decide, gw1 159 rfl rfl, uw_0⟩
theorem fp_RX0_52 : FP RX0 52 0 5 .int := ⟨RX0, TX0, 12, tyX0, ⟨rfl, by decide, by decide, gw1 159 rfl rfl, uw_0⟩, tyX0_ok, nmX0, rfl, by decide +kernel, fun _ _ _ _ _ => ⟨rfl, by show 5 < 12; decide⟩⟩
theorem fl_RX0_55 : FL RX0 55 0 6 := ⟨RX0, TX0, 12, rfl, by decide, by decide, gw1 162 rfl rfl, uw_0⟩
theorem fp_RX0_55 : FP RX0 55 0 6 .int := ⟨RX0, TX0, 12, tyX0, ⟨rfl, by decide, by decide, gw1 162 rfl rfl, uw_0⟩, tyX0_ok, nmX0, rfl, by decide +kernel, fun _ _ _ _ _ => ⟨rfl, by show 6 < 12; decide⟩⟩
theorem fl_RX0_58 : FL RX0 58 0 7 := ⟨RX0, TX0, 12, rfl, by decide, by decide, gw1 164 rfl rfl, uw_0⟩
theorem fp_RX0_58 : FP RX0 58 0 7 .int := ⟨RX0, TX0, 12, tyX0, ⟨rfl, by decide, by decide, gw1 164 rfl rfl, uw_0⟩, tyX0_ok, nmX0, rfl, by decide +kernel, fun _ _ _ _ _ => ⟨rfl, by show 7 < 12; decide⟩⟩
theorem fl_RX0_61 : FL RX0 61 0 8 := ⟨RX0, TX0, 12, rfl, by decide, by decide, gw1 167 rfl rfl, uw_0⟩
theorem fp_RX0_61 : FP RX0 61 0 8 .int := ⟨RX0, TX0, 12, tyX0, ⟨rfl, by decide, by decide, gw1 167 rfl rfl, uw_0⟩, tyX0_ok, nmX0, rfl, by decide +kernel, fun _ _ _ _ _ => ⟨rfl, by show 8 < 12; decide⟩⟩
theorem fl_RX0_64 : FL RX0 64 9 4 := ⟨RX10, TX10, 12, rfl, by decide, by decide, gw2 75 rfl rfl, uw_9⟩
theorem fl_RX0_67 : FL RX0 67 0 10 := ⟨RX0, TX0, 12, rfl, by decide, by decide, gw1 172 rfl rfl, uw_0⟩
theorem fp_RX0_67 : FP RX0 67 0 10 .int := ⟨RX0, TX0, 12, tyX0, ⟨rfl, by decide, by decide, gw1 172 rfl rfl, uw_0⟩, tyX0_ok, nmX0, rfl, by decide +kernel, fun _ _ _ _ _ => ⟨rfl, by show 10 < 12; decide⟩⟩
theorem fl_RX0_96 : FL RX0 96 9 6 := ⟨RX10, TX10, 12, rfl, by decide, by decide, gw2 85 rfl rfl, uw_9⟩
theorem fl_RX0_99 : FL RX0 99 9 5 := ⟨RX10, TX10, 12, rfl, by decide, by decide, gw2 81 rfl rfl, uw_9⟩
theorem fl_RX1_9 : FL RX1 9 1 0 := ⟨RX1, TX1, 4, rfl, by decide, by decide, gw1 113 rfl rfl, uw_1⟩
theorem fl_RX1_15 : FL RX1 15 1 1 := ⟨RX1, TX1, 4, rfl, by decide, by decide, gw1 115 rfl rfl, uw_1⟩
theorem fl_RX1_18 : FL RX1 18 1 2 := ⟨RX1, TX1, 4, rfl, by decide, by decide, gw1 116 rfl rfl, uw_1⟩
theorem fp_RX1_18 : FP RX1 18 1 2 .int := ⟨RX1, TX1, 4, tyX1, ⟨rfl, by decide, by decide, gw1 116 rfl rfl, uw_1⟩, tyX1_ok, nmX1, rfl, by decide +kernel, fun _ _ _ _ _ => ⟨rfl, by show 2 < 4; decide⟩⟩
theorem fl_RX1_22 : FL RX1 22 1 3 := ⟨RX1, TX1, 4, rfl, by decide, by decide, gw1 117 rfl rfl, uw_1⟩
theorem fp_RX1_22 : FP RX1 22 1 3 .boolean := ⟨RX1, TX1, 4, tyX1, ⟨rfl, by decide, by decide, gw1 117 rfl rfl, uw_1⟩, tyX1_ok, nmX1, rfl, by decide +kernel, fun _ _ _ _ _ => ⟨rfl, by show 3 < 4; decide⟩⟩
theorem fl_RX2_9 : FL RX2 9 2 0 := ⟨RX2, TX2, 3, rfl, by decide, by decide, gw1 218 rfl rfl, uw_2⟩
theorem fl_RX2_15 : FL RX2 15 2 1 := ⟨RX2, TX2, 3, rfl, by decide, by decide, gw1 219 rfl rfl, uw_2⟩
theorem fl_RX2_19 : FL RX2 19 2 2 := ⟨RX2, TX2, 3, rfl, by decide, by decide, gw1 220 rfl rfl, uw_2⟩
theorem fp_RX2_19 : FP RX2 19 2 2 .int := ⟨RX2, TX2, 3, tyX2, ⟨rfl, by decide, by decide, gw1 220 rfl rfl, uw_2⟩, tyX2_ok, nmX2, rfl, by decide +kernel, fun _ _ _ _ _ => ⟨rfl, by show 2 < 3; decide⟩⟩
theorem fl_RX4_12 : FL RX4 12 3 0 := ⟨RX4, TX4, 1, rfl, by decide, by decide, gw1 127 rfl rfl, uw_3⟩
theorem fl_RX4_42 : FL RX4 42 0 5 := ⟨RX0, TX0, 12, rfl, by decide, by decide, gw1 160 rfl rfl, uw_0⟩
theorem fp_RX4_42 : FP RX4 42 0 5 .int := ⟨RX0, TX0, 12, tyX0, ⟨rfl, by decide, by decide, gw1 160 rfl rfl, uw_0⟩, tyX0_ok, nmX0, rfl, by decide +kernel, fun _ _ _ _ _ => ⟨rfl, by show 5 < 12; decide⟩⟩
theorem fl_RX4_46 : FL RX4 46 9 10 := ⟨RX10, TX10, 12, rfl, by decide, by decide, gw2 95 rfl rfl, uw_9⟩
theorem fl_RX4_57 : FL RX4 57 0 0 := ⟨RX0, TX0, 12, rfl, by decide, by decide, gw1 145 rfl rfl, uw_0⟩
theorem fl_RX4_74 : FL RX4 74 0 2 := ⟨RX0, TX0, 12, rfl, by decide, by decide, gw1 151 rfl rfl, uw_0⟩
theorem fl_RX4_78 : FL RX4 78 0 4 := ⟨RX0, TX0, 12, rfl, by decide, by decide, gw1 157 rfl rfl, uw_0⟩
theorem fp_RX4_78 : FP RX4 78 0 4 .int := ⟨RX0, TX0, 12, tyX0, ⟨rfl, by decide, by decide, gw1 157 rfl rfl, uw_0⟩, tyX0_ok, nmX0, rfl, by decide +kernel, fun _ _ _ _ _ => ⟨rfl, by show 4 < 12; decide⟩⟩
theorem fp_RX4_81 : FP RX4 81 0 11 .int := ⟨RX0, TX0, 12, tyX0, ⟨rfl, by decide, by decide, gw1 174 rfl rfl, uw_0⟩, tyX0_ok, nmX0, rfl, by decide +kernel, fun _ _ _ _ _ => ⟨rfl, by show 11 < 12; decide⟩⟩
theorem fl_RX4_92 : FL RX4 92 0 8 := ⟨RX0, TX0, 12, rfl, by decide, by decide, gw1 168 rfl rfl, uw_0⟩
theorem fp_RX4_92 : FP RX4 92 0 8 .int := ⟨RX0, TX0, 12, tyX0, ⟨rfl, by decide, by decide, gw1 168 rfl rfl, uw_0⟩, tyX0_ok, nmX0, rfl, by decide +kernel, fun _ _ _ _ _ => ⟨rfl, by show 8 < 12; decide⟩⟩
theorem fl_RX4_98 : FL RX4 98 0 7 := ⟨RX0, TX0, 12, rfl, by decide, by decide, gw1 165 rfl rfl, uw_0⟩
theorem fp_RX4_98 : FP RX4 98 0 7 .int := ⟨RX0, TX0, 12, tyX0, ⟨rfl, by decide, by decide, gw1 165 rfl rfl, uw_0⟩, tyX0_ok, nmX0, rfl, by decide +kernel, fun _ _ _ _ _ => ⟨rfl, by show 7 < 12; decide⟩⟩
theorem fl_RX4_101 : FL RX4 101 0 3 := ⟨RX0, TX0, 12, rfl, by decide, by decide, gw1 154 rfl rfl, uw_0⟩
theorem fl_RX4_104 : FL RX4 104 0 1 := ⟨RX0, TX0, 12, rfl, by decide, by decide, gw1 148 rfl rfl, uw_0⟩
theorem fl_RX4_107 : FL RX4 107 1 0 := ⟨RX1, TX1, 4, rfl, by decide, by decide, gw1 114 rfl rfl, uw_1⟩
theorem fl_RX4_110 : FL RX4 110 9 1 := ⟨RX10, TX10, 12, rfl, by decide, by decide, gw2 64 rfl rfl, uw_9⟩
theorem fl_RX4_113 : FL RX4 113 9 2 := ⟨RX10, TX10, 12, rfl, by decide, by decide, gw2 68 rfl rfl, uw_9⟩
theorem fl_RX4_116 : FL RX4 116 9 7 := ⟨RX10, TX10, 12, rfl, by decide, by decide, gw2 87 rfl rfl, uw_9⟩
theorem fl_RX4_119 : FL RX4 119 9 9 := ⟨RX10, TX10, 12, rfl, by decide, by decide, gw2 92 rfl rfl, uw_9⟩
theorem fl_RX5_11 : FL RX5 11 4 0 := ⟨RX5, TX5, 3, rfl, by decide, by decide, gw1 201 rfl rfl, uw_4⟩
theorem fl_RX5_18 : FL RX5 18 4 2 := ⟨RX5, TX5, 3, rfl, by decide, by decide, gw1 203 rfl rfl, uw_4⟩
theorem fp_RX5_18 : FP RX5 18 4 2 .int := ⟨RX5, TX5, 3, tyX5, ⟨rfl, by decide, by decide, gw1 203 rfl rfl, uw_4⟩, tyX5_ok, nmX5, rfl, by decide +kernel, fun _ _ _ _ _ => ⟨rfl, by show 2 < 3; decide⟩⟩
theorem fl_RX5_22 : FL RX5 22 4 1 := ⟨RX5, TX5, 3, rfl, by decide, by decide, gw1 202 rfl rfl, uw_4⟩
theorem fp_RX5_22 : FP RX5 22 4 1 .int := ⟨RX5, TX5, 3, tyX5, ⟨rfl, by decide, by decide, gw1 202 rfl rfl, uw_4⟩, tyX5_ok, nmX5, rfl, by decide +kernel, fun _ _ _ _ _ => ⟨rfl, by show 1 < 3; decide⟩⟩
theorem fl_RX6_12 : FL RX6 12 5 0 := ⟨RX6, TX6, 10, rfl, by decide, by decide, gw1 68 rfl rfl, uw_5⟩
theorem fp_RX6_18 : FP RX6 18 5 1 .int := ⟨RX6, TX6, 10, tyX6, ⟨rfl, by decide, by decide, gw1 70 rfl rfl, uw_5⟩, tyX6_ok, nmX6, rfl, by decide +kernel, fun _ _ _ _ _ => ⟨rfl, by show 1 < 10; decide⟩⟩
theorem fl_RX6_22 : FL RX6 22 5 8 := ⟨RX6, TX6, 10, rfl, by decide, by decide, gw1 78 rfl rfl, uw_5⟩
theorem fl_RX6_31 : FL RX6 31 5 9 := ⟨RX6, TX6, 10, rfl, by decide, by decide, gw1 79 rfl rfl, uw_5⟩
theorem fp_RX6_31 : FP RX6 31 5 9 .int := ⟨RX6, TX6, 10, tyX6, ⟨rfl, by decide, by decide, gw1 79 rfl rfl, uw_5⟩, tyX6_ok, nmX6, rfl, by decide +kernel, fun _ _ _ _ _ => ⟨rfl, by show 9 < 10; decide⟩⟩
theorem fl_RX6_34 : FL RX6 34 5 2 := ⟨RX6, TX6, 10, rfl, by decide, by decide, gw1 72 rfl rfl, uw_5⟩
theorem fp_RX6_34 : FP RX6 34 5 2 .int := ⟨RX6, TX6, 10, tyX6, ⟨rfl, by decide, by decide, gw1 72 rfl rfl, uw_5⟩, tyX6_ok, nmX6, rfl, by decide +kernel, fun _ _ _ _ _ => ⟨rfl, by show 2 < 10; decide⟩⟩
theorem fl_RX6_37 : FL RX6 37 5 3 := ⟨RX6, TX6, 10, rfl, by decide, by decide, gw1 73 rfl rfl, uw_5⟩
theorem fp_RX6_37 : FP RX6 37 5 3 .int := ⟨RX6, TX6, 10, tyX6, ⟨rfl, by decide, by decide, gw1 73 rfl rfl, uw_5⟩, tyX6_ok, nmX6, rfl, by decide +kernel, fun _ _ _ _ _ => ⟨rfl, by show 3 < 10; decide⟩⟩
theorem fl_RX6_40 : FL RX6 40 5 4 := ⟨RX6, TX6, 10, rfl, by decide, by decide, gw1 74 rfl rfl, uw_5⟩
theorem fp_RX6_40 : FP RX6 40 5 4 .int := ⟨RX6, TX6, 10, tyX6, ⟨rfl, by decide, by decide, gw1 74 rfl rfl, uw_5⟩, tyX6_ok, nmX6, rfl, by decide +kernel, fun _ _ _ _ _ => ⟨rfl, by show 4 < 10; decide⟩⟩
theorem fl_RX6_46 : FL RX6 46 5 5 := ⟨RX6, TX6, 10, rfl, by decide, by decide, gw1 75 rfl rfl, uw_5⟩
theorem fp_RX6_46 : FP RX6 46 5 5 .int := ⟨RX6, TX6, 10, tyX6, ⟨rfl, by decide, by decide, gw1 75 rfl rfl, uw_5⟩, tyX6_ok, nmX6, rfl, by decide +kernel, fun _ _ _ _ _ => ⟨rfl, by show 5 < 10; decide⟩⟩
theorem fl_RX6_49 : FL RX6 49 8 2 := ⟨RX9, TX9, 6, rfl, by decide, by decide, gw1 47 rfl rfl, uw_8⟩
theorem fl_RX6_53 : FL RX6 53 5 6 := ⟨RX6, TX6, 10, rfl, by decide, by decide, gw1 76 rfl rfl, uw_5⟩
theorem fp_RX6_53 : FP RX6 53 5 6 .int := ⟨RX6, TX6, 10, tyX6, ⟨rfl, by decide, by decide, gw1 76 rfl rfl, uw_5⟩, tyX6_ok, nmX6, rfl, by decide +kernel, fun _ _ _ _ _ => ⟨rfl, by show 6 < 10; decide⟩⟩
theorem fl_RX6_64 : FL RX6 64 8 4 := ⟨RX9, TX9, 6, rfl, by decide, by decide, gw1 51 rfl rfl, uw_8⟩
theorem fl_RX6_67 : FL RX6 67 5 7 := ⟨RX6, TX6, 10, rfl, by decide, by decide, gw1 77 rfl rfl, uw_5⟩
theorem fp_RX6_67 : FP RX6 67 5 7 .int := ⟨RX6, TX6, 10, tyX6, ⟨rfl, by decide, by decide, gw1 77 rfl rfl, uw_5⟩, tyX6_ok, nmX6, rfl, by decide +kernel, fun _ _ _ _ _ => ⟨rfl, by show 7 < 10; decide⟩⟩
theorem fl_RX6_70 : FL RX6 70 8 3 := ⟨RX9, TX9, 6, rfl, by decide, by decide, gw1 49 rfl rfl, uw_8⟩
theorem fp_RX6_94 : FP RX6 94 9 10 .int := ⟨RX10, TX10, 12, tyX10, ⟨rfl, by decide, by decide, gw2 96 rfl rfl, uw_9⟩, tyX10_ok, nmX10, rfl, by decide +kernel, fun _ _ _ _ _ => ⟨rfl, by show 10 < 12; decide⟩⟩
theorem fp_RX6_97 : FP RX6 97 9 11 .int := ⟨RX10, TX10, 12, tyX10, ⟨rfl, by decide, by decide, gw2 98 rfl rfl, uw_9⟩, tyX10_ok, nmX10, rfl, by decide +kernel, fun _ _ _ _ _ => ⟨rfl, by show 11 < 12; decide⟩⟩
theorem fl_RX6_100 : FL RX6 100 9 0 := ⟨RX10, TX10, 12, rfl, by decide, by decide, gw2 61 rfl rfl, uw_9⟩
theorem fp_RX6_100 : FP RX6 100 9 0 .int := ⟨RX10, TX10, 12, tyX10, ⟨rfl, by decide, by decide, gw2 61 rfl rfl, uw_9⟩, tyX10_ok, nmX10, rfl, by decide +kernel, fun _ _ _ _ _ => ⟨rfl, by show 0 < 12; decide⟩⟩
theorem fl_RX6_107 : FL RX6 107 9 1 := ⟨RX10, TX10, 12, rfl, by decide, by decide, gw2 66 rfl rfl, uw_9⟩
theorem fl_RX6_110 : FL RX6 110 9 2 := ⟨RX10, TX10, 12, rfl, by decide, by decide, gw2 70 rfl rfl, uw_9⟩
theorem fl_RX6_113 : FL RX6 113 9 3 := ⟨RX10, TX10, 12, rfl, by decide, by decide, gw2 73 rfl rfl, uw_9⟩
theorem fl_RX6_116 : FL RX6 116 9 4 := ⟨RX10, TX10, 12, rfl, by decide, by decide, gw2 76 rfl rfl, uw_9⟩
theorem fp_RX6_116 : FP RX6 116 9 4 .int := ⟨RX10, TX10, 12, tyX10, ⟨rfl, by decide, by decide, gw2 76 rfl rfl, uw_9⟩, tyX10_ok, nmX10, rfl, by decide +kernel, fun _ _ _ _ _ => ⟨rfl, by show 4 < 12; decide⟩⟩
theorem fl_RX6_119 : FL RX6 119 9 5 := ⟨RX10, TX10, 12, rfl, by decide, by decide, gw2 80 rfl rfl, uw_9⟩
theorem fl_RX6_123 : FL RX6 123 9 6 := ⟨RX10, TX10, 12, rfl, by decide, by decide, gw2 84 rfl rfl, uw_9⟩
theorem fl_RX6_126 : FL RX6 126 9 9 := ⟨RX10, TX10, 12, rfl, by decide, by decide, gw2 93 rfl rfl, uw_9⟩
theorem fl_RX6_129 : FL RX6 129 9 8 := ⟨RX10, TX10, 12, rfl, by decide, by decide, gw2 90 rfl rfl, uw_9⟩
theorem fl_RX6_141 : FL RX6 141 9 7 := ⟨RX10, TX10, 12, rfl, by decide, by decide, gw2 88 rfl rfl, uw_9⟩
theorem fl_RX7_11 : FL RX7 11 6 0 := ⟨RX7, TX7, 6, rfl, by decide, by decide, gw1 236 rfl rfl, uw_6⟩
theorem fl_RX7_15 : FL RX7 15 6 2 := ⟨RX7, TX7, 6, rfl, by decide, by decide, gw1 238 rfl rfl, uw_6⟩
theorem fl_RX7_18 : FL RX7 18 6 3 := ⟨RX7, TX7, 6, rfl, by decide, by decide, gw1 239 rfl rfl, uw_6⟩
theorem fl_RX7_21 : FL RX7 21 6 4 := ⟨RX7, TX7, 6, rfl, by decide, by decide, gw2 0 rfl rfl, uw_6⟩
theorem fl_RX7_30 : FL RX7 30 6 1 := ⟨RX7, TX7, 6, rfl, by decide, by decide, gw1 237 rfl rfl, uw_6⟩
theorem fp_RX7_30 : FP RX7 30 6 1 .int := ⟨RX7, TX7, 6, tyX7, ⟨rfl, by decide, by decide, gw1 237 rfl rfl, uw_6⟩, tyX7_ok, nmX7, rfl, by decide +kernel, fun _ _ _ _ _ => ⟨rfl, by show 1 < 6; decide⟩⟩
theorem fl_RX7_38 : FL RX7 38 6 5 := ⟨RX7, TX7, 6, rfl, by decide, by decide, gw2 2 rfl rfl, uw_6⟩
theorem fp_RX7_38 : FP RX7 38 6 5 .int := ⟨RX7, TX7, 6, tyX7, ⟨rfl, by decide, by decide, gw2 2 rfl rfl, uw_6⟩, tyX7_ok, nmX7, rfl, by decide +kernel, fun _ _ _ _ _ => ⟨rfl, by show 5 < 6; decide⟩⟩
theorem fl_RX8_9 : FL RX8 9 7 0 := ⟨RX8, TX8, 5, rfl, by decide, by decide, gw2 23 rfl rfl, uw_7⟩
theorem fl_RX8_13 : FL RX8 13 7 1 := ⟨RX8, TX8, 5, rfl, by decide, by decide, gw2 24 rfl rfl, uw_7⟩
theorem fl_RX8_25 : FL RX8 25 7 3 := ⟨RX8, TX8, 5, rfl, by decide, by decide, gw2 28 rfl rfl, uw_7⟩
theorem fp_RX8_25 : FP RX8 25 7 3 .int := ⟨RX8, TX8, 5, tyX8, ⟨rfl, by decide, by decide, gw2 28 rfl rfl, uw_7⟩, tyX8_ok, nmX8, rfl, by decide +kernel, fun _ _ _ _ _ => ⟨rfl, by show 3 < 5; decide⟩⟩
theorem fl_RX8_29 : FL RX8 29 7 4 := ⟨RX8, TX8, 5, rfl, by decide, by decide, gw2 29 rfl rfl, uw_7⟩
theorem fp_RX8_29 : FP RX8 29 7 4 .int := ⟨RX8, TX8, 5, tyX8, ⟨rfl, by decide, by decide, gw2 29 rfl rfl, uw_7⟩, tyX8_ok, nmX8, rfl, by decide +kernel, fun _ _ _ _ _ => ⟨rfl, by show 4 < 5; decide⟩⟩
theorem fl_RX8_32 : FL RX8 32 7 2 := ⟨RX8, TX8, 5, rfl, by decide, by decide, gw2 26 rfl rfl, uw_7⟩
theorem fp_RX8_32 : FP RX8 32 7 2 .int := ⟨RX8, TX8, 5, tyX8, ⟨rfl, by decide, by decide, gw2 26 rfl rfl, uw_7⟩, tyX8_ok, nmX8, rfl, by decide +kernel, fun _ _ _ _ _ => ⟨rfl, by show 2 < 5; decide⟩⟩
theorem fl_RX9_9 : FL RX9 9 8 0 := ⟨RX9, TX9, 6, rfl, by decide, by decide, gw1 43 rfl rfl, uw_8⟩
theorem fl_RX9_15 : FL RX9 15 8 2 := ⟨RX9, TX9, 6, rfl, by decide, by decide, gw1 46 rfl rfl, uw_8⟩
theorem fl_RX9_18 : FL RX9 18 8 3 := ⟨RX9, TX9, 6, rfl, by decide, by decide, gw1 48 rfl rfl, uw_8⟩
theorem fl_RX9_21 : FL RX9 21 8 4 := ⟨RX9, TX9, 6, rfl, by decide, by decide, gw1 50 rfl rfl, uw_8⟩
theorem fl_RX9_25 : FL RX9 25 8 1 := ⟨RX9, TX9, 6, rfl, by decide, by decide, gw1 45 rfl rfl, uw_8⟩
theorem fp_RX9_25 : FP RX9 25 8 1 .int := ⟨RX9, TX9, 6, tyX9, ⟨rfl, by decide, by decide, gw1 45 rfl rfl, uw_8⟩, tyX9_ok, nmX9, rfl, by decide +kernel, fun _ _ _ _ _ => ⟨rfl, by show 1 < 6; decide⟩⟩
theorem fl_RX9_29 : FL RX9 29 8 5 := ⟨RX9, TX9, 6, rfl, by decide, by decide, gw1 52 rfl rfl, uw_8⟩
theorem fp_RX9_29 : FP RX9 29 8 5 .int := ⟨RX9, TX9, 6, tyX9, ⟨rfl, by decide, by decide, gw1 52 rfl rfl, uw_8⟩, tyX9_ok, nmX9, rfl, by decide +kernel, fun _ _ _ _ _ => ⟨rfl, by show 5 < 6; decide⟩⟩
theorem fl_RX10_29 : FL RX10 29 9 7 := ⟨RX10, TX10, 12, rfl, by decide, by decide, gw2 86 rfl rfl, uw_9⟩
theorem fl_RX10_32 : FL RX10 32 9 9 := ⟨RX10, TX10, 12, rfl, by decide, by decide, gw2 91 rfl rfl, uw_9⟩
theorem fl_RX10_38 : FL RX10 38 9 0 := ⟨RX10, TX10, 12, rfl, by decide, by decide, gw2 59 rfl rfl, uw_9⟩
theorem fp_RX10_38 : FP RX10 38 9 0 .int := ⟨RX10, TX10, 12, tyX10, ⟨rfl, by decide, by decide, gw2 59 rfl rfl, uw_9⟩, tyX10_ok, nmX10, rfl, by decide +kernel, fun _ _ _ _ _ => ⟨rfl, by show 0 < 12; decide⟩⟩
theorem fl_RX10_42 : FL RX10 42 9 4 := ⟨RX10, TX10, 12, rfl, by decide, by decide, gw2 74 rfl rfl, uw_9⟩
theorem fp_RX10_42 : FP RX10 42 9 4 .int := ⟨RX10, TX10, 12, tyX10, ⟨rfl, by decide, by decide, gw2 74 rfl rfl, uw_9⟩, tyX10_ok, nmX10, rfl, by decide +kernel, fun _ _ _ _ _ => ⟨rfl, by show 4 < 12; decide⟩⟩
theorem fp_RX10_45 : FP RX10 45 9 10 .int := ⟨RX10, TX10, 12, tyX10, ⟨rfl, by decide, by decide, gw2 94 rfl rfl, uw_9⟩, tyX10_ok, nmX10, rfl, by decide +kernel, fun _ _ _ _ _ => ⟨rfl, by show 10 < 12; decide⟩⟩
theorem fp_RX10_48 : FP RX10 48 9 11 .int := ⟨RX10, TX10, 12, tyX10, ⟨rfl, by decide, by decide, gw2 97 rfl rfl, uw_9⟩, tyX10_ok, nmX10, rfl, by decide +kernel, fun _ _ _ _ _ => ⟨rfl, by show 11 < 12; decide⟩⟩
theorem fl_RX10_51 : FL RX10 51 9 8 := ⟨RX10, TX10, 12, rfl, by decide, by decide, gw2 89 rfl rfl, uw_9⟩
theorem fp_RX10_51 : FP RX10 51 9 8 .int := ⟨RX10, TX10, 12, tyX10, ⟨rfl, by decide, by decide, gw2 89 rfl rfl, uw_9⟩, tyX10_ok, nmX10, rfl, by decide +kernel, fun _ _ _ _ _ => ⟨rfl, by show 8 < 12; decide⟩⟩
theorem fl_RX12_13 : FL RX12 13 11 1 := ⟨RX12, TX12, 66, rfl, by decide, by decide, gw5 100 rfl rfl, uw_11⟩
theorem fl_RX12_17 : FL RX12 17 11 3 := ⟨RX12, TX12, 66, rfl, by decide, by decide, gw5 102 rfl rfl, uw_11⟩
theorem fl_RX12_20 : FL RX12 20 11 5 := ⟨RX12, TX12, 66, rfl, by decide, by decide, gw5 104 rfl rfl, uw_11⟩
theorem fl_RX12_24 : FL RX12 24 11 6 := ⟨RX12, TX12, 66, rfl, by decide, by decide, gw5 105 rfl rfl, uw_11⟩
theorem fl_RX12_27 : FL RX12 27 11 7 := ⟨RX12, TX12, 66, rfl, by decide, by decide, gw5 106 rfl rfl, uw_11⟩
theorem fl_RX12_30 : FL RX12 30 11 8 := ⟨RX12, TX12, 66, rfl, by decide, by decide, gw5 107 rfl rfl, uw_11⟩
theorem fl_RX12_34 : FL RX12 34 11 9 := ⟨RX12, TX12, 66, rfl, by decide, by decide, gw5 108 rfl rfl, uw_11⟩
theorem fl_RX12_37 : FL RX12 37 11 17 := ⟨RX12, TX12, 66, rfl, by decide, by decide, gw5 116 rfl rfl, uw_11⟩
theorem fp_RX12_37 : FP RX12 37 11 17 .int := ⟨RX12, TX12, 66, tyX12, ⟨rfl, by decide, by decide, gw5 116 rfl rfl, uw_11⟩, tyX12_ok, nmX12, rfl, by decide +kernel, fun _ _ _ _ _ => ⟨rfl, by show 17 < 66; decide⟩⟩
theorem fl_RX12_40 : FL RX12 40 11 21 := ⟨RX12, TX12, 66, rfl, by decide, by decide, gw5 120 rfl rfl, uw_11⟩
theorem fl_RX12_43 : FL RX12 43 11 22 := ⟨RX12, TX12, 66, rfl, by decide, by decide, gw5 121 rfl rfl, uw_11⟩
theorem fl_RX12_46 : FL RX12 46 11 23 := ⟨RX12, TX12, 66, rfl, by decide, by decide, gw5 122 rfl rfl, uw_11⟩
theorem fl_RX12_49 : FL RX12 49 11 24 := ⟨RX12, TX12, 66, rfl, by decide, by decide, gw5 123 rfl rfl, uw_11⟩
theorem fl_RX12_52 : FL RX12 52 11 25 := ⟨RX12, TX12, 66, rfl, by decide, by decide, gw5 124 rfl rfl, uw_11⟩
theorem fl_RX12_55 : FL RX12 55 11 26 := ⟨RX12, TX12, 66, rfl, by decide, by decide, gw5 125 rfl rfl, uw_11⟩
theorem fl_RX12_58 : FL RX12 58 11 27 := ⟨RX12, TX12, 66, rfl, by decide, by decide, gw5 126 rfl rfl, uw_11⟩
theorem fl_RX12_61 : FL RX12 61 11 28 := ⟨RX12, TX12, 66, rfl, by decide, by decide, gw5 127 rfl rfl, uw_11⟩
theorem fl_RX12_64 : FL RX12 64 11 29 := ⟨RX12, TX12, 66, rfl, by decide, by decide, gw5 128 rfl rfl, uw_11⟩
theorem fl_RX12_67 : FL RX12 67 11 30 := ⟨RX12, TX12, 66, rfl, by decide, by decide, gw5 129 rfl rfl, uw_11⟩
theorem fl_RX12_70 : FL RX12 70 11 31 := ⟨RX12, TX12, 66, rfl, by decide, by decide, gw5 130 rfl rfl, uw_11⟩
theorem fl_RX12_73 : FL RX12 73 11 32 := ⟨RX12, TX12, 66, rfl, by decide, by decide, gw5 131 rfl rfl, uw_11⟩
theorem fl_RX12_76 : FL RX12 76 11 34 := ⟨RX12, TX12, 66, rfl, by decide, by decide, gw5 133 rfl rfl, uw_11⟩
theorem fl_RX12_80 : FL RX12 80 11 35 := ⟨RX12, TX12, 66, rfl, by decide, by decide, gw5 134 rfl rfl, uw_11⟩
theorem fl_RX12_83 : FL RX12 83 11 36 := ⟨RX12, TX12, 66, rfl, by decide, by decide, gw5 135 rfl rfl, uw_11⟩
theorem fl_RX12_86 : FL RX12 86 11 37 := ⟨RX12, TX12, 66, rfl, by decide, by decide, gw5 136 rfl rfl, uw_11⟩
theorem fl_RX12_89 : FL RX12 89 11 38 := ⟨RX12, TX12, 66, rfl, by decide, by decide, gw5 137 rfl rfl, uw_11⟩
theorem fl_RX12_92 : FL RX12 92 11 40 := ⟨RX12, TX12, 66, rfl, by decide, by decide, gw5 139 rfl rfl, uw_11⟩
theorem fl_RX12_95 : FL RX12 95 11 41 := ⟨RX12, TX12, 66, rfl, by decide, by decide, gw5 140 rfl rfl, uw_11⟩
theorem fl_RX12_98 : FL RX12 98 11 42 := ⟨RX12, TX12, 66, rfl, by decide, by decide, gw5 141 rfl rfl, uw_11⟩
theorem fl_RX12_101 : FL RX12 101 11 44 := ⟨RX12, TX12, 66, rfl, by decide, by decide, gw5 143 rfl rfl, uw_11⟩
theorem fl_RX12_104 : FL RX12 104 11 45 := ⟨RX12, TX12, 66, rfl, by decide, by decide, gw5 144 rfl rfl, uw_11⟩
theorem fl_RX12_107 : FL RX12 107 11 47 := ⟨RX12, TX12, 66, rfl, by decide, by decide, gw5 146 rfl rfl, uw_11⟩
theorem fl_RX12_110 : FL RX12 110 11 48 := ⟨RX12, TX12, 66, rfl, by decide, by decide, gw5 147 rfl rfl, uw_11⟩
theorem fl_RX12_113 : FL RX12 113 11 55 := ⟨RX12, TX12, 66, rfl, by decide, by decide, gw5 154 rfl rfl, uw_11⟩
theorem fl_RX12_116 : FL RX12 116 11 56 := ⟨RX12, TX12, 66, rfl, by decide, by decide, gw5 155 rfl rfl, uw_11⟩
theorem fl_RX12_119 : FL RX12 119 11 58 := ⟨RX12, TX12, 66, rfl, by decide, by decide, gw5 157 rfl rfl, uw_11⟩
theorem fl_RX12_122 : FL RX12 122 11 59 := ⟨RX12, TX12, 66, rfl, by decide, by decide, gw5 158 rfl rfl, uw_11⟩
theorem fl_RX12_125 : FL RX12 125 11 61 := ⟨RX12, TX12, 66, rfl, by decide, by decide, gw5 160 rfl rfl, uw_11⟩
theorem fl_RX12_128 : FL RX12 128 11 62 := ⟨RX12, TX12, 66, rfl, by decide, by decide, gw5 161 rfl rfl, uw_11⟩
theorem fl_RX12_131 : FL RX12 131 11 63 := ⟨RX12, TX12, 66, rfl, by decide, by decide, gw5 162 rfl rfl, uw_11⟩
theorem fl_RX12_134 : FL RX12 134 11 64 := ⟨RX12, TX12, 66, rfl, by decide, by decide, gw5 163 rfl rfl, uw_11⟩
theorem fl_RX12_137 : FL RX12 137 11 65 := ⟨RX12, TX12, 66, rfl, by decide, by decide, gw5 164 rfl rfl, uw_11⟩
theorem fl_RX12_154 : FL RX12 154 11 2 := ⟨RX12, TX12, 66, rfl, by decide, by decide, gw5 101 rfl rfl, uw_11⟩
theorem fp_RX12_154 : FP RX12 154 11 2 .int := ⟨RX12, TX12, 66, tyX12, ⟨rfl, by decide, by decide, gw5 101 rfl rfl, uw_11⟩, tyX12_ok, nmX12, rfl, by decide +kernel, fun _ _ _ _ _ => ⟨rfl, by show 2 < 66; decide⟩⟩
theorem fl_RX12_160 : FL RX12 160 11 4 := ⟨RX12, TX12, 66, rfl, by decide, by decide, gw5 103 rfl rfl, uw_11⟩
theorem fp_RX12_160 : FP RX12 160 11 4 .int := ⟨RX12, TX12, 66, tyX12, ⟨rfl, by decide, by decide, gw5 103 rfl rfl, uw_11⟩, tyX12_ok, nmX12, rfl, by decide +kernel, fun _ _ _ _ _ => ⟨rfl, by show 4 < 66; decide⟩⟩
theorem fl_RX12_169 : FL RX12 169 11 10 := ⟨RX12, TX12, 66, rfl, by decide, by decide, gw5 109 rfl rfl, uw_11⟩
theorem fp_RX12_169 : FP RX12 169 11 10 .int := ⟨RX12, TX12, 66, tyX12, ⟨rfl, by decide, by decide, gw5 109 rfl rfl, uw_11⟩, tyX12_ok, nmX12, rfl, by decide +kernel, fun _ _ _ _ _ => ⟨rfl, by show 10 < 66; decide⟩⟩
theorem fl_RX12_191 : FL RX12 191 11 13 := ⟨RX12, TX12, 66, rfl, by decide, by decide, gw5 112 rfl rfl, uw_11⟩
theorem fp_RX12_191 : FP RX12 191 11 13 .int := ⟨RX12, TX12, 66, tyX12, ⟨rfl, by decide, by decide, gw5 112 rfl rfl, uw_11⟩, tyX12_ok, nmX12, rfl, by decide +kernel, fun _ _ _ _ _ => ⟨rfl, by show 13 < 66; decide⟩⟩
theorem fl_RX12_194 : FL RX12 194 11 11 := ⟨RX12, TX12, 66, rfl, by decide, by decide, gw5 110 rfl rfl, uw_11⟩
theorem fp_RX12_194 : FP RX12 194 11 11 .int := ⟨RX12, TX12, 66, tyX12, ⟨rfl, by decide, by decide, gw5 110 rfl rfl, uw_11⟩, tyX12_ok, nmX12, rfl, by decide +kernel, fun _ _ _ _ _ => ⟨rfl, by show 11 < 66; decide⟩⟩
theorem fl_RX12_197 : FL RX12 197 11 14 := ⟨RX12, TX12, 66, rfl, by decide, by decide, gw5 113 rfl rfl, uw_11⟩
theorem fp_RX12_197 : FP RX12 197 11 14 .int := ⟨RX12, TX12, 66, tyX12, ⟨rfl, by decide, by decide, gw5 113 rfl rfl, uw_11⟩, tyX12_ok, nmX12, rfl, by decide +kernel, fun _ _ _ _ _ => ⟨rfl, by show 14 < 66; decide⟩⟩
theorem fl_RX12_200 : FL RX12 200 11 15 := ⟨RX12, TX12, 66, rfl, by decide, by decide, gw5 114 rfl rfl, uw_11⟩
theorem fp_RX12_200 : FP RX12 200 11 15 .int := ⟨RX12, TX12, 66, tyX12, ⟨rfl, by decide, by decide, gw5 114 rfl rfl, uw_11⟩, tyX12_ok, nmX12, rfl, by decide +kernel, fun _ _ _ _ _ => ⟨rfl, by show 15 < 66; decide⟩⟩
theorem fl_RX12_203 : FL RX12 203 11 16 := ⟨RX12, TX12, 66, rfl, by decide, by decide, gw5 115 rfl rfl, uw_11⟩
theorem fp_RX12_203 : FP RX12 203 11 16 .int := ⟨RX12, TX12, 66, tyX12, ⟨rfl, by decide, by decide, gw5 115 rfl rfl, uw_11⟩, tyX12_ok, nmX12, rfl, by decide +kernel, fun _ _ _ _ _ => ⟨rfl, by show 16 < 66; decide⟩⟩
theorem fl_RX12_218 : FL RX12 218 11 12 := ⟨RX12, TX12, 66, rfl, by decide, by decide, gw5 111 rfl rfl, uw_11⟩
theorem fp_RX12_218 : FP RX12 218 11 12 .int := ⟨RX12, TX12, 66, tyX12, ⟨rfl, by decide, by decide, gw5 111 rfl rfl, uw_11⟩, tyX12_ok, nmX12, rfl, by decide +kernel, fun _ _ _ _ _ => ⟨rfl, by show 12 < 66; decide⟩⟩
theorem fl_RX12_221 : FL RX12 221 11 18 := ⟨RX12, TX12, 66, rfl, by decide, by decide, gw5 117 rfl rfl, uw_11⟩
theorem fp_RX12_221 : FP RX12 221 11 18 .int := ⟨RX12, TX12, 66, tyX12, ⟨rfl, by decide, by decide, gw5 117 rfl rfl, uw_11⟩, tyX12_ok, nmX12, rfl, by decide +kernel, fun _ _ _ _ _ => ⟨rfl, by show 18 < 66; decide⟩⟩
theorem fl_RX12_224 : FL RX12 224 11 19 := ⟨RX12, TX12, 66, rfl, by decide, by decide, gw5 118 rfl rfl, uw_11⟩
theorem fp_RX12_224 : FP RX12 224 11 19 .int := ⟨RX12, TX12, 66, tyX12, ⟨rfl, by decide, by decide, gw5 118 rfl rfl, uw_11⟩, tyX12_ok, nmX12, rfl, by decide +kernel, fun _ _ _ _ _ => ⟨rfl, by show 19 < 66; decide⟩⟩
theorem fl_RX12_227 : FL RX12 227 11 20 := ⟨RX12, TX12, 66, rfl, by decide, by decide, gw5 119 rfl rfl, uw_11⟩
theorem fp_RX12_227 : FP RX12 227 11 20 .int := ⟨RX12, TX12, 66, tyX12, ⟨rfl, by decide, by decide, gw5 119 rfl rfl, uw_11⟩, tyX12_ok, nmX12, rfl, by decide +kernel, fun _ _ _ _ _ => ⟨rfl, by show 20 < 66; decide⟩⟩
theorem fl_RX12_230 : FL RX12 230 11 33 := ⟨RX12, TX12, 66, rfl, by decide, by decide, gw5 132 rfl rfl, uw_11⟩
theorem fp_RX12_230 : FP RX12 230 11 33 .int := ⟨RX12, TX12, 66, tyX12, ⟨rfl, by decide, by decide, gw5 132 rfl rfl, uw_11⟩, tyX12_ok, nmX12, rfl, by decide +kernel, fun _ _ _ _ _ => ⟨rfl, by show 33 < 66; decide⟩⟩
theorem fl_RX12_233 : FL RX12 233 11 39 := ⟨RX12, TX12, 66, rfl, by decide, by decide, gw5 138 rfl rfl, uw_11⟩
theorem fp_RX12_233 : FP RX12 233 11 39 .int := ⟨RX12, TX12, 66, tyX12, ⟨rfl, by decide, by decide, gw5 138 rfl rfl, uw_11⟩, tyX12_ok, nmX12, rfl, by decide +kernel, fun _ _ _ _ _ => ⟨rfl, by show 39 < 66; decide⟩⟩
theorem fl_RX12_239 : FL RX12 239 11 54 := ⟨RX12, TX12, 66, rfl, by decide, by decide, gw5 153 rfl rfl, uw_11⟩
theorem fp_RX12_239 : FP RX12 239 11 54 .int := ⟨RX12, TX12, 66, tyX12, ⟨rfl, by decide, by decide, gw5 153 rfl rfl, uw_11⟩, tyX12_ok, nmX12, rfl, by decide +kernel, fun _ _ _ _ _ => ⟨rfl, by show 54 < 66; decide⟩⟩
theorem fl_RX12_242 : FL RX12 242 11 60 := ⟨RX12, TX12, 66, rfl, by decide, by decide, gw5 159 rfl rfl, uw_11⟩
theorem fp_RX12_242 : FP RX12 242 11 60 .int := ⟨RX12, TX12, 66, tyX12, ⟨rfl, by decide, by decide, gw5 159 rfl rfl, uw_11⟩, tyX12_ok, nmX12, rfl, by decide +kernel, fun _ _ _ _ _ => ⟨rfl, by show 60 < 66; decide⟩⟩
theorem fl_RX12_284 : FL RX12 284 11 43 := ⟨RX12, TX12, 66, rfl, by decide, by decide, gw5 142 rfl rfl, uw_11⟩
theorem fp_RX12_284 : FP RX12 284 11 43 .int := ⟨RX12, TX12, 66, tyX12, ⟨rfl, by decide, by decide, gw5 142 rfl rfl, uw_11⟩, tyX12_ok, nmX12, rfl, by decide +kernel, fun _ _ _ _ _ => ⟨rfl, by show 43 < 66; decide⟩⟩
theorem fl_RX12_297 : FL RX12 297 11 46 := ⟨RX12, TX12, 66, rfl, by decide, by decide, gw5 145 rfl rfl, uw_11⟩
theorem fp_RX12_297 : FP RX12 297 11 46 .boolean := ⟨RX12, TX12, 66, tyX12, ⟨rfl, by decide, by decide, gw5 145 rfl rfl, uw_11⟩, tyX12_ok, nmX12, rfl, by decide +kernel, fun _ _ _ _ _ => ⟨rfl, by show 46 < 66; decide⟩⟩
theorem fl_RX12_305 : FL RX12 305 11 49 := ⟨RX12, TX12, 66, rfl, by decide, by decide, gw5 148 rfl rfl, uw_11⟩
theorem fp_RX12_305 : FP RX12 305 11 49 .int := ⟨RX12, TX12, 66, tyX12, ⟨rfl, by decide, by decide, gw5 148 rfl rfl, uw_11⟩, tyX12_ok, nmX12, rfl, by decide +kernel, fun _ _ _ _ _ => ⟨rfl, by show 49 < 66; decide⟩⟩
theorem fl_RX12_308 : FL RX12 308 11 50 := ⟨RX12, TX12, 66, rfl, by decide, by decide, gw5 149 rfl rfl, uw_11⟩
theorem fp_RX12_308 : FP RX12 308 11 50 .boolean := ⟨RX12, TX12, 66, tyX12, ⟨rfl, by decide, by decide, gw5 149 rfl rfl, uw_11⟩, tyX12_ok, nmX12, rfl, by decide +kernel, fun _ _ _ _ _ => ⟨rfl, by show 50 < 66; decide⟩⟩
theorem fl_RX12_341 : FL RX12 341 11 51 := ⟨RX12, TX12, 66, rfl, by decide, by decide, gw5 150 rfl rfl, uw_11⟩
theorem fp_RX12_341 : FP RX12 341 11 51 .int := ⟨RX12, TX12, 66, tyX12, ⟨rfl, by decide, by decide, gw5 150 rfl rfl, uw_11⟩, tyX12_ok, nmX12, rfl, by decide +kernel, fun _ _ _ _ _ => ⟨rfl, by show 51 < 66; decide⟩⟩
theorem fl_RX12_344 : FL RX12 344 11 52 := ⟨RX12, TX12, 66, rfl, by decide, by decide, gw5 151 rfl rfl, uw_11⟩
theorem fp_RX12_344 : FP RX12 344 11 52 .boolean := ⟨RX12, TX12, 66, tyX12, ⟨rfl, by decide, by decide, gw5 151 rfl rfl, uw_11⟩, tyX12_ok, nmX12, rfl, by decide +kernel, fun _ _ _ _ _ => ⟨rfl, by show 52 < 66; decide⟩⟩
theorem fl_RX12_365 : FL RX12 365 11 53 := ⟨RX12, TX12, 66, rfl, by decide, by decide, gw5 152 rfl rfl, uw_11⟩
theorem fp_RX12_365 : FP RX12 365 11 53 .int := ⟨RX12, TX12, 66, tyX12, ⟨rfl, by decide, by decide, gw5 152 rfl rfl, uw_11⟩, tyX12_ok, nmX12, rfl, by decide +kernel, fun _ _ _ _ _ => ⟨rfl, by show 53 < 66; decide⟩⟩
theorem fl_RX12_408 : FL RX12 408 11 57 := ⟨RX12, TX12, 66, rfl, by decide, by decide, gw5 156 rfl rfl, uw_11⟩
theorem fp_RX12_408 : FP RX12 408 11 57 .int := ⟨RX12, TX12, 66, tyX12, ⟨rfl, by decide, by decide, gw5 156 rfl rfl, uw_11⟩, tyX12_ok, nmX12, rfl, by decide +kernel, fun _ _ _ _ _ => ⟨rfl, by show 57 < 66; decide⟩⟩
theorem mh0 : (RX11 : String) ≠ "java/lang/invoke/MethodHandle" ∧ (RX11 : String) ≠ "java/lang/invoke/VarHandle" := by decide +kernel
theorem mi_X11_back : MI yX11_back cX11_back 2 (some .int) 1 := ⟨gw2 180 rfl rfl, gw2 181 rfl rfl, gw1 1 rfl rfl, gw2 182 rfl rfl, ⟨mh0.1, mh0.2, by decide +kernel⟩⟩
theorem mi_X11_beats : MI yX11_beats cX11_beats 2 (some .int) 1 := ⟨gw4 46 rfl rfl, gw4 47 rfl rfl, gw1 1 rfl rfl, gw4 48 rfl rfl, ⟨mh0.1, mh0.2, by decide +kernel⟩⟩
theorem mi_X11_beginAnew : MI yX11_beginAnew cX11_beginAnew 3 none 0 := ⟨gw3 147 rfl rfl, gwm 17 rfl rfl, gw1 1 rfl rfl, gw3 148 rfl rfl, ⟨mh0.1, mh0.2, by decide +kernel⟩⟩
theorem mi_X11_busiest : MI yX11_busiest cX11_busiest 5 (some .int) 2 := ⟨gw5 0 rfl rfl, gw5 1 rfl rfl, gw1 1 rfl rfl, gw5 2 rfl rfl, ⟨mh0.1, mh0.2, by decide +kernel⟩⟩
theorem mi_X11_clash : MI yX11_clash cX11_clash 1 (some .int) 0 := ⟨gw4 193 rfl rfl, gw4 194 rfl rfl, gw1 1 rfl rfl, gw4 195 rfl rfl, ⟨mh0.1, mh0.2, by decide +kernel⟩⟩
theorem mi_X11_closes : MI yX11_closes cX11_closes 3 (some .int) 2 := ⟨gw4 104 rfl rfl, gw4 105 rfl rfl, gw1 1 rfl rfl, gw4 106 rfl rfl, ⟨mh0.1, mh0.2, by decide +kernel⟩⟩
theorem ms_X11_closingOf : MS yX11_closingOf cX11_closingOf 4 (some .int) 3 := ⟨gw4 108 rfl rfl, gw1 1 rfl rfl, gw4 109 rfl rfl, ⟨mh0.1, mh0.2, by decide +kernel⟩⟩
theorem mi_X11_count : MI yX11_count cX11_count 2 (some .int) 1 := ⟨gw3 236 rfl rfl, gw3 237 rfl rfl, gw1 1 rfl rfl, gw3 238 rfl rfl, ⟨mh0.1, mh0.2, by decide +kernel⟩⟩
theorem mi_X11_down : MI yX11_down cX11_down 2 (some .int) 0 := ⟨gw5 34 rfl rfl, gw5 35 rfl rfl, gw1 1 rfl rfl, gw5 36 rfl rfl, ⟨mh0.1, mh0.2, by decide +kernel⟩⟩
theorem mi_X11_feed : MI yX11_feed cX11_feed 6 (some .int) 5 := ⟨gw2 172 rfl rfl, gw2 173 rfl rfl, gw1 1 rfl rfl, gw2 174 rfl rfl, ⟨mh0.1, mh0.2, by decide +kernel⟩⟩
theorem mi_X11_findHands : MI yX11_findHands cX11_findHands 3 none 1 := ⟨gw4 185 rfl rfl, gwm 27 rfl rfl, gw1 1 rfl rfl, gw4 186 rfl rfl, ⟨mh0.1, mh0.2, by decide +kernel⟩⟩
theorem mi_X11_firstClash : MI yX11_firstClash cX11_firstClash 3 (some .int) 1 := ⟨gw4 198 rfl rfl, gwm 28 rfl rfl, gw1 1 rfl rfl, gw4 199 rfl rfl, ⟨mh0.1, mh0.2, by decide +kernel⟩⟩
theorem mi_X11_forget : MI yX11_forget cX11_forget 2 (some .int) 0 := ⟨gw5 58 rfl rfl, gw5 59 rfl rfl, gw1 1 rfl rfl, gw5 60 rfl rfl, ⟨mh0.1, mh0.2, by decide +kernel⟩⟩
theorem mi_X11_gap : MI yX11_gap cX11_gap 2 (some .int) 0 := ⟨gw4 205 rfl rfl, gw4 206 rfl rfl, gw1 1 rfl rfl, gw4 207 rfl rfl, ⟨mh0.1, mh0.2, by decide +kernel⟩⟩
theorem mi_X11_glitters : MI yX11_glitters cX11_glitters 4 (some .int) 2 := ⟨gw5 62 rfl rfl, gw5 63 rfl rfl, gw1 1 rfl rfl, gw5 64 rfl rfl, ⟨mh0.1, mh0.2, by decide +kernel⟩⟩
theorem mi_X11_handover : MI yX11_handover cX11_handover 4 (some .int) 0 := ⟨gw5 26 rfl rfl, gw5 27 rfl rfl, gw1 1 rfl rfl, gw5 28 rfl rfl, ⟨mh0.1, mh0.2, by decide +kernel⟩⟩
theorem mi_X11_hold : MI yX11_hold cX11_hold 2 (some .boolean) 1 := ⟨gw4 95 rfl rfl, gw4 96 rfl rfl, gw1 1 rfl rfl, gw4 97 rfl rfl, ⟨mh0.1, mh0.2, by decide +kernel⟩⟩
theorem mi_X11_inHand : MI yX11_inHand cX11_inHand 2 (some .int) 1 := ⟨gw4 180 rfl rfl, gw4 181 rfl rfl, gw1 1 rfl rfl, gw4 182 rfl rfl, ⟨mh0.1, mh0.2, by decide +kernel⟩⟩
theorem mi_X11_into : MI yX11_into cX11_into 6 (some .int) 2 := ⟨gw4 213 rfl rfl, gw4 214 rfl rfl, gw1 1 rfl rfl, gw4 215 rfl rfl, ⟨mh0.1, mh0.2, by decide +kernel⟩⟩
theorem ms_X11_isHeight : MS yX11_isHeight cX11_isHeight 1 (some .boolean) 1 := ⟨gw3 193 rfl rfl, gw1 1 rfl rfl, gw3 194 rfl rfl, ⟨mh0.1, mh0.2, by decide +kernel⟩⟩
theorem ms_X11_isSpan : MS yX11_isSpan cX11_isSpan 1 (some .boolean) 1 := ⟨gw5 4 rfl rfl, gw1 1 rfl rfl, gw5 5 rfl rfl, ⟨mh0.1, mh0.2, by decide +kernel⟩⟩
theorem mi_X11_joined : MI yX11_joined cX11_joined 5 (some .int) 3 := ⟨gw4 117 rfl rfl, gw4 118 rfl rfl, gw1 1 rfl rfl, gw4 119 rfl rfl, ⟨mh0.1, mh0.2, by decide +kernel⟩⟩
theorem mi_X11_lands : MI yX11_lands cX11_lands 1 (some .int) 0 := ⟨gw4 171 rfl rfl, gw4 172 rfl rfl, gw1 1 rfl rfl, gw4 173 rfl rfl, ⟨mh0.1, mh0.2, by decide +kernel⟩⟩
theorem mi_X11_light : MI yX11_light cX11_light 6 (some .int) 2 := ⟨gw5 38 rfl rfl, gw5 39 rfl rfl, gw1 1 rfl rfl, gw5 40 rfl rfl, ⟨mh0.1, mh0.2, by decide +kernel⟩⟩
theorem mi_X11_limit : MI yX11_limit cX11_limit 3 (some .int) 1 := ⟨gw5 30 rfl rfl, gw5 31 rfl rfl, gw1 1 rfl rfl, gw5 32 rfl rfl, ⟨mh0.1, mh0.2, by decide +kernel⟩⟩
theorem mi_X11_load : MI yX11_load cX11_load 4 (some .int) 1 := ⟨gw5 8 rfl rfl, gw5 9 rfl rfl, gw1 1 rfl rfl, gw5 10 rfl rfl, ⟨mh0.1, mh0.2, by decide +kernel⟩⟩
theorem mi_X11_orbits : MI yX11_orbits cX11_orbits 4 (some .int) 1 := ⟨gw4 137 rfl rfl, gw4 138 rfl rfl, gw1 1 rfl rfl, gw4 139 rfl rfl, ⟨mh0.1, mh0.2, by decide +kernel⟩⟩
theorem mi_X11_order : MI yX11_order cX11_order 5 (some .int) 1 := ⟨gw5 22 rfl rfl, gw5 23 rfl rfl, gw1 1 rfl rfl, gw5 24 rfl rfl, ⟨mh0.1, mh0.2, by decide +kernel⟩⟩
theorem mi_X11_pattern : MI yX11_pattern cX11_pattern 3 (some .int) 2 := ⟨gw3 181 rfl rfl, gw3 182 rfl rfl, gw1 1 rfl rfl, gw3 183 rfl rfl, ⟨mh0.1, mh0.2, by decide +kernel⟩⟩
theorem mi_X11_place : MI yX11_place cX11_place 1 (some .int) 0 := ⟨gw3 165 rfl rfl, gw3 166 rfl rfl, gw1 1 rfl rfl, gw3 167 rfl rfl, ⟨mh0.1, mh0.2, by decide +kernel⟩⟩
theorem mi_X11_read : MI yX11_read cX11_read 2 (some .int) 0 := ⟨gw2 184 rfl rfl, gw2 185 rfl rfl, gw1 1 rfl rfl, gw2 186 rfl rfl, ⟨mh0.1, mh0.2, by decide +kernel⟩⟩
theorem mi_X11_restore : MI yX11_restore cX11_restore 2 (some .boolean) 1 := ⟨gw4 100 rfl rfl, gw4 101 rfl rfl, gw1 1 rfl rfl, gw4 102 rfl rfl, ⟨mh0.1, mh0.2, by decide +kernel⟩⟩
theorem mi_X11_room : MI yX11_room cX11_room 3 (some .int) 1 := ⟨gw4 209 rfl rfl, gw4 210 rfl rfl, gw1 1 rfl rfl, gw4 211 rfl rfl, ⟨mh0.1, mh0.2, by decide +kernel⟩⟩
theorem mi_X11_rule : MI yX11_rule cX11_rule 4 (some .int) 1 := ⟨gw5 12 rfl rfl, gw5 13 rfl rfl, gw1 1 rfl rfl, gw5 14 rfl rfl, ⟨mh0.1, mh0.2, by decide +kernel⟩⟩
theorem mi_X11_set : MI yX11_set cX11_set 2 (some .boolean) 1 := ⟨gw4 42 rfl rfl, gw4 43 rfl rfl, gw1 1 rfl rfl, gw4 44 rfl rfl, ⟨mh0.1, mh0.2, by decide +kernel⟩⟩
theorem mi_X11_slotsHeld : MI yX11_slotsHeld cX11_slotsHeld 3 (some .int) 0 := ⟨gw4 10 rfl rfl, gwm 21 rfl rfl, gw1 1 rfl rfl, gw4 11 rfl rfl, ⟨mh0.1, mh0.2, by decide +kernel⟩⟩
theorem mi_X11_span : MI yX11_span cX11_span 2 (some .int) 1 := ⟨gw4 129 rfl rfl, gw4 130 rfl rfl, gw1 1 rfl rfl, gw4 131 rfl rfl, ⟨mh0.1, mh0.2, by decide +kernel⟩⟩
theorem mi_X11_swaps : MI yX11_swaps cX11_swaps 2 (some .int) 1 := ⟨gw4 144 rfl rfl, gw4 145 rfl rfl, gw1 1 rfl rfl, gw4 146 rfl rfl, ⟨mh0.1, mh0.2, by decide +kernel⟩⟩
theorem mi_X11_tell : MI yX11_tell cX11_tell 3 (some .int) 2 := ⟨gw5 50 rfl rfl, gw5 51 rfl rfl, gw1 1 rfl rfl, gw5 52 rfl rfl, ⟨mh0.1, mh0.2, by decide +kernel⟩⟩
theorem mi_X11_tells : MI yX11_tells cX11_tells 5 (some .int) 3 := ⟨gw3 189 rfl rfl, gw3 190 rfl rfl, gw1 1 rfl rfl, gw3 191 rfl rfl, ⟨mh0.1, mh0.2, by decide +kernel⟩⟩
theorem mi_X11_then : MI yX11_then cX11_then 3 (some .int) 2 := ⟨gw5 42 rfl rfl, gw5 43 rfl rfl, gw1 1 rfl rfl, gw5 44 rfl rfl, ⟨mh0.1, mh0.2, by decide +kernel⟩⟩
theorem mi_X11_thing : MI yX11_thing cX11_thing 3 (some .int) 2 := ⟨gw3 169 rfl rfl, gw3 170 rfl rfl, gw1 1 rfl rfl, gw3 171 rfl rfl, ⟨mh0.1, mh0.2, by decide +kernel⟩⟩
theorem mi_X11_throwIn : MI yX11_throwIn cX11_throwIn 3 (some .boolean) 2 := ⟨gw4 17 rfl rfl, gw4 18 rfl rfl, gw1 1 rfl rfl, gw4 19 rfl rfl, ⟨mh0.1, mh0.2, by decide +kernel⟩⟩
theorem mi_X11_turned : MI yX11_turned cX11_turned 4 (some .int) 2 := ⟨gw4 122 rfl rfl, gw4 123 rfl rfl, gw1 1 rfl rfl, gw4 124 rfl rfl, ⟨mh0.1, mh0.2, by decide +kernel⟩⟩
theorem mi_X11_undo : MI yX11_undo cX11_undo 1 (some .boolean) 0 := ⟨gw4 87 rfl rfl, gw4 88 rfl rfl, gw1 1 rfl rfl, gw4 89 rfl rfl, ⟨mh0.1, mh0.2, by decide +kernel⟩⟩
theorem mi_X11_use : MI yX11_use cX11_use 2 (some .boolean) 1 := ⟨gw4 34 rfl rfl, gw4 35 rfl rfl, gw1 1 rfl rfl, gw4 36 rfl rfl, ⟨mh0.1, mh0.2, by decide +kernel⟩⟩
theorem mi_X11_watch : MI yX11_watch cX11_watch 8 (some .int) 1 := ⟨gw5 71 rfl rfl, gw5 72 rfl rfl, gw1 1 rfl rfl, gw5 73 rfl rfl, ⟨mh0.1, mh0.2, by decide +kernel⟩⟩
theorem mi_X11_ways : MI yX11_ways cX11_ways 5 (some .int) 4 := ⟨gw4 152 rfl rfl, gw4 153 rfl rfl, gw1 1 rfl rfl, gw4 154 rfl rfl, ⟨mh0.1, mh0.2, by decide +kernel⟩⟩
theorem mi_X11_weightsOf : MI yX11_weightsOf cX11_weightsOf 4 (some .int) 1 := ⟨gw4 14 rfl rfl, gwm 22 rfl rfl, gw1 1 rfl rfl, gw4 15 rfl rfl, ⟨mh0.1, mh0.2, by decide +kernel⟩⟩
theorem mi_X11_year : MI yX11_year cX11_year 5 (some .int) 2 := ⟨gw5 46 rfl rfl, gw5 47 rfl rfl, gw1 1 rfl rfl, gw5 48 rfl rfl, ⟨mh0.1, mh0.2, by decide +kernel⟩⟩
theorem mh1 : (RX0 : String) ≠ "java/lang/invoke/MethodHandle" ∧ (RX0 : String) ≠ "java/lang/invoke/VarHandle" := by decide +kernel
theorem mi_X0_begin : MI yX0_begin cX0_begin 2 none 1 := ⟨gw3 150 rfl rfl, gw3 151 rfl rfl, gw1 7 rfl rfl, gw3 152 rfl rfl, ⟨mh1.1, mh1.2, by decide +kernel⟩⟩
theorem mi_X0_bitsOf : MI yX0_bitsOf cX0_bitsOf 4 (some .int) 1 := ⟨gw3 200 rfl rfl, gw3 201 rfl rfl, gw1 7 rfl rfl, gw3 202 rfl rfl, ⟨mh1.1, mh1.2, by decide +kernel⟩⟩
theorem mi_X0_copy : MI yX0_copy cX0_copy 2 none 1 := ⟨gw4 25 rfl rfl, gw4 26 rfl rfl, gw1 7 rfl rfl, gw4 27 rfl rfl, ⟨mh1.1, mh1.2, by decide +kernel⟩⟩
theorem mi_X0_drop : MI yX0_drop cX0_drop 2 none 1 := ⟨gw4 67 rfl rfl, gw4 68 rfl rfl, gw1 7 rfl rfl, gw4 69 rfl rfl, ⟨mh1.1, mh1.2, by decide +kernel⟩⟩
theorem mi_X0_firstLanding : MI yX0_firstLanding cX0_firstLanding 2 (some .int) 0 := ⟨gw4 58 rfl rfl, gw4 59 rfl rfl, gw1 7 rfl rfl, gw4 60 rfl rfl, ⟨mh1.1, mh1.2, by decide +kernel⟩⟩
theorem mi_X0_heightBy : MI yX0_heightBy cX0_heightBy 2 (some .int) 1 := ⟨gw4 1 rfl rfl, gw4 2 rfl rfl, gw1 7 rfl rfl, gw4 3 rfl rfl, ⟨mh1.1, mh1.2, by decide +kernel⟩⟩
theorem mi_X0_howManyLand : MI yX0_howManyLand cX0_howManyLand 3 (some .int) 0 := ⟨gw4 201 rfl rfl, gw4 202 rfl rfl, gw1 7 rfl rfl, gw4 203 rfl rfl, ⟨mh1.1, mh1.2, by decide +kernel⟩⟩
theorem mi_X0_howManyUp : MI yX0_howManyUp cX0_howManyUp 1 (some .int) 0 := ⟨gw3 196 rfl rfl, gw3 197 rfl rfl, gw1 7 rfl rfl, gw3 198 rfl rfl, ⟨mh1.1, mh1.2, by decide +kernel⟩⟩
theorem mi_X0_isUp : MI yX0_isUp cX0_isUp 2 (some .boolean) 1 := ⟨gw3 177 rfl rfl, gw3 178 rfl rfl, gw1 7 rfl rfl, gw3 179 rfl rfl, ⟨mh1.1, mh1.2, by decide +kernel⟩⟩
theorem mi_X0_landingBits : MI yX0_landingBits cX0_landingBits 3 (some .int) 0 := ⟨gw4 175 rfl rfl, gw4 176 rfl rfl, gw1 7 rfl rfl, gw4 177 rfl rfl, ⟨mh1.1, mh1.2, by decide +kernel⟩⟩
theorem mi_X0_landsNow : MI yX0_landsNow cX0_landsNow 2 (some .boolean) 1 := ⟨gw4 62 rfl rfl, gw4 63 rfl rfl, gw1 7 rfl rfl, gw4 64 rfl rfl, ⟨mh1.1, mh1.2, by decide +kernel⟩⟩
theorem mi_X0_putUp : MI yX0_putUp cX0_putUp 3 none 2 := ⟨gw4 30 rfl rfl, gw4 31 rfl rfl, gw1 7 rfl rfl, gw4 32 rfl rfl, ⟨mh1.1, mh1.2, by decide +kernel⟩⟩
theorem mi_X0_takeUp : MI yX0_takeUp cX0_takeUp 2 none 1 := ⟨gw4 38 rfl rfl, gw4 39 rfl rfl, gw1 7 rfl rfl, gw4 40 rfl rfl, ⟨mh1.1, mh1.2, by decide +kernel⟩⟩
theorem mi_X0_twoLandAlike : MI yX0_twoLandAlike cX0_twoLandAlike 1 (some .boolean) 0 := ⟨gw4 217 rfl rfl, gw4 218 rfl rfl, gw1 7 rfl rfl, gw4 219 rfl rfl, ⟨mh1.1, mh1.2, by decide +kernel⟩⟩
theorem mh2 : (RX1 : String) ≠ "java/lang/invoke/MethodHandle" ∧ (RX1 : String) ≠ "java/lang/invoke/VarHandle" := by decide +kernel
theorem mi_X1_answer : MI yX1_answer cX1_answer 8 (some .int) 2 := ⟨gw3 218 rfl rfl, gw3 219 rfl rfl, gw1 5 rfl rfl, gw3 220 rfl rfl, ⟨mh2.1, mh2.2, by decide +kernel⟩⟩
theorem mi_X1_pop : MI yX1_pop cX1_pop 1 (some .int) 0 := ⟨gw3 227 rfl rfl, gwm 19 rfl rfl, gw1 5 rfl rfl, gw3 228 rfl rfl, ⟨mh2.1, mh2.2, by decide +kernel⟩⟩
theorem mi_X1_push : MI yX1_push cX1_push 2 none 1 := ⟨gw3 223 rfl rfl, gwm 18 rfl rfl, gw1 5 rfl rfl, gw3 224 rfl rfl, ⟨mh2.1, mh2.2, by decide +kernel⟩⟩
theorem mi_X1_reckon : MI yX1_reckon cX1_reckon 4 (some .int) 3 := ⟨gw3 231 rfl rfl, gwm 20 rfl rfl, gw1 5 rfl rfl, gw3 232 rfl rfl, ⟨mh2.1, mh2.2, by decide +kernel⟩⟩
theorem mh3 : (RX2 : String) ≠ "java/lang/invoke/MethodHandle" ∧ (RX2 : String) ≠ "java/lang/invoke/VarHandle" := by decide +kernel
theorem mi_X2_add : MI yX2_add cX2_add 3 (some .int) 2 := ⟨gw5 54 rfl rfl, gw5 55 rfl rfl, gw1 8 rfl rfl, gw5 56 rfl rfl, ⟨mh3.1, mh3.2, by decide +kernel⟩⟩
theorem mi_X2_agreeing : MI yX2_agreeing cX2_agreeing 8 (some .int) 3 := ⟨gw5 66 rfl rfl, gw5 67 rfl rfl, gw1 8 rfl rfl, gw5 68 rfl rfl, ⟨mh3.1, mh3.2, by decide +kernel⟩⟩
theorem mh4 : (RX3 : String) ≠ "java/lang/invoke/MethodHandle" ∧ (RX3 : String) ≠ "java/lang/invoke/VarHandle" := by decide +kernel
theorem ms_X3_close : MS yX3_close cX3_close 5 (some .boolean) 2 := ⟨gw4 111 rfl rfl, gw1 22 rfl rfl, gw4 112 rfl rfl, ⟨mh4.1, mh4.2, by decide +kernel⟩⟩
theorem ms_X3_highest : MS yX3_highest cX3_highest 4 (some .int) 2 := ⟨gw4 133 rfl rfl, gw1 22 rfl rfl, gw4 134 rfl rfl, ⟨mh4.1, mh4.2, by decide +kernel⟩⟩
theorem ms_X3_kept : MS yX3_kept cX3_kept 4 (some .int) 2 := ⟨gw4 114 rfl rfl, gw1 22 rfl rfl, gw4 115 rfl rfl, ⟨mh4.1, mh4.2, by decide +kernel⟩⟩
theorem ms_X3_landingBits : MS yX3_landingBits cX3_landingBits 5 (some .int) 2 := ⟨gw4 223 rfl rfl, gw1 22 rfl rfl, gw4 224 rfl rfl, ⟨mh4.1, mh4.2, by decide +kernel⟩⟩
theorem ms_X3_pairsToSwap : MS yX3_pairsToSwap cX3_pairsToSwap 5 (some .int) 2 := ⟨gw4 148 rfl rfl, gw1 22 rfl rfl, gw4 149 rfl rfl, ⟨mh4.1, mh4.2, by decide +kernel⟩⟩
theorem ms_X3_rounds : MS yX3_rounds cX3_rounds 7 (some .int) 2 := ⟨gw4 141 rfl rfl, gw1 22 rfl rfl, gw4 142 rfl rfl, ⟨mh4.1, mh4.2, by decide +kernel⟩⟩
theorem ms_X3_turns : MS yX3_turns cX3_turns 6 (some .int) 3 := ⟨gw4 126 rfl rfl, gw1 22 rfl rfl, gw4 127 rfl rfl, ⟨mh4.1, mh4.2, by decide +kernel⟩⟩
theorem mh5 : (RX4 : String) ≠ "java/lang/invoke/MethodHandle" ∧ (RX4 : String) ≠ "java/lang/invoke/VarHandle" := by decide +kernel
theorem mi_X4_asks : MI yX4_asks cX4_asks 5 (some .int) 3 := ⟨gw3 214 rfl rfl, gw3 215 rfl rfl, gw1 4 rfl rfl, gw3 216 rfl rfl, ⟨mh5.1, mh5.2, by decide +kernel⟩⟩
theorem mi_X4_catchOne : MI yX4_catchOne cX4_catchOne 6 none 4 := ⟨gw4 74 rfl rfl, gwm 24 rfl rfl, gw1 4 rfl rfl, gw4 75 rfl rfl, ⟨mh5.1, mh5.2, by decide +kernel⟩⟩
theorem mi_X4_goOn : MI yX4_goOn cX4_goOn 6 none 4 := ⟨gw4 50 rfl rfl, gw4 51 rfl rfl, gw1 4 rfl rfl, gw4 52 rfl rfl, ⟨mh5.1, mh5.2, by decide +kernel⟩⟩
theorem mi_X4_goOnSafely : MI yX4_goOnSafely cX4_goOnSafely 3 none 2 := ⟨gw4 189 rfl rfl, gw4 190 rfl rfl, gw1 4 rfl rfl, gw4 191 rfl rfl, ⟨mh5.1, mh5.2, by decide +kernel⟩⟩
theorem mi_X4_inForce : MI yX4_inForce cX4_inForce 4 (some .int) 2 := ⟨gw5 17 rfl rfl, gw5 18 rfl rfl, gw1 4 rfl rfl, gw5 19 rfl rfl, ⟨mh5.1, mh5.2, by decide +kernel⟩⟩
theorem mi_X4_lookAt : MI yX4_lookAt cX4_lookAt 5 none 4 := ⟨gw3 210 rfl rfl, gw3 211 rfl rfl, gw1 4 rfl rfl, gw3 212 rfl rfl, ⟨mh5.1, mh5.2, by decide +kernel⟩⟩
theorem ms_X4_lot : MS yX4_lot cX4_lot 4 (some .int) 3 := ⟨gw4 78 rfl rfl, gw1 4 rfl rfl, gw4 79 rfl rfl, ⟨mh5.1, mh5.2, by decide +kernel⟩⟩
theorem mi_X4_oneBeat : MI yX4_oneBeat cX4_oneBeat 6 none 3 := ⟨gw4 55 rfl rfl, gwm 23 rfl rfl, gw1 4 rfl rfl, gw4 56 rfl rfl, ⟨mh5.1, mh5.2, by decide +kernel⟩⟩
theorem ms_X4_stir : MS yX4_stir cX4_stir 3 (some .int) 2 := ⟨gw4 81 rfl rfl, gw1 4 rfl rfl, gw4 82 rfl rfl, ⟨mh5.1, mh5.2, by decide +kernel⟩⟩
theorem mh6 : (RX5 : String) ≠ "java/lang/invoke/MethodHandle" ∧ (RX5 : String) ≠ "java/lang/invoke/VarHandle" := by decide +kernel
theorem mi_X5_clear : MI yX5_clear cX5_clear 1 none 0 := ⟨gw3 160 rfl rfl, gw3 161 rfl rfl, gw1 6 rfl rfl, gw3 162 rfl rfl, ⟨mh6.1, mh6.2, by decide +kernel⟩⟩
theorem mi_X5_giveBack : MI yX5_giveBack cX5_giveBack 2 (some .boolean) 1 := ⟨gw4 91 rfl rfl, gw4 92 rfl rfl, gw1 6 rfl rfl, gw4 93 rfl rfl, ⟨mh6.1, mh6.2, by decide +kernel⟩⟩
theorem mi_X5_keep : MI yX5_keep cX5_keep 2 none 1 := ⟨gw4 21 rfl rfl, gw4 22 rfl rfl, gw1 6 rfl rfl, gw4 23 rfl rfl, ⟨mh6.1, mh6.2, by decide +kernel⟩⟩
theorem mh7 : (RX6 : String) ≠ "java/lang/invoke/MethodHandle" ∧ (RX6 : String) ≠ "java/lang/invoke/VarHandle" := by decide +kernel
theorem mi_X6_condition : MI yX6_condition cX6_condition 3 (some .boolean) 1 := ⟨gw3 130 rfl rfl, gwm 13 rfl rfl, gw1 2 rfl rfl, gw3 131 rfl rfl, ⟨mh7.1, mh7.2, by decide +kernel⟩⟩
theorem mi_X6_expression : MI yX6_expression cX6_expression 6 (some .boolean) 2 := ⟨gw3 134 rfl rfl, gwm 14 rfl rfl, gw1 2 rfl rfl, gw3 135 rfl rfl, ⟨mh7.1, mh7.2, by decide +kernel⟩⟩
theorem mi_X6_noteLater : MI yX6_noteLater cX6_noteLater 2 none 1 := ⟨gw3 114 rfl rfl, gwm 9 rfl rfl, gw1 2 rfl rfl, gw3 115 rfl rfl, ⟨mh7.1, mh7.2, by decide +kernel⟩⟩
theorem mi_X6_product : MI yX6_product cX6_product 6 (some .boolean) 2 := ⟨gw3 138 rfl rfl, gwm 15 rfl rfl, gw1 2 rfl rfl, gw3 139 rfl rfl, ⟨mh7.1, mh7.2, by decide +kernel⟩⟩
theorem mi_X6_readInto : MI yX6_readInto cX6_readInto 4 (some .int) 1 := ⟨gw2 188 rfl rfl, gw2 189 rfl rfl, gw1 2 rfl rfl, gw2 190 rfl rfl, ⟨mh7.1, mh7.2, by decide +kernel⟩⟩
theorem mi_X6_refuse : MI yX6_refuse cX6_refuse 2 (some .boolean) 1 := ⟨gw3 102 rfl rfl, gwm 6 rfl rfl, gw1 2 rfl rfl, gw3 103 rfl rfl, ⟨mh7.1, mh7.2, by decide +kernel⟩⟩
theorem mi_X6_take : MI yX6_take cX6_take 2 (some .boolean) 1 := ⟨gw3 106 rfl rfl, gwm 7 rfl rfl, gw1 2 rfl rfl, gw3 107 rfl rfl, ⟨mh7.1, mh7.2, by decide +kernel⟩⟩
theorem mi_X6_takeName : MI yX6_takeName cX6_takeName 4 (some .boolean) 0 := ⟨gw3 110 rfl rfl, gwm 8 rfl rfl, gw1 2 rfl rfl, gw3 111 rfl rfl, ⟨mh7.1, mh7.2, by decide +kernel⟩⟩
theorem mi_X6_takeNumber : MI yX6_takeNumber cX6_takeNumber 5 (some .boolean) 2 := ⟨gw3 118 rfl rfl, gwm 10 rfl rfl, gw1 2 rfl rfl, gw3 119 rfl rfl, ⟨mh7.1, mh7.2, by decide +kernel⟩⟩
theorem mi_X6_telling : MI yX6_telling cX6_telling 3 (some .boolean) 1 := ⟨gw3 94 rfl rfl, gwm 4 rfl rfl, gw1 2 rfl rfl, gw3 95 rfl rfl, ⟨mh7.1, mh7.2, by decide +kernel⟩⟩
theorem mi_X6_tellingLaw : MI yX6_tellingLaw cX6_tellingLaw 4 (some .boolean) 2 := ⟨gw3 126 rfl rfl, gwm 12 rfl rfl, gw1 2 rfl rfl, gw3 127 rfl rfl, ⟨mh7.1, mh7.2, by decide +kernel⟩⟩
theorem mi_X6_tellingPattern : MI yX6_tellingPattern cX6_tellingPattern 4 (some .boolean) 1 := ⟨gw3 122 rfl rfl, gwm 11 rfl rfl, gw1 2 rfl rfl, gw3 123 rfl rfl, ⟨mh7.1, mh7.2, by decide +kernel⟩⟩
theorem mi_X6_tellingThing : MI yX6_tellingThing cX6_tellingThing 3 (some .boolean) 1 := ⟨gw3 98 rfl rfl, gwm 5 rfl rfl, gw1 2 rfl rfl, gw3 99 rfl rfl, ⟨mh7.1, mh7.2, by decide +kernel⟩⟩
theorem mi_X6_unit : MI yX6_unit cX6_unit 4 (some .boolean) 2 := ⟨gw3 142 rfl rfl, gwm 16 rfl rfl, gw1 2 rfl rfl, gw3 143 rfl rfl, ⟨mh7.1, mh7.2, by decide +kernel⟩⟩
theorem mh8 : (RX7 : String) ≠ "java/lang/invoke/MethodHandle" ∧ (RX7 : String) ≠ "java/lang/invoke/VarHandle" := by decide +kernel
theorem mi_X7_find : MI yX7_find cX7_find 6 (some .boolean) 2 := ⟨gw4 227 rfl rfl, gw4 228 rfl rfl, gw1 9 rfl rfl, gw4 229 rfl rfl, ⟨mh8.1, mh8.2, by decide +kernel⟩⟩
theorem mi_X7_goOnFrom : MI yX7_goOnFrom cX7_goOnFrom 5 none 1 := ⟨gw4 237 rfl rfl, gwm 30 rfl rfl, gw1 9 rfl rfl, gw4 238 rfl rfl, ⟨mh8.1, mh8.2, by decide +kernel⟩⟩
theorem mi_X7_meet : MI yX7_meet cX7_meet 4 none 3 := ⟨gw4 233 rfl rfl, gwm 29 rfl rfl, gw1 9 rfl rfl, gw4 234 rfl rfl, ⟨mh8.1, mh8.2, by decide +kernel⟩⟩
theorem mh9 : (RX8 : String) ≠ "java/lang/invoke/MethodHandle" ∧ (RX8 : String) ≠ "java/lang/invoke/VarHandle" := by decide +kernel
theorem mi_X8_fill : MI yX8_fill cX8_fill 6 none 3 := ⟨gw4 163 rfl rfl, gwm 25 rfl rfl, gw1 10 rfl rfl, gw4 164 rfl rfl, ⟨mh9.1, mh9.2, by decide +kernel⟩⟩
theorem mi_X8_find : MI yX8_find cX8_find 4 none 3 := ⟨gw4 156 rfl rfl, gw4 157 rfl rfl, gw1 10 rfl rfl, gw4 158 rfl rfl, ⟨mh9.1, mh9.2, by decide +kernel⟩⟩
theorem mi_X8_finish : MI yX8_finish cX8_finish 1 none 0 := ⟨gw4 167 rfl rfl, gwm 26 rfl rfl, gw1 10 rfl rfl, gw4 168 rfl rfl, ⟨mh9.1, mh9.2, by decide +kernel⟩⟩
theorem mh10 : (RX9 : String) ≠ "java/lang/invoke/MethodHandle" ∧ (RX9 : String) ≠ "java/lang/invoke/VarHandle" := by decide +kernel
theorem mi_X9_append : MI yX9_append cX9_append 3 none 1 := ⟨gw2 176 rfl rfl, gw2 177 rfl rfl, gw1 3 rfl rfl, gw2 178 rfl rfl, ⟨mh10.1, mh10.2, by decide +kernel⟩⟩
theorem mi_X9_cut : MI yX9_cut cX9_cut 3 none 0 := ⟨gw2 193 rfl rfl, gw2 194 rfl rfl, gw1 3 rfl rfl, gw2 195 rfl rfl, ⟨mh10.1, mh10.2, by decide +kernel⟩⟩
theorem mi_X9_cutInt : MI yX9_cutInt cX9_cutInt 5 (some .int) 1 := ⟨gw3 29 rfl rfl, gwm 3 rfl rfl, gw1 3 rfl rfl, gw3 30 rfl rfl, ⟨mh10.1, mh10.2, by decide +kernel⟩⟩
theorem mi_X9_cutOne : MI yX9_cutOne cX9_cutOne 3 (some .int) 1 := ⟨gw2 201 rfl rfl, gwm 0 rfl rfl, gw1 3 rfl rfl, gw2 202 rfl rfl, ⟨mh10.1, mh10.2, by decide +kernel⟩⟩
theorem mi_X9_cutWord : MI yX9_cutWord cX9_cutWord 6 (some .int) 1 := ⟨gw2 208 rfl rfl, gwm 1 rfl rfl, gw1 3 rfl rfl, gw2 209 rfl rfl, ⟨mh10.1, mh10.2, by decide +kernel⟩⟩
theorem ms_X9_isBlank : MS yX9_isBlank cX9_isBlank 1 (some .boolean) 1 := ⟨gw2 197 rfl rfl, gw1 3 rfl rfl, gw2 198 rfl rfl, ⟨mh10.1, mh10.2, by decide +kernel⟩⟩
theorem ms_X9_isDigit : MS yX9_isDigit cX9_isDigit 1 (some .boolean) 1 := ⟨gw3 25 rfl rfl, gw1 3 rfl rfl, gw3 26 rfl rfl, ⟨mh10.1, mh10.2, by decide +kernel⟩⟩
theorem ms_X9_isLetter : MS yX9_isLetter cX9_isLetter 1 (some .boolean) 1 := ⟨gw2 204 rfl rfl, gw1 3 rfl rfl, gw2 205 rfl rfl, ⟨mh10.1, mh10.2, by decide +kernel⟩⟩
theorem mi_X9_wordAt : MI yX9_wordAt cX9_wordAt 7 (some .int) 2 := ⟨gw2 213 rfl rfl, gwm 2 rfl rfl, gw1 3 rfl rfl, gw2 214 rfl rfl, ⟨mh10.1, mh10.2, by decide +kernel⟩⟩
theorem mh11 : (RX10 : String) ≠ "java/lang/invoke/MethodHandle" ∧ (RX10 : String) ≠ "java/lang/invoke/VarHandle" := by decide +kernel
theorem mi_X10_clear : MI yX10_clear cX10_clear 2 none 0 := ⟨gw2 52 rfl rfl, gw2 53 rfl rfl, gw1 11 rfl rfl, gw2 54 rfl rfl, ⟨mh11.1, mh11.2, by decide +kernel⟩⟩
theorem mi_X10_emit : MI yX10_emit cX10_emit 2 none 1 := ⟨gw2 56 rfl rfl, gw2 57 rfl rfl, gw1 11 rfl rfl, gw2 58 rfl rfl, ⟨mh11.1, mh11.2, by decide +kernel⟩⟩
theorem mi_X10_hasPattern : MI yX10_hasPattern cX10_hasPattern 2 (some .boolean) 1 := ⟨gw3 185 rfl rfl, gw3 186 rfl rfl, gw1 11 rfl rfl, gw3 187 rfl rfl, ⟨mh11.1, mh11.2, by decide +kernel⟩⟩
theorem mi_X10_hasThing : MI yX10_hasThing cX10_hasThing 2 (some .boolean) 1 := ⟨gw3 173 rfl rfl, gw3 174 rfl rfl, gw1 11 rfl rfl, gw3 175 rfl rfl, ⟨mh11.1, mh11.2, by decide +kernel⟩⟩
theorem mh12 : (RX12 : String) ≠ "java/lang/invoke/MethodHandle" ∧ (RX12 : String) ≠ "java/lang/invoke/VarHandle" := by decide +kernel
theorem mi_X12_aimOf : MI yX12_aimOf cX12_aimOf 6 (some .int) 1 := ⟨gw7 150 rfl rfl, gwm 88 rfl rfl, gw1 12 rfl rfl, gw7 151 rfl rfl, ⟨mh12.1, mh12.2, by decide +kernel⟩⟩
theorem ms_X12_appends : MS yX12_appends cX12_appends 3 (some .long) 2 := ⟨gw5 89 rfl rfl, gw1 12 rfl rfl, gw5 90 rfl rfl, ⟨mh12.1, mh12.2, by decide +kernel⟩⟩
theorem mi_X12_areTwoSoon : MI yX12_areTwoSoon cX12_areTwoSoon 2 (some .boolean) 0 := ⟨gw7 161 rfl rfl, gwm 90 rfl rfl, gw1 12 rfl rfl, gw7 162 rfl rfl, ⟨mh12.1, mh12.2, by decide +kernel⟩⟩
theorem mi_X12_back : MI yX12_back cX12_back 2 (some .int) 1 := ⟨gw6 67 rfl rfl, gw6 68 rfl rfl, gw1 12 rfl rfl, gw6 69 rfl rfl, ⟨mh12.1, mh12.2, by decide +kernel⟩⟩
theorem mi_X12_beatGoes : MI yX12_beatGoes cX12_beatGoes 2 none 0 := ⟨gw7 42 rfl rfl, gwm 74 rfl rfl, gw1 12 rfl rfl, gw7 43 rfl rfl, ⟨mh12.1, mh12.2, by decide +kernel⟩⟩
theorem mi_X12_beats : MI yX12_beats cX12_beats 2 (some .int) 1 := ⟨gw7 30 rfl rfl, gw7 31 rfl rfl, gw1 12 rfl rfl, gw7 32 rfl rfl, ⟨mh12.1, mh12.2, by decide +kernel⟩⟩
theorem mi_X12_begins : MI yX12_begins cX12_begins 2 none 0 := ⟨gw5 94 rfl rfl, gwm 32 rfl rfl, gw1 12 rfl rfl, gw5 95 rfl rfl, ⟨mh12.1, mh12.2, by decide +kernel⟩⟩
theorem ms_X12_bits : MS yX12_bits cX12_bits 3 (some .int) 1 := ⟨gw6 216 rfl rfl, gw1 12 rfl rfl, gw6 217 rfl rfl, ⟨mh12.1, mh12.2, by decide +kernel⟩⟩
theorem mi_X12_bounded : MI yX12_bounded cX12_bounded 4 (some .int) 2 := ⟨gw6 134 rfl rfl, gwm 48 rfl rfl, gw1 12 rfl rfl, gw6 135 rfl rfl, ⟨mh12.1, mh12.2, by decide +kernel⟩⟩
theorem mi_X12_busiest : MI yX12_busiest cX12_busiest 5 (some .int) 2 := ⟨gw7 184 rfl rfl, gw7 185 rfl rfl, gw1 12 rfl rfl, gw7 186 rfl rfl, ⟨mh12.1, mh12.2, by decide +kernel⟩⟩
theorem mi_X12_byteAt : MI yX12_byteAt cX12_byteAt 2 (some .int) 1 := ⟨gw6 80 rfl rfl, gwm 36 rfl rfl, gw1 12 rfl rfl, gw6 81 rfl rfl, ⟨mh12.1, mh12.2, by decide +kernel⟩⟩
theorem mi_X12_catches : MI yX12_catches cX12_catches 6 none 1 := ⟨gw7 58 rfl rfl, gwm 78 rfl rfl, gw1 12 rfl rfl, gw7 59 rfl rfl, ⟨mh12.1, mh12.2, by decide +kernel⟩⟩
theorem mi_X12_catchesNow : MI yX12_catchesNow cX12_catchesNow 2 (some .int) 0 := ⟨gw7 46 rfl rfl, gwm 75 rfl rfl, gw1 12 rfl rfl, gw7 47 rfl rfl, ⟨mh12.1, mh12.2, by decide +kernel⟩⟩
theorem mi_X12_clash : MI yX12_clash cX12_clash 2 (some .int) 0 := ⟨gw7 140 rfl rfl, gw7 141 rfl rfl, gw1 12 rfl rfl, gw7 142 rfl rfl, ⟨mh12.1, mh12.2, by decide +kernel⟩⟩
theorem mi_X12_closes : MI yX12_closes cX12_closes 3 (some .int) 2 := ⟨gw7 81 rfl rfl, gw7 82 rfl rfl, gw1 12 rfl rfl, gw7 83 rfl rfl, ⟨mh12.1, mh12.2, by decide +kernel⟩⟩
theorem mi_X12_comesOut : MI yX12_comesOut cX12_comesOut 3 none 1 := ⟨gw6 166 rfl rfl, gwm 56 rfl rfl, gw1 12 rfl rfl, gw6 167 rfl rfl, ⟨mh12.1, mh12.2, by decide +kernel⟩⟩
theorem mi_X12_copies : MI yX12_copies cX12_copies 2 none 0 := ⟨gw6 209 rfl rfl, gwm 62 rfl rfl, gw1 12 rfl rfl, gw6 210 rfl rfl, ⟨mh12.1, mh12.2, by decide +kernel⟩⟩
theorem mi_X12_copiesStill : MI yX12_copiesStill cX12_copiesStill 1 none 0 := ⟨gw7 137 rfl rfl, gwm 87 rfl rfl, gw1 12 rfl rfl, gw7 138 rfl rfl, ⟨mh12.1, mh12.2, by decide +kernel⟩⟩
theorem mi_X12_count : MI yX12_count cX12_count 2 (some .int) 1 := ⟨gw8 16 rfl rfl, gw8 17 rfl rfl, gw1 12 rfl rfl, gw8 18 rfl rfl, ⟨mh12.1, mh12.2, by decide +kernel⟩⟩
theorem mi_X12_cut : MI yX12_cut cX12_cut 8 none 0 := ⟨gw6 76 rfl rfl, gwm 35 rfl rfl, gw1 12 rfl rfl, gw6 77 rfl rfl, ⟨mh12.1, mh12.2, by decide +kernel⟩⟩
theorem mi_X12_doesLand : MI yX12_doesLand cX12_doesLand 3 (some .boolean) 2 := ⟨gw7 50 rfl rfl, gwm 76 rfl rfl, gw1 12 rfl rfl, gw7 51 rfl rfl, ⟨mh12.1, mh12.2, by decide +kernel⟩⟩
theorem mi_X12_down : MI yX12_down cX12_down 2 (some .int) 0 := ⟨gw7 216 rfl rfl, gw7 217 rfl rfl, gw1 12 rfl rfl, gw7 218 rfl rfl, ⟨mh12.1, mh12.2, by decide +kernel⟩⟩
theorem mi_X12_dropsBy : MI yX12_dropsBy cX12_dropsBy 4 (some .int) 3 := ⟨gw6 239 rfl rfl, gwm 68 rfl rfl, gw1 12 rfl rfl, gw7 0 rfl rfl, ⟨mh12.1, mh12.2, by decide +kernel⟩⟩
theorem mi_X12_dropsOthers : MI yX12_dropsOthers cX12_dropsOthers 2 none 0 := ⟨gw7 54 rfl rfl, gwm 77 rfl rfl, gw1 12 rfl rfl, gw7 55 rfl rfl, ⟨mh12.1, mh12.2, by decide +kernel⟩⟩
theorem mi_X12_emit : MI yX12_emit cX12_emit 3 none 2 := ⟨gw6 162 rfl rfl, gwm 55 rfl rfl, gw1 12 rfl rfl, gw6 163 rfl rfl, ⟨mh12.1, mh12.2, by decide +kernel⟩⟩
theorem mi_X12_ends : MI yX12_ends cX12_ends 2 none 1 := ⟨gw6 138 rfl rfl, gwm 49 rfl rfl, gw1 12 rfl rfl, gw6 139 rfl rfl, ⟨mh12.1, mh12.2, by decide +kernel⟩⟩
theorem mi_X12_expression : MI yX12_expression cX12_expression 3 none 0 := ⟨gw6 154 rfl rfl, gwm 53 rfl rfl, gw1 12 rfl rfl, gw6 155 rfl rfl, ⟨mh12.1, mh12.2, by decide +kernel⟩⟩
theorem mi_X12_fail : MI yX12_fail cX12_fail 2 none 1 := ⟨gw6 110 rfl rfl, gwm 42 rfl rfl, gw1 12 rfl rfl, gw6 111 rfl rfl, ⟨mh12.1, mh12.2, by decide +kernel⟩⟩
theorem mi_X12_feed : MI yX12_feed cX12_feed 6 (some .int) 5 := ⟨gw6 59 rfl rfl, gw6 60 rfl rfl, gw1 12 rfl rfl, gw6 61 rfl rfl, ⟨mh12.1, mh12.2, by decide +kernel⟩⟩
theorem mi_X12_fillsFar : MI yX12_fillsFar cX12_fillsFar 6 none 1 := ⟨gw7 154 rfl rfl, gwm 89 rfl rfl, gw1 12 rfl rfl, gw7 155 rfl rfl, ⟨mh12.1, mh12.2, by decide +kernel⟩⟩
theorem mi_X12_firstOf : MI yX12_firstOf cX12_firstOf 3 (some .int) 1 := ⟨gw7 165 rfl rfl, gwm 91 rfl rfl, gw1 12 rfl rfl, gw7 166 rfl rfl, ⟨mh12.1, mh12.2, by decide +kernel⟩⟩
theorem mi_X12_forceOf : MI yX12_forceOf cX12_forceOf 3 (some .int) 2 := ⟨gw7 3 rfl rfl, gwm 69 rfl rfl, gw1 12 rfl rfl, gw7 4 rfl rfl, ⟨mh12.1, mh12.2, by decide +kernel⟩⟩
theorem mi_X12_forget : MI yX12_forget cX12_forget 2 (some .int) 0 := ⟨gw7 232 rfl rfl, gw7 233 rfl rfl, gw1 12 rfl rfl, gw7 234 rfl rfl, ⟨mh12.1, mh12.2, by decide +kernel⟩⟩
theorem mi_X12_gap : MI yX12_gap cX12_gap 2 (some .int) 0 := ⟨gw7 195 rfl rfl, gw7 196 rfl rfl, gw1 12 rfl rfl, gw7 197 rfl rfl, ⟨mh12.1, mh12.2, by decide +kernel⟩⟩
theorem mi_X12_glitterBits : MI yX12_glitterBits cX12_glitterBits 5 (some .int) 1 := ⟨gw8 1 rfl rfl, gwm 93 rfl rfl, gw1 12 rfl rfl, gw8 2 rfl rfl, ⟨mh12.1, mh12.2, by decide +kernel⟩⟩
theorem mi_X12_glitters : MI yX12_glitters cX12_glitters 4 (some .int) 2 := ⟨gw7 236 rfl rfl, gw7 237 rfl rfl, gw1 12 rfl rfl, gw7 238 rfl rfl, ⟨mh12.1, mh12.2, by decide +kernel⟩⟩
theorem mi_X12_goes : MI yX12_goes cX12_goes 3 none 1 := ⟨gw7 38 rfl rfl, gwm 73 rfl rfl, gw1 12 rfl rfl, gw7 39 rfl rfl, ⟨mh12.1, mh12.2, by decide +kernel⟩⟩
theorem mi_X12_goesOn : MI yX12_goesOn cX12_goesOn 1 none 0 := ⟨gw6 114 rfl rfl, gwm 43 rfl rfl, gw1 12 rfl rfl, gw6 115 rfl rfl, ⟨mh12.1, mh12.2, by decide +kernel⟩⟩
theorem mi_X12_handover : MI yX12_handover cX12_handover 3 (some .int) 0 := ⟨gw7 176 rfl rfl, gw7 177 rfl rfl, gw1 12 rfl rfl, gw7 178 rfl rfl, ⟨mh12.1, mh12.2, by decide +kernel⟩⟩
theorem mi_X12_hasRoom : MI yX12_hasRoom cX12_hasRoom 4 (some .boolean) 2 := ⟨gw7 173 rfl rfl, gwm 92 rfl rfl, gw1 12 rfl rfl, gw7 174 rfl rfl, ⟨mh12.1, mh12.2, by decide +kernel⟩⟩
theorem mi_X12_heightAt : MI yX12_heightAt cX12_heightAt 3 (some .int) 2 := ⟨gw6 201 rfl rfl, gwm 61 rfl rfl, gw1 12 rfl rfl, gw6 202 rfl rfl, ⟨mh12.1, mh12.2, by decide +kernel⟩⟩
theorem mi_X12_heightNow : MI yX12_heightNow cX12_heightNow 1 (some .int) 0 := ⟨gw7 62 rfl rfl, gwm 79 rfl rfl, gw1 12 rfl rfl, gw7 63 rfl rfl, ⟨mh12.1, mh12.2, by decide +kernel⟩⟩
theorem ms_X12_held : MS yX12_held cX12_held 3 (some .int) 3 := ⟨gw6 235 rfl rfl, gw1 12 rfl rfl, gw6 236 rfl rfl, ⟨mh12.1, mh12.2, by decide +kernel⟩⟩
theorem mi_X12_hold : MI yX12_hold cX12_hold 3 (some .boolean) 1 := ⟨gw8 8 rfl rfl, gw8 9 rfl rfl, gw1 12 rfl rfl, gw8 10 rfl rfl, ⟨mh12.1, mh12.2, by decide +kernel⟩⟩
theorem ms_X12_in : MS yX12_in cX12_in 3 (some .boolean) 3 := ⟨gw6 185 rfl rfl, gw1 12 rfl rfl, gw6 186 rfl rfl, ⟨mh12.1, mh12.2, by decide +kernel⟩⟩
theorem mi_X12_inHand : MI yX12_inHand cX12_inHand 2 (some .int) 1 := ⟨gw7 132 rfl rfl, gw7 133 rfl rfl, gw1 12 rfl rfl, gw7 134 rfl rfl, ⟨mh12.1, mh12.2, by decide +kernel⟩⟩
theorem mi_X12_into : MI yX12_into cX12_into 5 (some .int) 2 := ⟨gw7 144 rfl rfl, gw7 145 rfl rfl, gw1 12 rfl rfl, gw7 146 rfl rfl, ⟨mh12.1, mh12.2, by decide +kernel⟩⟩
theorem mi_X12_is : MI yX12_is cX12_is 2 (some .boolean) 1 := ⟨gw6 98 rfl rfl, gwm 39 rfl rfl, gw1 12 rfl rfl, gw6 99 rfl rfl, ⟨mh12.1, mh12.2, by decide +kernel⟩⟩
theorem ms_X12_isDigit : MS yX12_isDigit cX12_isDigit 1 (some .boolean) 1 := ⟨gw6 90 rfl rfl, gw1 12 rfl rfl, gw6 91 rfl rfl, ⟨mh12.1, mh12.2, by decide +kernel⟩⟩
theorem ms_X12_isLetter : MS yX12_isLetter cX12_isLetter 1 (some .boolean) 1 := ⟨gw6 87 rfl rfl, gw1 12 rfl rfl, gw6 88 rfl rfl, ⟨mh12.1, mh12.2, by decide +kernel⟩⟩
theorem ms_X12_isLong : MS yX12_isLong cX12_isLong 1 (some .boolean) 1 := ⟨gw7 34 rfl rfl, gw1 12 rfl rfl, gw7 35 rfl rfl, ⟨mh12.1, mh12.2, by decide +kernel⟩⟩
theorem mi_X12_isPattern : MI yX12_isPattern cX12_isPattern 2 (some .boolean) 1 := ⟨gw6 193 rfl rfl, gwm 59 rfl rfl, gw1 12 rfl rfl, gw6 194 rfl rfl, ⟨mh12.1, mh12.2, by decide +kernel⟩⟩
theorem ms_X12_isSome : MS yX12_isSome cX12_isSome 1 (some .boolean) 1 := ⟨gw7 188 rfl rfl, gw1 12 rfl rfl, gw7 189 rfl rfl, ⟨mh12.1, mh12.2, by decide +kernel⟩⟩
theorem mi_X12_isThing : MI yX12_isThing cX12_isThing 2 (some .boolean) 1 := ⟨gw6 182 rfl rfl, gwm 58 rfl rfl, gw1 12 rfl rfl, gw6 183 rfl rfl, ⟨mh12.1, mh12.2, by decide +kernel⟩⟩
theorem mi_X12_isThrown : MI yX12_isThrown cX12_isThrown 5 none 4 := ⟨gw7 74 rfl rfl, gwm 81 rfl rfl, gw1 12 rfl rfl, gw7 75 rfl rfl, ⟨mh12.1, mh12.2, by decide +kernel⟩⟩
theorem mi_X12_isTurned : MI yX12_isTurned cX12_isTurned 5 (some .boolean) 3 := ⟨gw7 109 rfl rfl, gwm 85 rfl rfl, gw1 12 rfl rfl, gw7 110 rfl rfl, ⟨mh12.1, mh12.2, by decide +kernel⟩⟩
theorem mi_X12_joined : MI yX12_joined cX12_joined 4 (some .int) 3 := ⟨gw7 100 rfl rfl, gw7 101 rfl rfl, gw1 12 rfl rfl, gw7 102 rfl rfl, ⟨mh12.1, mh12.2, by decide +kernel⟩⟩
theorem mi_X12_keeps : MI yX12_keeps cX12_keeps 5 (some .int) 0 := ⟨gw7 94 rfl rfl, gwm 84 rfl rfl, gw1 12 rfl rfl, gw7 95 rfl rfl, ⟨mh12.1, mh12.2, by decide +kernel⟩⟩
theorem mi_X12_keepsOf : MI yX12_keepsOf cX12_keepsOf 2 (some .int) 1 := ⟨gw7 86 rfl rfl, gwm 82 rfl rfl, gw1 12 rfl rfl, gw7 87 rfl rfl, ⟨mh12.1, mh12.2, by decide +kernel⟩⟩
theorem mi_X12_keepsRow : MI yX12_keepsRow cX12_keepsRow 2 none 0 := ⟨gw5 98 rfl rfl, gwm 33 rfl rfl, gw1 12 rfl rfl, gw5 99 rfl rfl, ⟨mh12.1, mh12.2, by decide +kernel⟩⟩
theorem mi_X12_lands : MI yX12_lands cX12_lands 3 (some .int) 0 := ⟨gw7 124 rfl rfl, gw7 125 rfl rfl, gw1 12 rfl rfl, gw7 126 rfl rfl, ⟨mh12.1, mh12.2, by decide +kernel⟩⟩
theorem mi_X12_landsAt : MI yX12_landsAt cX12_landsAt 4 (some .int) 1 := ⟨gw7 129 rfl rfl, gwm 86 rfl rfl, gw1 12 rfl rfl, gw7 130 rfl rfl, ⟨mh12.1, mh12.2, by decide +kernel⟩⟩
theorem mi_X12_lawTells : MI yX12_lawTells cX12_lawTells 7 (some .int) 2 := ⟨gw6 228 rfl rfl, gwm 66 rfl rfl, gw1 12 rfl rfl, gw6 229 rfl rfl, ⟨mh12.1, mh12.2, by decide +kernel⟩⟩
theorem mi_X12_lengthOf : MI yX12_lengthOf cX12_lengthOf 2 (some .int) 1 := ⟨gw6 197 rfl rfl, gwm 60 rfl rfl, gw1 12 rfl rfl, gw6 198 rfl rfl, ⟨mh12.1, mh12.2, by decide +kernel⟩⟩
theorem mi_X12_light : MI yX12_light cX12_light 6 (some .int) 2 := ⟨gw7 207 rfl rfl, gw7 208 rfl rfl, gw1 12 rfl rfl, gw7 209 rfl rfl, ⟨mh12.1, mh12.2, by decide +kernel⟩⟩
theorem mi_X12_limit : MI yX12_limit cX12_limit 3 (some .int) 1 := ⟨gw7 180 rfl rfl, gw7 181 rfl rfl, gw1 12 rfl rfl, gw7 182 rfl rfl, ⟨mh12.1, mh12.2, by decide +kernel⟩⟩
theorem mi_X12_load : MI yX12_load cX12_load 4 (some .int) 1 := ⟨gw7 191 rfl rfl, gw7 192 rfl rfl, gw1 12 rfl rfl, gw7 193 rfl rfl, ⟨mh12.1, mh12.2, by decide +kernel⟩⟩
theorem mi_X12_looksAt : MI yX12_looksAt cX12_looksAt 4 none 3 := ⟨gw6 224 rfl rfl, gwm 65 rfl rfl, gw1 12 rfl rfl, gw6 225 rfl rfl, ⟨mh12.1, mh12.2, by decide +kernel⟩⟩
theorem mi_X12_lotNow : MI yX12_lotNow cX12_lotNow 1 (some .int) 0 := ⟨gw7 66 rfl rfl, gwm 80 rfl rfl, gw1 12 rfl rfl, gw7 67 rfl rfl, ⟨mh12.1, mh12.2, by decide +kernel⟩⟩
theorem ms_X12_mixed : MS yX12_mixed cX12_mixed 3 (some .int) 2 := ⟨gw7 69 rfl rfl, gw1 12 rfl rfl, gw7 70 rfl rfl, ⟨mh12.1, mh12.2, by decide +kernel⟩⟩
theorem mi_X12_must : MI yX12_must cX12_must 2 none 1 := ⟨gw6 126 rfl rfl, gwm 46 rfl rfl, gw1 12 rfl rfl, gw6 127 rfl rfl, ⟨mh12.1, mh12.2, by decide +kernel⟩⟩
theorem mi_X12_named : MI yX12_named cX12_named 3 (some .int) 0 := ⟨gw6 122 rfl rfl, gwm 45 rfl rfl, gw1 12 rfl rfl, gw6 123 rfl rfl, ⟨mh12.1, mh12.2, by decide +kernel⟩⟩
theorem ms_X12_nextOf : MS yX12_nextOf cX12_nextOf 2 (some .int) 2 := ⟨gw7 157 rfl rfl, gw1 12 rfl rfl, gw7 158 rfl rfl, ⟨mh12.1, mh12.2, by decide +kernel⟩⟩
theorem mi_X12_orbits : MI yX12_orbits cX12_orbits 6 (some .int) 1 := ⟨gw7 116 rfl rfl, gw7 117 rfl rfl, gw1 12 rfl rfl, gw7 118 rfl rfl, ⟨mh12.1, mh12.2, by decide +kernel⟩⟩
theorem mi_X12_order : MI yX12_order cX12_order 4 (some .int) 1 := ⟨gw7 199 rfl rfl, gw7 200 rfl rfl, gw1 12 rfl rfl, gw7 201 rfl rfl, ⟨mh12.1, mh12.2, by decide +kernel⟩⟩
theorem mi_X12_pattern : MI yX12_pattern cX12_pattern 3 (some .int) 2 := ⟨gw6 188 rfl rfl, gw6 189 rfl rfl, gw1 12 rfl rfl, gw6 190 rfl rfl, ⟨mh12.1, mh12.2, by decide +kernel⟩⟩
theorem mi_X12_paysOf : MI yX12_paysOf cX12_paysOf 3 (some .int) 2 := ⟨gw7 7 rfl rfl, gwm 70 rfl rfl, gw1 12 rfl rfl, gw7 8 rfl rfl, ⟨mh12.1, mh12.2, by decide +kernel⟩⟩
theorem mi_X12_place : MI yX12_place cX12_place 1 (some .int) 0 := ⟨gw6 173 rfl rfl, gw6 174 rfl rfl, gw1 12 rfl rfl, gw6 175 rfl rfl, ⟨mh12.1, mh12.2, by decide +kernel⟩⟩
theorem mi_X12_plain : MI yX12_plain cX12_plain 3 none 1 := ⟨gw5 83 rfl rfl, gwm 31 rfl rfl, gw1 12 rfl rfl, gw5 84 rfl rfl, ⟨mh12.1, mh12.2, by decide +kernel⟩⟩
theorem mi_X12_put : MI yX12_put cX12_put 3 none 1 := ⟨gw6 64 rfl rfl, gwm 34 rfl rfl, gw1 12 rfl rfl, gw6 65 rfl rfl, ⟨mh12.1, mh12.2, by decide +kernel⟩⟩
theorem mi_X12_read : MI yX12_read cX12_read 2 (some .int) 0 := ⟨gw6 71 rfl rfl, gw6 72 rfl rfl, gw1 12 rfl rfl, gw6 73 rfl rfl, ⟨mh12.1, mh12.2, by decide +kernel⟩⟩
theorem mi_X12_records : MI yX12_records cX12_records 2 none 0 := ⟨gw7 15 rfl rfl, gwm 71 rfl rfl, gw1 12 rfl rfl, gw7 16 rfl rfl, ⟨mh12.1, mh12.2, by decide +kernel⟩⟩
theorem mi_X12_restore : MI yX12_restore cX12_restore 3 (some .boolean) 1 := ⟨gw8 12 rfl rfl, gw8 13 rfl rfl, gw1 12 rfl rfl, gw8 14 rfl rfl, ⟨mh12.1, mh12.2, by decide +kernel⟩⟩
theorem mi_X12_room : MI yX12_room cX12_room 3 (some .int) 1 := ⟨gw7 168 rfl rfl, gw7 169 rfl rfl, gw1 12 rfl rfl, gw7 170 rfl rfl, ⟨mh12.1, mh12.2, by decide +kernel⟩⟩
theorem mi_X12_roomFor : MI yX12_roomFor cX12_roomFor 3 none 2 := ⟨gw6 106 rfl rfl, gwm 41 rfl rfl, gw1 12 rfl rfl, gw6 107 rfl rfl, ⟨mh12.1, mh12.2, by decide +kernel⟩⟩
theorem mi_X12_rule : MI yX12_rule cX12_rule 4 (some .int) 1 := ⟨gw7 211 rfl rfl, gw7 212 rfl rfl, gw1 12 rfl rfl, gw7 213 rfl rfl, ⟨mh12.1, mh12.2, by decide +kernel⟩⟩
theorem mi_X12_set : MI yX12_set cX12_set 2 (some .boolean) 1 := ⟨gw7 26 rfl rfl, gw7 27 rfl rfl, gw1 12 rfl rfl, gw7 28 rfl rfl, ⟨mh12.1, mh12.2, by decide +kernel⟩⟩
theorem mi_X12_sign : MI yX12_sign cX12_sign 5 (some .int) 3 := ⟨gw6 94 rfl rfl, gwm 38 rfl rfl, gw1 12 rfl rfl, gw6 95 rfl rfl, ⟨mh12.1, mh12.2, by decide +kernel⟩⟩
theorem mi_X12_span : MI yX12_span cX12_span 4 (some .int) 1 := ⟨gw7 112 rfl rfl, gw7 113 rfl rfl, gw1 12 rfl rfl, gw7 114 rfl rfl, ⟨mh12.1, mh12.2, by decide +kernel⟩⟩
theorem mi_X12_swaps : MI yX12_swaps cX12_swaps 5 (some .int) 1 := ⟨gw7 120 rfl rfl, gw7 121 rfl rfl, gw1 12 rfl rfl, gw7 122 rfl rfl, ⟨mh12.1, mh12.2, by decide +kernel⟩⟩
theorem mi_X12_takesPattern : MI yX12_takesPattern cX12_takesPattern 4 none 2 := ⟨gw7 90 rfl rfl, gwm 83 rfl rfl, gw1 12 rfl rfl, gw7 91 rfl rfl, ⟨mh12.1, mh12.2, by decide +kernel⟩⟩
theorem mi_X12_tell : MI yX12_tell cX12_tell 3 (some .int) 2 := ⟨gw7 228 rfl rfl, gw7 229 rfl rfl, gw1 12 rfl rfl, gw7 230 rfl rfl, ⟨mh12.1, mh12.2, by decide +kernel⟩⟩
theorem mi_X12_tellLaw : MI yX12_tellLaw cX12_tellLaw 4 none 1 := ⟨gw6 150 rfl rfl, gwm 52 rfl rfl, gw1 12 rfl rfl, gw6 151 rfl rfl, ⟨mh12.1, mh12.2, by decide +kernel⟩⟩
theorem mi_X12_tellOne : MI yX12_tellOne cX12_tellOne 2 none 0 := ⟨gw6 102 rfl rfl, gwm 40 rfl rfl, gw1 12 rfl rfl, gw6 103 rfl rfl, ⟨mh12.1, mh12.2, by decide +kernel⟩⟩
theorem mi_X12_tellPattern : MI yX12_tellPattern cX12_tellPattern 3 none 0 := ⟨gw6 142 rfl rfl, gwm 50 rfl rfl, gw1 12 rfl rfl, gw6 143 rfl rfl, ⟨mh12.1, mh12.2, by decide +kernel⟩⟩
theorem mi_X12_tellThing : MI yX12_tellThing cX12_tellThing 3 none 0 := ⟨gw6 118 rfl rfl, gwm 44 rfl rfl, gw1 12 rfl rfl, gw6 119 rfl rfl, ⟨mh12.1, mh12.2, by decide +kernel⟩⟩
theorem mi_X12_tells : MI yX12_tells cX12_tells 5 (some .int) 3 := ⟨gw6 204 rfl rfl, gw6 205 rfl rfl, gw1 12 rfl rfl, gw6 206 rfl rfl, ⟨mh12.1, mh12.2, by decide +kernel⟩⟩
theorem mi_X12_term : MI yX12_term cX12_term 1 none 0 := ⟨gw6 170 rfl rfl, gwm 57 rfl rfl, gw1 12 rfl rfl, gw6 171 rfl rfl, ⟨mh12.1, mh12.2, by decide +kernel⟩⟩
theorem mi_X12_termOf : MI yX12_termOf cX12_termOf 8 (some .int) 2 := ⟨gw6 232 rfl rfl, gwm 67 rfl rfl, gw1 12 rfl rfl, gw6 233 rfl rfl, ⟨mh12.1, mh12.2, by decide +kernel⟩⟩
theorem mi_X12_then : MI yX12_then cX12_then 3 (some .int) 2 := ⟨gw7 220 rfl rfl, gw7 221 rfl rfl, gw1 12 rfl rfl, gw7 222 rfl rfl, ⟨mh12.1, mh12.2, by decide +kernel⟩⟩
theorem mi_X12_thing : MI yX12_thing cX12_thing 3 (some .int) 2 := ⟨gw6 177 rfl rfl, gw6 178 rfl rfl, gw1 12 rfl rfl, gw6 179 rfl rfl, ⟨mh12.1, mh12.2, by decide +kernel⟩⟩
theorem mi_X12_thingsSo : MI yX12_thingsSo cX12_thingsSo 4 (some .int) 1 := ⟨gw6 213 rfl rfl, gwm 63 rfl rfl, gw1 12 rfl rfl, gw6 214 rfl rfl, ⟨mh12.1, mh12.2, by decide +kernel⟩⟩
theorem mi_X12_throwIn : MI yX12_throwIn cX12_throwIn 3 (some .boolean) 2 := ⟨gw7 10 rfl rfl, gw7 11 rfl rfl, gw1 12 rfl rfl, gw7 12 rfl rfl, ⟨mh12.1, mh12.2, by decide +kernel⟩⟩
theorem mi_X12_tiresBy : MI yX12_tiresBy cX12_tiresBy 4 (some .int) 3 := ⟨gw6 220 rfl rfl, gwm 64 rfl rfl, gw1 12 rfl rfl, gw6 221 rfl rfl, ⟨mh12.1, mh12.2, by decide +kernel⟩⟩
theorem mi_X12_token : MI yX12_token cX12_token 6 none 4 := ⟨gw6 84 rfl rfl, gwm 37 rfl rfl, gw1 12 rfl rfl, gw6 85 rfl rfl, ⟨mh12.1, mh12.2, by decide +kernel⟩⟩
theorem ms_X12_told : MS yX12_told cX12_told 2 (some .int) 2 := ⟨gw7 97 rfl rfl, gw1 12 rfl rfl, gw7 98 rfl rfl, ⟨mh12.1, mh12.2, by decide +kernel⟩⟩
theorem mi_X12_toldInt : MI yX12_toldInt cX12_toldInt 4 (some .int) 2 := ⟨gw6 146 rfl rfl, gwm 51 rfl rfl, gw1 12 rfl rfl, gw6 147 rfl rfl, ⟨mh12.1, mh12.2, by decide +kernel⟩⟩
theorem mi_X12_turned : MI yX12_turned cX12_turned 4 (some .int) 2 := ⟨gw7 104 rfl rfl, gw7 105 rfl rfl, gw1 12 rfl rfl, gw7 106 rfl rfl, ⟨mh12.1, mh12.2, by decide +kernel⟩⟩
theorem mi_X12_undo : MI yX12_undo cX12_undo 2 (some .boolean) 0 := ⟨gw7 77 rfl rfl, gw7 78 rfl rfl, gw1 12 rfl rfl, gw7 79 rfl rfl, ⟨mh12.1, mh12.2, by decide +kernel⟩⟩
theorem mi_X12_unit : MI yX12_unit cX12_unit 1 none 0 := ⟨gw6 158 rfl rfl, gwm 54 rfl rfl, gw1 12 rfl rfl, gw6 159 rfl rfl, ⟨mh12.1, mh12.2, by decide +kernel⟩⟩
theorem mi_X12_use : MI yX12_use cX12_use 2 (some .boolean) 1 := ⟨gw7 18 rfl rfl, gw7 19 rfl rfl, gw1 12 rfl rfl, gw7 20 rfl rfl, ⟨mh12.1, mh12.2, by decide +kernel⟩⟩
theorem mi_X12_uses : MI yX12_uses cX12_uses 2 none 1 := ⟨gw7 23 rfl rfl, gwm 72 rfl rfl, gw1 12 rfl rfl, gw7 24 rfl rfl, ⟨mh12.1, mh12.2, by decide +kernel⟩⟩
theorem mi_X12_watch : MI yX12_watch cX12_watch 9 (some .int) 1 := ⟨gw8 4 rfl rfl, gw8 5 rfl rfl, gw1 12 rfl rfl, gw8 6 rfl rfl, ⟨mh12.1, mh12.2, by decide +kernel⟩⟩
theorem mi_X12_ways : MI yX12_ways cX12_ways 10 (some .int) 4 := ⟨gw7 203 rfl rfl, gw7 204 rfl rfl, gw1 12 rfl rfl, gw7 205 rfl rfl, ⟨mh12.1, mh12.2, by decide +kernel⟩⟩
theorem mi_X12_weightsOf : MI yX12_weightsOf cX12_weightsOf 4 (some .int) 1 := ⟨gw8 21 rfl rfl, gwm 94 rfl rfl, gw1 12 rfl rfl, gw8 22 rfl rfl, ⟨mh12.1, mh12.2, by decide +kernel⟩⟩
theorem ms_X12_word : MS yX12_word cX12_word 7 (some .long) 7 := ⟨gw5 86 rfl rfl, gw1 12 rfl rfl, gw5 87 rfl rfl, ⟨mh12.1, mh12.2, by decide +kernel⟩⟩
theorem mi_X12_wrong : MI yX12_wrong cX12_wrong 4 none 2 := ⟨gw6 130 rfl rfl, gwm 47 rfl rfl, gw1 12 rfl rfl, gw6 131 rfl rfl, ⟨mh12.1, mh12.2, by decide +kernel⟩⟩
theorem mi_X12_year : MI yX12_year cX12_year 5 (some .int) 2 := ⟨gw7 224 rfl rfl, gw7 225 rfl rfl, gw1 12 rfl rfl, gw7 226 rfl rfl, ⟨mh12.1, mh12.2, by decide +kernel⟩⟩
theorem mh13 : (RJ6 : String) ≠ "java/lang/invoke/MethodHandle" ∧ (RJ6 : String) ≠ "java/lang/invoke/VarHandle" := by decide +kernel
theorem ms_J6_bitCount_0f7a4 : MS yJ6_bitCount_0f7a4 cJ6_bitCount_0f7a4 1 (some .int) 1 := ⟨gw3 204 rfl rfl, gw1 21 rfl rfl, gw3 205 rfl rfl, ⟨mh13.1, mh13.2, by decide +kernel⟩⟩
theorem mh14 : (RJ9 : String) ≠ "java/lang/invoke/MethodHandle" ∧ (RJ9 : String) ≠ "java/lang/invoke/VarHandle" := by decide +kernel
theorem ms_J9_floorMod_7cf53 : MS yJ9_floorMod_7cf53 cJ9_floorMod_7cf53 3 (some .int) 2 := ⟨gw4 6 rfl rfl, gw1 17 rfl rfl, gw4 7 rfl rfl, ⟨mh14.1, mh14.2, by decide +kernel⟩⟩
theorem mh15 : (RJ0 : String) ≠ "java/lang/invoke/MethodHandle" ∧ (RJ0 : String) ≠ "java/lang/invoke/VarHandle" := by decide +kernel
theorem mi_J0_charAt_5068e : MI yJ0_charAt_5068e cJ0_charAt_5068e 2 (some .char) 1 := ⟨gw2 227 rfl rfl, gw2 228 rfl rfl, gw1 13 rfl rfl, gw2 229 rfl rfl, ⟨mh15.1, mh15.2, by decide +kernel⟩⟩
theorem ms_J0_checkIndex_df160 : MS yJ0_checkIndex_df160 cJ0_checkIndex_df160 2 none 2 := ⟨gw2 238 rfl rfl, gw1 13 rfl rfl, gw2 239 rfl rfl, ⟨mh15.1, mh15.2, by decide +kernel⟩⟩
theorem mi_J0_coder_7d493 : MI yJ0_coder_7d493 cJ0_coder_7d493 1 (some .byte) 0 := ⟨gw2 221 rfl rfl, gw2 222 rfl rfl, gw1 13 rfl rfl, gw2 223 rfl rfl, ⟨mh15.1, mh15.2, by decide +kernel⟩⟩
theorem mi_J0_indexOf_0f7a4 : MI yJ0_indexOf_0f7a4 cJ0_indexOf_0f7a4 2 (some .int) 1 := ⟨gw3 34 rfl rfl, gw3 35 rfl rfl, gw1 13 rfl rfl, gw3 36 rfl rfl, ⟨mh15.1, mh15.2, by decide +kernel⟩⟩
theorem mi_J0_indexOf_7cf53 : MI yJ0_indexOf_7cf53 cJ0_indexOf_7cf53 3 (some .int) 2 := ⟨gw3 38 rfl rfl, gw3 39 rfl rfl, gw1 13 rfl rfl, gw3 40 rfl rfl, ⟨mh15.1, mh15.2, by decide +kernel⟩⟩
theorem mi_J0_isLatin1_aae02 : MI yJ0_isLatin1_aae02 cJ0_isLatin1_aae02 1 (some .boolean) 0 := ⟨gw2 231 rfl rfl, gw2 232 rfl rfl, gw1 13 rfl rfl, gw2 233 rfl rfl, ⟨mh15.1, mh15.2, by decide +kernel⟩⟩
theorem mi_J0_length_8abf5 : MI yJ0_length_8abf5 cJ0_length_8abf5 1 (some .int) 0 := ⟨gw2 217 rfl rfl, gw2 218 rfl rfl, gw1 13 rfl rfl, gw2 219 rfl rfl, ⟨mh15.1, mh15.2, by decide +kernel⟩⟩
theorem mh16 : (RJ1 : String) ≠ "java/lang/invoke/MethodHandle" ∧ (RJ1 : String) ≠ "java/lang/invoke/VarHandle" := by decide +kernel
theorem ms_J1_canEncode_9a6ad : MS yJ1_canEncode_9a6ad cJ1_canEncode_9a6ad 1 (some .boolean) 1 := ⟨gw3 46 rfl rfl, gw1 14 rfl rfl, gw3 47 rfl rfl, ⟨mh16.1, mh16.2, by decide +kernel⟩⟩
theorem ms_J1_charAt_3b067 : MS yJ1_charAt_3b067 cJ1_charAt_3b067 2 (some .char) 2 := ⟨gw2 235 rfl rfl, gw1 14 rfl rfl, gw2 236 rfl rfl, ⟨mh16.1, mh16.2, by decide +kernel⟩⟩
theorem ms_J1_indexOf_4cfef : MS yJ1_indexOf_4cfef cJ1_indexOf_4cfef 4 (some .int) 4 := ⟨gw3 43 rfl rfl, gw1 14 rfl rfl, gw3 44 rfl rfl, ⟨mh16.1, mh16.2, by decide +kernel⟩⟩
theorem ms_J1_indexOfChar_4cfef : MS yJ1_indexOfChar_4cfef cJ1_indexOfChar_4cfef 6 (some .int) 4 := ⟨gw3 55 rfl rfl, gw1 14 rfl rfl, gw3 56 rfl rfl, ⟨mh16.1, mh16.2, by decide +kernel⟩⟩
theorem mh17 : (RJ7 : String) ≠ "java/lang/invoke/MethodHandle" ∧ (RJ7 : String) ≠ "java/lang/invoke/VarHandle" := by decide +kernel
theorem ms_J7_fill_53178 : MS yJ7_fill_53178 cJ7_fill_53178 4 none 2 := ⟨gw3 154 rfl rfl, gw1 19 rfl rfl, gw3 155 rfl rfl, ⟨mh17.1, mh17.2, by decide +kernel⟩⟩
theorem mh18 : (RJ3 : String) ≠ "java/lang/invoke/MethodHandle" ∧ (RJ3 : String) ≠ "java/lang/invoke/VarHandle" := by decide +kernel
theorem ms_J3_checkIndex_8e157 : MS yJ3_checkIndex_8e157 cJ3_checkIndex_8e157 3 (some .int) 3 := ⟨gw3 3 rfl rfl, gw1 15 rfl rfl, gw3 4 rfl rfl, ⟨mh18.1, mh18.2, by decide +kernel⟩⟩
theorem ml_RX11_25 : Cond.methodLink RX11 25 yX5_init ∈ gw_tbl := gw1 133 rfl rfl
theorem ml_RX11_81 : Cond.methodLink RX11 81 yX10_init ∈ gw_tbl := gw2 45 rfl rfl
theorem ml_RX11_99 : Cond.methodLink RX11 99 yX9_append ∈ gw_tbl := gw2 175 rfl rfl
theorem ml_RX11_103 : Cond.methodLink RX11 103 yX6_readInto ∈ gw_tbl := gw2 187 rfl rfl
theorem ml_RX11_107 : Cond.methodLink RX11 107 yX11_beginAnew ∈ gw_tbl := gw3 145 rfl rfl
theorem ml_RX11_110 : Cond.methodLink RX11 110 yX0_begin ∈ gw_tbl := gw3 149 rfl rfl
theorem ml_RX11_114 : Cond.methodLink RX11 114 yX5_clear ∈ gw_tbl := gw3 159 rfl rfl
theorem ml_RX11_121 : Cond.methodLink RX11 121 yX10_hasThing ∈ gw_tbl := gw3 172 rfl rfl
theorem ml_RX11_134 : Cond.methodLink RX11 134 yX0_isUp ∈ gw_tbl := gw3 176 rfl rfl
theorem ml_RX11_143 : Cond.methodLink RX11 143 yX10_hasPattern ∈ gw_tbl := gw3 184 rfl rfl
theorem ml_RX11_153 : Cond.methodLink RX11 153 yX11_isHeight ∈ gw_tbl := gw3 192 rfl rfl
theorem ml_RX11_156 : Cond.methodLink RX11 156 yX0_howManyUp ∈ gw_tbl := gw3 195 rfl rfl
theorem ml_RX11_160 : Cond.methodLink RX11 160 yX4_lookAt ∈ gw_tbl := gw3 209 rfl rfl
theorem ml_RX11_164 : Cond.methodLink RX11 164 yX4_asks ∈ gw_tbl := gw3 213 rfl rfl
theorem ml_RX11_180 : Cond.methodLink RX11 180 yX0_bitsOf ∈ gw_tbl := gw3 239 rfl rfl
theorem ml_RX11_196 : Cond.methodLink RX11 196 yX0_heightBy ∈ gw_tbl := gw4 0 rfl rfl
theorem ml_RX11_200 : Cond.methodLink RX11 200 yX11_slotsHeld ∈ gw_tbl := gw4 8 rfl rfl
theorem ml_RX11_203 : Cond.methodLink RX11 203 yX11_weightsOf ∈ gw_tbl := gw4 12 rfl rfl
theorem ml_RX11_206 : Cond.methodLink RX11 206 yX5_keep ∈ gw_tbl := gw4 20 rfl rfl
theorem ml_RX11_210 : Cond.methodLink RX11 210 yX0_putUp ∈ gw_tbl := gw4 29 rfl rfl
theorem ml_RX11_214 : Cond.methodLink RX11 214 yX0_takeUp ∈ gw_tbl := gw4 37 rfl rfl
theorem ml_RX11_223 : Cond.methodLink RX11 223 yX4_goOn ∈ gw_tbl := gw4 49 rfl rfl
theorem ml_RX11_226 : Cond.methodLink RX11 226 yX5_giveBack ∈ gw_tbl := gw4 90 rfl rfl
theorem ml_RX11_230 : Cond.methodLink RX11 230 yX0_copy ∈ gw_tbl := gw4 98 rfl rfl
theorem ml_RX11_233 : Cond.methodLink RX11 233 yX11_closingOf ∈ gw_tbl := gw4 107 rfl rfl
theorem ml_RX11_243 : Cond.methodLink RX11 243 yX3_close ∈ gw_tbl := gw4 110 rfl rfl
theorem ml_RX11_249 : Cond.methodLink RX11 249 yX3_kept ∈ gw_tbl := gw4 113 rfl rfl
theorem ml_RX11_253 : Cond.methodLink RX11 253 yX3_turns ∈ gw_tbl := gw4 125 rfl rfl
theorem ml_RX11_257 : Cond.methodLink RX11 257 yX3_highest ∈ gw_tbl := gw4 132 rfl rfl
theorem ml_RX11_260 : Cond.methodLink RX11 260 yX3_rounds ∈ gw_tbl := gw4 140 rfl rfl
theorem ml_RX11_263 : Cond.methodLink RX11 263 yX3_pairsToSwap ∈ gw_tbl := gw4 147 rfl rfl
theorem ml_RX11_266 : Cond.methodLink RX11 266 yX8_find ∈ gw_tbl := gw4 155 rfl rfl
theorem ml_RX11_276 : Cond.methodLink RX11 276 yX0_landingBits ∈ gw_tbl := gw4 174 rfl rfl
theorem ml_RX11_279 : Cond.methodLink RX11 279 yX11_findHands ∈ gw_tbl := gw4 183 rfl rfl
theorem ml_RX11_282 : Cond.methodLink RX11 282 yX0_firstLanding ∈ gw_tbl := gw4 187 rfl rfl
theorem ml_RX11_285 : Cond.methodLink RX11 285 yX4_goOnSafely ∈ gw_tbl := gw4 188 rfl rfl
theorem ml_RX11_289 : Cond.methodLink RX11 289 yX11_firstClash ∈ gw_tbl := gw4 196 rfl rfl
theorem ml_RX11_292 : Cond.methodLink RX11 292 yX0_howManyLand ∈ gw_tbl := gw4 200 rfl rfl
theorem ml_RX11_295 : Cond.methodLink RX11 295 yX0_twoLandAlike ∈ gw_tbl := gw4 216 rfl rfl
theorem ml_RX11_299 : Cond.methodLink RX11 299 yX3_landingBits ∈ gw_tbl := gw4 222 rfl rfl
theorem ml_RX11_301 : Cond.methodLink RX11 301 yX7_find ∈ gw_tbl := gw4 226 rfl rfl
theorem ml_RX11_307 : Cond.methodLink RX11 307 yX11_isSpan ∈ gw_tbl := gw5 3 rfl rfl
theorem ml_RX11_310 : Cond.methodLink RX11 310 yJ7_fill_53178 ∈ gw_tbl := gw5 6 rfl rfl
theorem ml_RX11_317 : Cond.methodLink RX11 317 yX4_inForce ∈ gw_tbl := gw5 16 rfl rfl
theorem ml_RX11_322 : Cond.methodLink RX11 322 yX2_add ∈ gw_tbl := gw5 53 rfl rfl
theorem ml_RX11_326 : Cond.methodLink RX11 326 yX2_agreeing ∈ gw_tbl := gw5 65 rfl rfl
theorem ml_RX11_330 : Cond.methodLink RX11 330 yJ6_bitCount_0f7a4 ∈ gw_tbl := gw5 69 rfl rfl
theorem ml_RX0_34 : Cond.methodLink RX0 34 yJ7_fill_53178 ∈ gw_tbl := gw3 153 rfl rfl
theorem ml_RX0_70 : Cond.methodLink RX0 70 yX0_bitsOf ∈ gw_tbl := gw3 199 rfl rfl
theorem ml_RX0_74 : Cond.methodLink RX0 74 yJ6_bitCount_0f7a4 ∈ gw_tbl := gw3 203 rfl rfl
theorem ml_RX0_79 : Cond.methodLink RX0 79 yX0_landsNow ∈ gw_tbl := gw4 61 rfl rfl
theorem ml_RX0_83 : Cond.methodLink RX0 83 yX0_isUp ∈ gw_tbl := gw4 178 rfl rfl
theorem ml_RX0_86 : Cond.methodLink RX0 86 yX0_landingBits ∈ gw_tbl := gw4 220 rfl rfl
theorem ml_RX0_90 : Cond.methodLink RX0 90 yX0_howManyUp ∈ gw_tbl := gw4 221 rfl rfl
theorem ml_RX0_93 : Cond.methodLink RX0 93 yX10_hasPattern ∈ gw_tbl := gw4 4 rfl rfl
theorem ml_RX0_103 : Cond.methodLink RX0 103 yJ9_floorMod_7cf53 ∈ gw_tbl := gw4 5 rfl rfl
theorem ml_RX1_26 : Cond.methodLink RX1 26 yX1_push ∈ gw_tbl := gw3 221 rfl rfl
theorem ml_RX1_30 : Cond.methodLink RX1 30 yX1_pop ∈ gw_tbl := gw3 225 rfl rfl
theorem ml_RX1_34 : Cond.methodLink RX1 34 yX1_reckon ∈ gw_tbl := gw3 229 rfl rfl
theorem ml_RX3_19 : Cond.methodLink RX3 19 yJ9_floorMod_7cf53 ∈ gw_tbl := gw4 225 rfl rfl
theorem ml_RX4_18 : Cond.methodLink RX4 18 yX4_oneBeat ∈ gw_tbl := gw4 53 rfl rfl
theorem ml_RX4_22 : Cond.methodLink RX4 22 yX0_firstLanding ∈ gw_tbl := gw4 57 rfl rfl
theorem ml_RX4_28 : Cond.methodLink RX4 28 yX0_howManyUp ∈ gw_tbl := gw4 70 rfl rfl
theorem ml_RX4_31 : Cond.methodLink RX4 31 yX0_howManyLand ∈ gw_tbl := gw5 20 rfl rfl
theorem ml_RX4_34 : Cond.methodLink RX4 34 yX4_lookAt ∈ gw_tbl := gw4 71 rfl rfl
theorem ml_RX4_38 : Cond.methodLink RX4 38 yX4_asks ∈ gw_tbl := gw4 84 rfl rfl
theorem ml_RX4_60 : Cond.methodLink RX4 60 yX0_landsNow ∈ gw_tbl := gw4 65 rfl rfl
theorem ml_RX4_64 : Cond.methodLink RX4 64 yX0_drop ∈ gw_tbl := gw4 66 rfl rfl
theorem ml_RX4_68 : Cond.methodLink RX4 68 yX4_catchOne ∈ gw_tbl := gw4 72 rfl rfl
theorem ml_RX4_71 : Cond.methodLink RX4 71 yX0_isUp ∈ gw_tbl := gw4 85 rfl rfl
theorem ml_RX4_84 : Cond.methodLink RX4 84 yX0_heightBy ∈ gw_tbl := gw4 76 rfl rfl
theorem ml_RX4_88 : Cond.methodLink RX4 88 yX4_lot ∈ gw_tbl := gw4 77 rfl rfl
theorem ml_RX4_122 : Cond.methodLink RX4 122 yX1_answer ∈ gw_tbl := gw3 217 rfl rfl
theorem ml_RX4_126 : Cond.methodLink RX4 126 yX4_stir ∈ gw_tbl := gw4 80 rfl rfl
theorem ml_RX5_25 : Cond.methodLink RX5 25 yX0_copy ∈ gw_tbl := gw4 24 rfl rfl
theorem ml_RX6_26 : Cond.methodLink RX6 26 yX10_clear ∈ gw_tbl := gw2 191 rfl rfl
theorem ml_RX6_43 : Cond.methodLink RX6 43 yX9_cut ∈ gw_tbl := gw2 192 rfl rfl
theorem ml_RX6_56 : Cond.methodLink RX6 56 yX6_telling ∈ gw_tbl := gw3 92 rfl rfl
theorem ml_RX6_60 : Cond.methodLink RX6 60 yX6_refuse ∈ gw_tbl := gw3 100 rfl rfl
theorem ml_RX6_73 : Cond.methodLink RX6 73 yX6_noteLater ∈ gw_tbl := gw3 112 rfl rfl
theorem ml_RX6_77 : Cond.methodLink RX6 77 yX6_take ∈ gw_tbl := gw3 104 rfl rfl
theorem ml_RX6_80 : Cond.methodLink RX6 80 yX6_tellingThing ∈ gw_tbl := gw3 96 rfl rfl
theorem ml_RX6_83 : Cond.methodLink RX6 83 yX6_tellingPattern ∈ gw_tbl := gw3 120 rfl rfl
theorem ml_RX6_86 : Cond.methodLink RX6 86 yX6_tellingLaw ∈ gw_tbl := gw3 124 rfl rfl
theorem ml_RX6_90 : Cond.methodLink RX6 90 yX6_takeNumber ∈ gw_tbl := gw3 116 rfl rfl
theorem ml_RX6_103 : Cond.methodLink RX6 103 yX6_takeName ∈ gw_tbl := gw3 108 rfl rfl
theorem ml_RX6_132 : Cond.methodLink RX6 132 yX6_condition ∈ gw_tbl := gw3 128 rfl rfl
theorem ml_RX6_135 : Cond.methodLink RX6 135 yX6_expression ∈ gw_tbl := gw3 132 rfl rfl
theorem ml_RX6_138 : Cond.methodLink RX6 138 yX10_emit ∈ gw_tbl := gw3 144 rfl rfl
theorem ml_RX6_144 : Cond.methodLink RX6 144 yX6_product ∈ gw_tbl := gw3 136 rfl rfl
theorem ml_RX6_147 : Cond.methodLink RX6 147 yX6_unit ∈ gw_tbl := gw3 140 rfl rfl
theorem ml_RX7_24 : Cond.methodLink RX7 24 yJ7_fill_53178 ∈ gw_tbl := gw4 230 rfl rfl
theorem ml_RX7_34 : Cond.methodLink RX7 34 yX7_meet ∈ gw_tbl := gw4 231 rfl rfl
theorem ml_RX7_41 : Cond.methodLink RX7 41 yX7_goOnFrom ∈ gw_tbl := gw4 235 rfl rfl
theorem ml_RX8_35 : Cond.methodLink RX8 35 yX8_fill ∈ gw_tbl := gw4 161 rfl rfl
theorem ml_RX8_39 : Cond.methodLink RX8 39 yX8_finish ∈ gw_tbl := gw4 165 rfl rfl
theorem ml_RX9_32 : Cond.methodLink RX9 32 yX9_isBlank ∈ gw_tbl := gw2 196 rfl rfl
theorem ml_RX9_36 : Cond.methodLink RX9 36 yX9_cutOne ∈ gw_tbl := gw2 199 rfl rfl
theorem ml_RX9_40 : Cond.methodLink RX9 40 yX9_isLetter ∈ gw_tbl := gw2 203 rfl rfl
theorem ml_RX9_43 : Cond.methodLink RX9 43 yX9_cutWord ∈ gw_tbl := gw2 206 rfl rfl
theorem ml_RX9_46 : Cond.methodLink RX9 46 yX9_isDigit ∈ gw_tbl := gw3 24 rfl rfl
theorem ml_RX9_49 : Cond.methodLink RX9 49 yX9_cutInt ∈ gw_tbl := gw3 27 rfl rfl
theorem ml_RX9_54 : Cond.methodLink RX9 54 yJ0_indexOf_0f7a4 ∈ gw_tbl := gw3 33 rfl rfl
theorem ml_RX9_61 : Cond.methodLink RX9 61 yX9_wordAt ∈ gw_tbl := gw2 211 rfl rfl
theorem ml_RX9_69 : Cond.methodLink RX9 69 yJ0_length_8abf5 ∈ gw_tbl := gw2 216 rfl rfl
theorem ml_RX9_73 : Cond.methodLink RX9 73 yJ0_charAt_5068e ∈ gw_tbl := gw2 226 rfl rfl
theorem ml_RX10_35 : Cond.methodLink RX10 35 yX10_clear ∈ gw_tbl := gw2 51 rfl rfl
theorem ml_RX10_54 : Cond.methodLink RX10 54 yX10_emit ∈ gw_tbl := gw2 55 rfl rfl
theorem ml_RL_9 : Cond.methodLink RL 9 yX11_init ∈ gw_tbl := gw1 25 rfl rfl
theorem ml_RL_12 : Cond.methodLink RL 12 yX12_init ∈ gw_tbl := gw5 77 rfl rfl
theorem ml_RL_13 : Cond.methodLink RL 13 yX11_feed ∈ gw_tbl := gw2 171 rfl rfl
theorem ml_RL_17 : Cond.methodLink RL 17 yX12_feed ∈ gw_tbl := gw6 58 rfl rfl
theorem ml_RL_18 : Cond.methodLink RL 18 yX11_back ∈ gw_tbl := gw2 179 rfl rfl
theorem ml_RL_22 : Cond.methodLink RL 22 yX12_back ∈ gw_tbl := gw6 66 rfl rfl
theorem ml_RL_23 : Cond.methodLink RL 23 yX11_read ∈ gw_tbl := gw2 183 rfl rfl
theorem ml_RL_27 : Cond.methodLink RL 27 yX12_read ∈ gw_tbl := gw6 70 rfl rfl
theorem ml_RL_28 : Cond.methodLink RL 28 yX11_place ∈ gw_tbl := gw3 164 rfl rfl
theorem ml_RL_31 : Cond.methodLink RL 31 yX12_place ∈ gw_tbl := gw6 172 rfl rfl
theorem ml_RL_32 : Cond.methodLink RL 32 yX11_thing ∈ gw_tbl := gw3 168 rfl rfl
theorem ml_RL_36 : Cond.methodLink RL 36 yX12_thing ∈ gw_tbl := gw6 176 rfl rfl
theorem ml_RL_37 : Cond.methodLink RL 37 yX11_pattern ∈ gw_tbl := gw3 180 rfl rfl
theorem ml_RL_40 : Cond.methodLink RL 40 yX12_pattern ∈ gw_tbl := gw6 187 rfl rfl
theorem ml_RL_41 : Cond.methodLink RL 41 yX11_tells ∈ gw_tbl := gw3 188 rfl rfl
theorem ml_RL_45 : Cond.methodLink RL 45 yX12_tells ∈ gw_tbl := gw6 203 rfl rfl
theorem ml_RL_46 : Cond.methodLink RL 46 yX11_throwIn ∈ gw_tbl := gw4 16 rfl rfl
theorem ml_RL_50 : Cond.methodLink RL 50 yX12_throwIn ∈ gw_tbl := gw7 9 rfl rfl
theorem ml_RL_51 : Cond.methodLink RL 51 yX11_use ∈ gw_tbl := gw4 33 rfl rfl
theorem ml_RL_55 : Cond.methodLink RL 55 yX12_use ∈ gw_tbl := gw7 17 rfl rfl
theorem ml_RL_56 : Cond.methodLink RL 56 yX11_set ∈ gw_tbl := gw4 41 rfl rfl
theorem ml_RL_59 : Cond.methodLink RL 59 yX12_set ∈ gw_tbl := gw7 25 rfl rfl
theorem ml_RL_60 : Cond.methodLink RL 60 yX11_beats ∈ gw_tbl := gw4 45 rfl rfl
theorem ml_RL_63 : Cond.methodLink RL 63 yX12_beats ∈ gw_tbl := gw7 29 rfl rfl
theorem ml_RL_64 : Cond.methodLink RL 64 yX11_undo ∈ gw_tbl := gw4 86 rfl rfl
theorem ml_RL_68 : Cond.methodLink RL 68 yX12_undo ∈ gw_tbl := gw7 76 rfl rfl
theorem ml_RL_69 : Cond.methodLink RL 69 yX11_closes ∈ gw_tbl := gw4 103 rfl rfl
theorem ml_RL_72 : Cond.methodLink RL 72 yX12_closes ∈ gw_tbl := gw7 80 rfl rfl
theorem ml_RL_73 : Cond.methodLink RL 73 yX11_lands ∈ gw_tbl := gw4 170 rfl rfl
theorem ml_RL_76 : Cond.methodLink RL 76 yX12_lands ∈ gw_tbl := gw7 123 rfl rfl
theorem ml_RL_77 : Cond.methodLink RL 77 yX11_inHand ∈ gw_tbl := gw4 179 rfl rfl
theorem ml_RL_80 : Cond.methodLink RL 80 yX12_inHand ∈ gw_tbl := gw7 131 rfl rfl
theorem ml_RL_81 : Cond.methodLink RL 81 yX11_clash ∈ gw_tbl := gw4 192 rfl rfl
theorem ml_RL_84 : Cond.methodLink RL 84 yX12_clash ∈ gw_tbl := gw7 139 rfl rfl
theorem ml_RL_85 : Cond.methodLink RL 85 yX11_into ∈ gw_tbl := gw4 212 rfl rfl
theorem ml_RL_88 : Cond.methodLink RL 88 yX12_into ∈ gw_tbl := gw7 143 rfl rfl
theorem ml_RL_89 : Cond.methodLink RL 89 yX11_joined ∈ gw_tbl := gw4 116 rfl rfl
theorem ml_RL_92 : Cond.methodLink RL 92 yX12_joined ∈ gw_tbl := gw7 99 rfl rfl
theorem ml_RL_93 : Cond.methodLink RL 93 yX11_turned ∈ gw_tbl := gw4 121 rfl rfl
theorem ml_RL_96 : Cond.methodLink RL 96 yX12_turned ∈ gw_tbl := gw7 103 rfl rfl
theorem ml_RL_97 : Cond.methodLink RL 97 yX11_span ∈ gw_tbl := gw4 128 rfl rfl
theorem ml_RL_100 : Cond.methodLink RL 100 yX12_span ∈ gw_tbl := gw7 111 rfl rfl
theorem ml_RL_101 : Cond.methodLink RL 101 yX11_orbits ∈ gw_tbl := gw4 136 rfl rfl
theorem ml_RL_104 : Cond.methodLink RL 104 yX12_orbits ∈ gw_tbl := gw7 115 rfl rfl
theorem ml_RL_105 : Cond.methodLink RL 105 yX11_swaps ∈ gw_tbl := gw4 143 rfl rfl
theorem ml_RL_108 : Cond.methodLink RL 108 yX12_swaps ∈ gw_tbl := gw7 119 rfl rfl
theorem ml_RL_109 : Cond.methodLink RL 109 yX11_room ∈ gw_tbl := gw4 208 rfl rfl
theorem ml_RL_112 : Cond.methodLink RL 112 yX12_room ∈ gw_tbl := gw7 167 rfl rfl
theorem ml_RL_113 : Cond.methodLink RL 113 yX11_handover ∈ gw_tbl := gw5 25 rfl rfl
theorem ml_RL_116 : Cond.methodLink RL 116 yX12_handover ∈ gw_tbl := gw7 175 rfl rfl
theorem ml_RL_117 : Cond.methodLink RL 117 yX11_limit ∈ gw_tbl := gw5 29 rfl rfl
theorem ml_RL_120 : Cond.methodLink RL 120 yX12_limit ∈ gw_tbl := gw7 179 rfl rfl
theorem ml_RL_121 : Cond.methodLink RL 121 yX11_busiest ∈ gw_tbl := gw4 239 rfl rfl
theorem ml_RL_124 : Cond.methodLink RL 124 yX12_busiest ∈ gw_tbl := gw7 183 rfl rfl
theorem ml_RL_125 : Cond.methodLink RL 125 yX11_load ∈ gw_tbl := gw5 7 rfl rfl
theorem ml_RL_128 : Cond.methodLink RL 128 yX12_load ∈ gw_tbl := gw7 190 rfl rfl
theorem ml_RL_129 : Cond.methodLink RL 129 yX11_gap ∈ gw_tbl := gw4 204 rfl rfl
theorem ml_RL_132 : Cond.methodLink RL 132 yX12_gap ∈ gw_tbl := gw7 194 rfl rfl
theorem ml_RL_133 : Cond.methodLink RL 133 yX11_order ∈ gw_tbl := gw5 21 rfl rfl
theorem ml_RL_136 : Cond.methodLink RL 136 yX12_order ∈ gw_tbl := gw7 198 rfl rfl
theorem ml_RL_137 : Cond.methodLink RL 137 yX11_ways ∈ gw_tbl := gw4 151 rfl rfl
theorem ml_RL_141 : Cond.methodLink RL 141 yX12_ways ∈ gw_tbl := gw7 202 rfl rfl
theorem ml_RL_142 : Cond.methodLink RL 142 yX11_light ∈ gw_tbl := gw5 37 rfl rfl
theorem ml_RL_145 : Cond.methodLink RL 145 yX12_light ∈ gw_tbl := gw7 206 rfl rfl
theorem ml_RL_146 : Cond.methodLink RL 146 yX11_rule ∈ gw_tbl := gw5 11 rfl rfl
theorem ml_RL_149 : Cond.methodLink RL 149 yX12_rule ∈ gw_tbl := gw7 210 rfl rfl
theorem ml_RL_150 : Cond.methodLink RL 150 yX11_down ∈ gw_tbl := gw5 33 rfl rfl
theorem ml_RL_153 : Cond.methodLink RL 153 yX12_down ∈ gw_tbl := gw7 215 rfl rfl
theorem ml_RL_154 : Cond.methodLink RL 154 yX11_then ∈ gw_tbl := gw5 41 rfl rfl
theorem ml_RL_157 : Cond.methodLink RL 157 yX12_then ∈ gw_tbl := gw7 219 rfl rfl
theorem ml_RL_158 : Cond.methodLink RL 158 yX11_year ∈ gw_tbl := gw5 45 rfl rfl
theorem ml_RL_161 : Cond.methodLink RL 161 yX12_year ∈ gw_tbl := gw7 223 rfl rfl
theorem ml_RL_162 : Cond.methodLink RL 162 yX11_tell ∈ gw_tbl := gw5 49 rfl rfl
theorem ml_RL_166 : Cond.methodLink RL 166 yX12_tell ∈ gw_tbl := gw7 227 rfl rfl
theorem ml_RL_167 : Cond.methodLink RL 167 yX11_forget ∈ gw_tbl := gw5 57 rfl rfl
theorem ml_RL_170 : Cond.methodLink RL 170 yX12_forget ∈ gw_tbl := gw7 231 rfl rfl
theorem ml_RL_171 : Cond.methodLink RL 171 yX11_glitters ∈ gw_tbl := gw5 61 rfl rfl
theorem ml_RL_174 : Cond.methodLink RL 174 yX12_glitters ∈ gw_tbl := gw7 235 rfl rfl
theorem ml_RL_175 : Cond.methodLink RL 175 yX11_watch ∈ gw_tbl := gw5 70 rfl rfl
theorem ml_RL_178 : Cond.methodLink RL 178 yX12_watch ∈ gw_tbl := gw8 3 rfl rfl
theorem ml_RL_179 : Cond.methodLink RL 179 yX11_hold ∈ gw_tbl := gw4 94 rfl rfl
theorem ml_RL_182 : Cond.methodLink RL 182 yX12_hold ∈ gw_tbl := gw8 7 rfl rfl
theorem ml_RL_183 : Cond.methodLink RL 183 yX11_restore ∈ gw_tbl := gw4 99 rfl rfl
theorem ml_RL_186 : Cond.methodLink RL 186 yX12_restore ∈ gw_tbl := gw8 11 rfl rfl
theorem ml_RL_187 : Cond.methodLink RL 187 yX11_count ∈ gw_tbl := gw3 235 rfl rfl
theorem ml_RL_190 : Cond.methodLink RL 190 yX12_count ∈ gw_tbl := gw8 15 rfl rfl
theorem ml_RX12_140 : Cond.methodLink RX12 140 yX12_plain ∈ gw_tbl := gw5 81 rfl rfl
theorem ml_RX12_144 : Cond.methodLink RX12 144 yX12_word ∈ gw_tbl := gw5 85 rfl rfl
theorem ml_RX12_148 : Cond.methodLink RX12 148 yX12_begins ∈ gw_tbl := gw5 92 rfl rfl
theorem ml_RX12_151 : Cond.methodLink RX12 151 yX12_keepsRow ∈ gw_tbl := gw5 96 rfl rfl
theorem ml_RX12_157 : Cond.methodLink RX12 157 yX12_put ∈ gw_tbl := gw6 62 rfl rfl
theorem ml_RX12_165 : Cond.methodLink RX12 165 yX12_appends ∈ gw_tbl := gw5 88 rfl rfl
theorem ml_RX12_172 : Cond.methodLink RX12 172 yX12_byteAt ∈ gw_tbl := gw6 78 rfl rfl
theorem ml_RX12_176 : Cond.methodLink RX12 176 yX12_token ∈ gw_tbl := gw6 82 rfl rfl
theorem ml_RX12_180 : Cond.methodLink RX12 180 yX12_isLetter ∈ gw_tbl := gw6 86 rfl rfl
theorem ml_RX12_184 : Cond.methodLink RX12 184 yX12_isDigit ∈ gw_tbl := gw6 89 rfl rfl
theorem ml_RX12_187 : Cond.methodLink RX12 187 yX12_sign ∈ gw_tbl := gw6 92 rfl rfl
theorem ml_RX12_206 : Cond.methodLink RX12 206 yX12_fail ∈ gw_tbl := gw6 108 rfl rfl
theorem ml_RX12_209 : Cond.methodLink RX12 209 yX12_is ∈ gw_tbl := gw6 96 rfl rfl
theorem ml_RX12_212 : Cond.methodLink RX12 212 yX12_goesOn ∈ gw_tbl := gw6 112 rfl rfl
theorem ml_RX12_215 : Cond.methodLink RX12 215 yX12_cut ∈ gw_tbl := gw6 74 rfl rfl
theorem ml_RX12_236 : Cond.methodLink RX12 236 yX12_tellOne ∈ gw_tbl := gw6 100 rfl rfl
theorem ml_RX12_245 : Cond.methodLink RX12 245 yX12_bounded ∈ gw_tbl := gw6 132 rfl rfl
theorem ml_RX12_249 : Cond.methodLink RX12 249 yX12_must ∈ gw_tbl := gw6 124 rfl rfl
theorem ml_RX12_252 : Cond.methodLink RX12 252 yX12_roomFor ∈ gw_tbl := gw6 104 rfl rfl
theorem ml_RX12_256 : Cond.methodLink RX12 256 yX12_tellThing ∈ gw_tbl := gw6 116 rfl rfl
theorem ml_RX12_259 : Cond.methodLink RX12 259 yX12_tellPattern ∈ gw_tbl := gw6 140 rfl rfl
theorem ml_RX12_262 : Cond.methodLink RX12 262 yX12_toldInt ∈ gw_tbl := gw6 144 rfl rfl
theorem ml_RX12_265 : Cond.methodLink RX12 265 yX12_tellLaw ∈ gw_tbl := gw6 148 rfl rfl
theorem ml_RX12_268 : Cond.methodLink RX12 268 yX12_wrong ∈ gw_tbl := gw6 128 rfl rfl
theorem ml_RX12_271 : Cond.methodLink RX12 271 yX12_named ∈ gw_tbl := gw6 120 rfl rfl
theorem ml_RX12_275 : Cond.methodLink RX12 275 yX12_ends ∈ gw_tbl := gw6 136 rfl rfl
theorem ml_RX12_278 : Cond.methodLink RX12 278 yX12_expression ∈ gw_tbl := gw6 152 rfl rfl
theorem ml_RX12_281 : Cond.methodLink RX12 281 yX12_term ∈ gw_tbl := gw6 168 rfl rfl
theorem ml_RX12_287 : Cond.methodLink RX12 287 yX12_emit ∈ gw_tbl := gw6 160 rfl rfl
theorem ml_RX12_290 : Cond.methodLink RX12 290 yX12_unit ∈ gw_tbl := gw6 156 rfl rfl
theorem ml_RX12_293 : Cond.methodLink RX12 293 yX12_comesOut ∈ gw_tbl := gw6 164 rfl rfl
theorem ml_RX12_301 : Cond.methodLink RX12 301 yX12_in ∈ gw_tbl := gw6 184 rfl rfl
theorem ml_RX12_311 : Cond.methodLink RX12 311 yX12_copies ∈ gw_tbl := gw6 207 rfl rfl
theorem ml_RX12_315 : Cond.methodLink RX12 315 yX12_mixed ∈ gw_tbl := gw7 68 rfl rfl
theorem ml_RX12_318 : Cond.methodLink RX12 318 yX12_lengthOf ∈ gw_tbl := gw6 195 rfl rfl
theorem ml_RX12_321 : Cond.methodLink RX12 321 yX12_heightAt ∈ gw_tbl := gw6 199 rfl rfl
theorem ml_RX12_324 : Cond.methodLink RX12 324 yX12_doesLand ∈ gw_tbl := gw7 48 rfl rfl
theorem ml_RX12_328 : Cond.methodLink RX12 328 yX12_termOf ∈ gw_tbl := gw6 230 rfl rfl
theorem ml_RX12_331 : Cond.methodLink RX12 331 yX12_looksAt ∈ gw_tbl := gw6 222 rfl rfl
theorem ml_RX12_335 : Cond.methodLink RX12 335 yX12_lawTells ∈ gw_tbl := gw6 226 rfl rfl
theorem ml_RX12_338 : Cond.methodLink RX12 338 yX12_held ∈ gw_tbl := gw6 234 rfl rfl
theorem ml_RX12_347 : Cond.methodLink RX12 347 yX12_heightNow ∈ gw_tbl := gw7 60 rfl rfl
theorem ml_RX12_350 : Cond.methodLink RX12 350 yX12_thingsSo ∈ gw_tbl := gw6 211 rfl rfl
theorem ml_RX12_353 : Cond.methodLink RX12 353 yX12_bits ∈ gw_tbl := gw6 215 rfl rfl
theorem ml_RX12_356 : Cond.methodLink RX12 356 yX12_tiresBy ∈ gw_tbl := gw6 218 rfl rfl
theorem ml_RX12_359 : Cond.methodLink RX12 359 yX12_paysOf ∈ gw_tbl := gw7 5 rfl rfl
theorem ml_RX12_362 : Cond.methodLink RX12 362 yX12_forceOf ∈ gw_tbl := gw7 1 rfl rfl
theorem ml_RX12_368 : Cond.methodLink RX12 368 yX12_lotNow ∈ gw_tbl := gw7 64 rfl rfl
theorem ml_RX12_371 : Cond.methodLink RX12 371 yX12_dropsBy ∈ gw_tbl := gw6 237 rfl rfl
theorem ml_RX12_374 : Cond.methodLink RX12 374 yX12_isThrown ∈ gw_tbl := gw7 72 rfl rfl
theorem ml_RX12_378 : Cond.methodLink RX12 378 yX12_catchesNow ∈ gw_tbl := gw7 44 rfl rfl
theorem ml_RX12_381 : Cond.methodLink RX12 381 yX12_dropsOthers ∈ gw_tbl := gw7 52 rfl rfl
theorem ml_RX12_384 : Cond.methodLink RX12 384 yX12_catches ∈ gw_tbl := gw7 56 rfl rfl
theorem ml_RX12_387 : Cond.methodLink RX12 387 yX12_beatGoes ∈ gw_tbl := gw7 40 rfl rfl
theorem ml_RX12_390 : Cond.methodLink RX12 390 yX12_isThing ∈ gw_tbl := gw6 180 rfl rfl
theorem ml_RX12_393 : Cond.methodLink RX12 393 yX12_isPattern ∈ gw_tbl := gw6 191 rfl rfl
theorem ml_RX12_396 : Cond.methodLink RX12 396 yX12_records ∈ gw_tbl := gw7 13 rfl rfl
theorem ml_RX12_399 : Cond.methodLink RX12 399 yX12_uses ∈ gw_tbl := gw7 21 rfl rfl
theorem ml_RX12_402 : Cond.methodLink RX12 402 yX12_isLong ∈ gw_tbl := gw7 33 rfl rfl
theorem ml_RX12_405 : Cond.methodLink RX12 405 yX12_goes ∈ gw_tbl := gw7 36 rfl rfl
theorem ml_RX12_411 : Cond.methodLink RX12 411 yX12_takesPattern ∈ gw_tbl := gw7 88 rfl rfl
theorem ml_RX12_414 : Cond.methodLink RX12 414 yX12_keeps ∈ gw_tbl := gw7 92 rfl rfl
theorem ml_RX12_417 : Cond.methodLink RX12 417 yX12_keepsOf ∈ gw_tbl := gw7 84 rfl rfl
theorem ml_RX12_420 : Cond.methodLink RX12 420 yX12_told ∈ gw_tbl := gw7 96 rfl rfl
theorem ml_RX12_423 : Cond.methodLink RX12 423 yX12_isTurned ∈ gw_tbl := gw7 107 rfl rfl
theorem ml_RX12_426 : Cond.methodLink RX12 426 yX12_landsAt ∈ gw_tbl := gw7 127 rfl rfl
theorem ml_RX12_429 : Cond.methodLink RX12 429 yX12_copiesStill ∈ gw_tbl := gw7 135 rfl rfl
theorem ml_RX12_432 : Cond.methodLink RX12 432 yX12_nextOf ∈ gw_tbl := gw7 156 rfl rfl
theorem ml_RX12_435 : Cond.methodLink RX12 435 yX12_lands ∈ gw_tbl := gw7 147 rfl rfl
theorem ml_RX12_438 : Cond.methodLink RX12 438 yX12_aimOf ∈ gw_tbl := gw7 148 rfl rfl
theorem ml_RX12_441 : Cond.methodLink RX12 441 yX12_fillsFar ∈ gw_tbl := gw7 152 rfl rfl
theorem ml_RX12_444 : Cond.methodLink RX12 444 yX12_areTwoSoon ∈ gw_tbl := gw7 159 rfl rfl
theorem ml_RX12_448 : Cond.methodLink RX12 448 yX12_firstOf ∈ gw_tbl := gw7 163 rfl rfl
theorem ml_RX12_451 : Cond.methodLink RX12 451 yX12_hasRoom ∈ gw_tbl := gw7 171 rfl rfl
theorem ml_RX12_454 : Cond.methodLink RX12 454 yX12_isSome ∈ gw_tbl := gw7 187 rfl rfl
theorem ml_RX12_458 : Cond.methodLink RX12 458 yX12_glitterBits ∈ gw_tbl := gw7 239 rfl rfl
theorem ml_RX12_461 : Cond.methodLink RX12 461 yX12_weightsOf ∈ gw_tbl := gw8 19 rfl rfl
theorem ml_RJ0_335 : Cond.methodLink RJ0 335 yJ0_coder_7d493 ∈ gw_tbl := gw2 220 rfl rfl
theorem ml_RJ0_492 : Cond.methodLink RJ0 492 yJ0_isLatin1_aae02 ∈ gw_tbl := gw2 230 rfl rfl
theorem ml_RJ0_495 : Cond.methodLink RJ0 495 yJ1_charAt_3b067 ∈ gw_tbl := gw2 234 rfl rfl
theorem ml_RJ0_505 : Cond.methodLink RJ0 505 yJ0_length_8abf5 ∈ gw_tbl := gw3 41 rfl rfl
theorem ml_RJ0_633 : Cond.methodLink RJ0 633 yJ0_indexOf_7cf53 ∈ gw_tbl := gw3 37 rfl rfl
theorem ml_RJ0_637 : Cond.methodLink RJ0 637 yJ1_indexOf_4cfef ∈ gw_tbl := gw3 42 rfl rfl
theorem ml_RJ0_1059 : Cond.methodLink RJ0 1059 yJ3_checkIndex_8e157 ∈ gw_tbl := gw3 2 rfl rfl
theorem ml_RJ1_9 : Cond.methodLink RJ1 9 yJ0_checkIndex_df160 ∈ gw_tbl := gw2 237 rfl rfl
theorem ml_RJ1_88 : Cond.methodLink RJ1 88 yJ1_canEncode_9a6ad ∈ gw_tbl := gw3 45 rfl rfl
theorem ml_RJ1_95 : Cond.methodLink RJ1 95 yJ1_indexOfChar_4cfef ∈ gw_tbl := gw3 54 rfl rfl
theorem ko_RX11_316 : Cond.constant RX11 316 (-100000) ∈ gw_tbl := gw5 15 rfl rfl
theorem ko_RX4_129 : Cond.constant RX4 129 (1103515245) ∈ gw_tbl := gw4 83 rfl rfl
theorem ko_RX9_59 : Cond.constantLong RX9 59 (27) ∈ gw_tbl := gw2 210 rfl rfl
theorem ko_RX9_65 : Cond.constantLong RX9 65 (10) ∈ gw_tbl := gw3 31 rfl rfl
theorem ko_RX12_163 : Cond.constantLong RX12 163 (27) ∈ gw_tbl := gw5 91 rfl rfl
theorem ko_RX12_314 : Cond.constant RX12 314 (1103515245) ∈ gw_tbl := gw7 71 rfl rfl
theorem ko_RX12_457 : Cond.constant RX12 457 (-100000) ∈ gw_tbl := gw7 214 rfl rfl
theorem ko_RJ6_265 : Cond.constant RJ6 265 (1431655765) ∈ gw_tbl := gw3 206 rfl rfl
theorem ko_RJ6_266 : Cond.constant RJ6 266 (858993459) ∈ gw_tbl := gw3 207 rfl rfl
theorem ko_RJ6_267 : Cond.constant RJ6 267 (252645135) ∈ gw_tbl := gw3 208 rfl rfl
theorem mm_max : Cond.static Lib.Math.max.name ∈ gw_tbl ∧ Cond.initialized "java/lang/Math" ∈ gw_tbl ∧ Cond.code Lib.Math.max.name Lib.Math.max.code 2 (some .int) ∈ gw_tbl := ⟨gw3 49 rfl rfl, gw1 17 rfl rfl, gw3 50 rfl rfl⟩
theorem mm_min : Cond.static Lib.Math.min.name ∈ gw_tbl ∧ Cond.initialized "java/lang/Math" ∈ gw_tbl ∧ Cond.code Lib.Math.min.name Lib.Math.min.code 2 (some .int) ∈ gw_tbl := ⟨gw3 52 rfl rfl, gw1 17 rfl rfl, gw3 53 rfl rfl⟩
theorem ac_w : Cond.native arraycopyName ∈ gw_tbl ∧ Cond.static arraycopyName ∈ gw_tbl ∧ Cond.initialized "java/lang/System" ∈ gw_tbl := ⟨gw3 158 rfl rfl, gw3 157 rfl rfl, gw1 20 rfl rfl⟩
theorem ml_RX11_237 : Cond.methodLink RX11 237 arraycopyName ∈ gw_tbl := gw4 120 rfl rfl
theorem mm_RX11_335 : Cond.methodLink RX11 335 Lib.Math.max.name ∈ gw_tbl := gw5 74 rfl rfl
theorem ml_RX0_43 : Cond.methodLink RX0 43 arraycopyName ∈ gw_tbl := gw3 156 rfl rfl
theorem mm_RX3_9 : Cond.methodLink RX3 9 Lib.Math.max.name ∈ gw_tbl := gw4 135 rfl rfl
theorem mm_RX4_51 : Cond.methodLink RX4 51 Lib.Math.max.name ∈ gw_tbl := gw3 234 rfl rfl
theorem mm_RX4_95 : Cond.methodLink RX4 95 Lib.Math.min.name ∈ gw_tbl := gw3 233 rfl rfl
theorem mm_RX5_29 : Cond.methodLink RX5 29 Lib.Math.min.name ∈ gw_tbl := gw4 28 rfl rfl
theorem mm_RX8_16 : Cond.methodLink RX8 16 Lib.Math.min.name ∈ gw_tbl := gw4 159 rfl rfl
theorem mm_RX8_22 : Cond.methodLink RX8 22 Lib.Math.max.name ∈ gw_tbl := gw4 160 rfl rfl
theorem ml_RX8_42 : Cond.methodLink RX8 42 arraycopyName ∈ gw_tbl := gw4 169 rfl rfl
theorem mm_RJ1_38 : Cond.methodLink RJ1 38 Lib.Math.min.name ∈ gw_tbl := gw3 51 rfl rfl
theorem mm_RJ1_92 : Cond.methodLink RJ1 92 Lib.Math.max.name ∈ gw_tbl := gw3 48 rfl rfl

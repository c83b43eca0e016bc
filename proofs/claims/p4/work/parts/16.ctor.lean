def tcl (L : List Nat) (u : (Nat → Nat) × (Nat → ClassId)) : List (ClassId × FieldType) := L.map (fun i => (u.2 i, aty (kd i)))
abbrev UU : Type := (Nat → Nat) × (Nat → ClassId)
theorem oi_w : Cond.instanceMethod Lib.objectInit ∈ gw_tbl ∧ Cond.code Lib.objectInit ⟨#[0xb1]⟩ 1 none ∈ gw_tbl := ⟨gw1 29 (by decide +kernel) rfl, gw1 30 (by decide +kernel) rfl⟩
theorem aw_int : Cond.arrayClass .int ∈ gw_tbl := gw1 66 (by decide +kernel) rfl
theorem aw_long : Cond.arrayClass .long ∈ gw_tbl := gw1 67 (by decide +kernel) rfl
theorem aw_boolean : Cond.arrayClass .boolean ∈ gw_tbl := gw1 229 (by decide +kernel) rfl
theorem aw_byte : Cond.arrayClass .byte ∈ gw_tbl := gw3 163 (by decide +kernel) rfl
theorem oi_0 : Cond.methodLink RX0 3 Lib.objectInit ∈ gw_tbl := gw1 143 (by decide +kernel) rfl
theorem mn_0 : MN yX0_init cX0_init 1 0 := ⟨gw1 141 (by decide +kernel) rfl, gw1 7 (by decide +kernel) rfl, gw1 142 rfl rfl, rfl, ⟨by decide, by decide, by decide +kernel⟩⟩
theorem fw_0_9 : FW RX0 9 0 1 (.array .int) true := ⟨RX0, TX0, 12, tyX0, ⟨rfl, by decide, gw1 147 (by decide +kernel) rfl, uw_0⟩, tyX0_ok, nmX0, rfl, rfl, by decide +kernel⟩
theorem fw_0_15 : FW RX0 15 0 2 (.array .int) true := ⟨RX0, TX0, 12, tyX0, ⟨rfl, by decide, gw1 150 (by decide +kernel) rfl, uw_0⟩, tyX0_ok, nmX0, rfl, rfl, by decide +kernel⟩
theorem fw_0_18 : FW RX0 18 0 3 (.array .int) true := ⟨RX0, TX0, 12, tyX0, ⟨rfl, by decide, gw1 153 (by decide +kernel) rfl, uw_0⟩, tyX0_ok, nmX0, rfl, rfl, by decide +kernel⟩
theorem fw_0_21 : FW RX0 21 0 9 .int false := ⟨RX0, TX0, 12, tyX0, ⟨rfl, by decide, gw1 170 (by decide +kernel) rfl, uw_0⟩, tyX0_ok, nmX0, rfl, rfl, by decide +kernel⟩
theorem fw_0_25 : FW RX0 25 0 11 .int false := ⟨RX0, TX0, 12, tyX0, ⟨rfl, by decide, gw1 173 (by decide +kernel) rfl, uw_0⟩, tyX0_ok, nmX0, rfl, rfl, by decide +kernel⟩
theorem oi_1 : Cond.methodLink RX1 3 Lib.objectInit ∈ gw_tbl := gw1 112 (by decide +kernel) rfl
theorem mn_1 : MN yX1_init cX1_init 1 0 := ⟨gw1 110 (by decide +kernel) rfl, gw1 5 (by decide +kernel) rfl, gw1 111 rfl rfl, rfl, ⟨by decide, by decide, by decide +kernel⟩⟩
theorem fw_1_9 : FW RX1 9 1 0 (.array .int) true := ⟨RX1, TX1, 4, tyX1, ⟨rfl, by decide, gw1 113 (by decide +kernel) rfl, uw_1⟩, tyX1_ok, nmX1, rfl, rfl, by decide +kernel⟩
theorem fw_1_15 : FW RX1 15 1 1 (.array .int) true := ⟨RX1, TX1, 4, tyX1, ⟨rfl, by decide, gw1 115 (by decide +kernel) rfl, uw_1⟩, tyX1_ok, nmX1, rfl, rfl, by decide +kernel⟩
theorem oi_2 : Cond.methodLink RX2 3 Lib.objectInit ∈ gw_tbl := gw1 217 (by decide +kernel) rfl
theorem mn_2 : MN yX2_init cX2_init 1 0 := ⟨gw1 215 (by decide +kernel) rfl, gw1 8 (by decide +kernel) rfl, gw1 216 rfl rfl, rfl, ⟨by decide, by decide, by decide +kernel⟩⟩
theorem fw_2_9 : FW RX2 9 2 0 (.array .int) true := ⟨RX2, TX2, 3, tyX2, ⟨rfl, by decide, gw1 218 (by decide +kernel) rfl, uw_2⟩, tyX2_ok, nmX2, rfl, rfl, by decide +kernel⟩
theorem fw_2_15 : FW RX2 15 2 1 (.array .boolean) true := ⟨RX2, TX2, 3, tyX2, ⟨rfl, by decide, gw1 219 (by decide +kernel) rfl, uw_2⟩, tyX2_ok, nmX2, rfl, rfl, by decide +kernel⟩
theorem oi_3 : Cond.methodLink RX4 3 Lib.objectInit ∈ gw_tbl := gw1 106 (by decide +kernel) rfl
theorem mn_3 : MN yX4_init cX4_init 1 0 := ⟨gw1 104 (by decide +kernel) rfl, gw1 4 (by decide +kernel) rfl, gw1 105 rfl rfl, rfl, ⟨by decide, by decide, by decide +kernel⟩⟩
theorem fw_3_12 : FW RX4 12 3 0 (.object "StateJuggler$Asked") true := ⟨RX4, TX4, 1, tyX4, ⟨rfl, by decide, gw1 127 (by decide +kernel) rfl, uw_3⟩, tyX4_ok, nmX4, rfl, rfl, by decide +kernel⟩
set_option maxRecDepth 20000 in
theorem nc_3_9 : NC RX4 9 1 4 [.null, .null, .int 0, .int 0] := ⟨RX1, TX1, tyX1, rfl, uw_1, tyX1_ok, gw1 107 (by decide +kernel) rfl, gw1 108 (by decide +kernel) rfl, gw1 5 (by decide +kernel) rfl, by decide +kernel⟩
theorem oi_4 : Cond.methodLink RX5 3 Lib.objectInit ∈ gw_tbl := gw1 136 (by decide +kernel) rfl
theorem mn_4 : MN yX5_init cX5_init 2 0 := ⟨gw1 134 (by decide +kernel) rfl, gw1 6 (by decide +kernel) rfl, gw1 135 rfl rfl, rfl, ⟨by decide, by decide, by decide +kernel⟩⟩
theorem fw_4_11 : FW RX5 11 4 0 (.array (.object "StateJuggler$Air")) true := ⟨RX5, TX5, 3, tyX5, ⟨rfl, by decide, gw1 201 (by decide +kernel) rfl, uw_4⟩, tyX5_ok, nmX5, rfl, rfl, by decide +kernel⟩
set_option maxRecDepth 20000 in
theorem nc_4_9 : NC RX5 9 0 12 [.int 0, .null, .null, .null, .int 0, .int 0, .int 0, .int 0, .int 0, .int 0, .int 0, .int 0] := ⟨RX0, TX0, tyX0, rfl, uw_0, tyX0_ok, gw1 137 (by decide +kernel) rfl, gw1 139 (by decide +kernel) rfl, gw1 7 (by decide +kernel) rfl, by decide +kernel⟩
theorem oi_5 : Cond.methodLink RX6 3 Lib.objectInit ∈ gw_tbl := gw1 36 (by decide +kernel) rfl
theorem mn_5 : MN yX6_init cX6_init 1 0 := ⟨gw1 34 (by decide +kernel) rfl, gw1 2 (by decide +kernel) rfl, gw1 35 rfl rfl, rfl, ⟨by decide, by decide, by decide +kernel⟩⟩
theorem fw_5_12 : FW RX6 12 5 0 (.object "StateJuggler$Tape") true := ⟨RX6, TX6, 10, tyX6, ⟨rfl, by decide, gw1 68 (by decide +kernel) rfl, uw_5⟩, tyX6_ok, nmX6, rfl, rfl, by decide +kernel⟩
theorem fw_5_18 : FW RX6 18 5 1 .int false := ⟨RX6, TX6, 10, tyX6, ⟨rfl, by decide, gw1 70 (by decide +kernel) rfl, uw_5⟩, tyX6_ok, nmX6, rfl, rfl, by decide +kernel⟩
theorem fw_5_22 : FW RX6 22 5 8 (.array .long) true := ⟨RX6, TX6, 10, tyX6, ⟨rfl, by decide, gw1 78 (by decide +kernel) rfl, uw_5⟩, tyX6_ok, nmX6, rfl, rfl, by decide +kernel⟩
set_option maxRecDepth 20000 in
theorem nc_5_9 : NC RX6 9 8 6 [.null, .int 0, .null, .null, .null, .int 0] := ⟨RX9, TX9, tyX9, rfl, uw_8, tyX9_ok, gw1 37 (by decide +kernel) rfl, gw1 38 (by decide +kernel) rfl, gw1 3 (by decide +kernel) rfl, by decide +kernel⟩
theorem oi_6 : Cond.methodLink RX7 3 Lib.objectInit ∈ gw_tbl := gw1 235 (by decide +kernel) rfl
theorem mn_6 : MN yX7_init cX7_init 1 0 := ⟨gw1 233 (by decide +kernel) rfl, gw1 9 (by decide +kernel) rfl, gw1 234 rfl rfl, rfl, ⟨by decide, by decide, by decide +kernel⟩⟩
theorem fw_6_11 : FW RX7 11 6 0 (.array .int) true := ⟨RX7, TX7, 6, tyX7, ⟨rfl, by decide, gw1 236 (by decide +kernel) rfl, uw_6⟩, tyX7_ok, nmX7, rfl, rfl, by decide +kernel⟩
theorem fw_6_15 : FW RX7 15 6 2 (.array .int) true := ⟨RX7, TX7, 6, tyX7, ⟨rfl, by decide, gw1 238 (by decide +kernel) rfl, uw_6⟩, tyX7_ok, nmX7, rfl, rfl, by decide +kernel⟩
theorem fw_6_18 : FW RX7 18 6 3 (.array .int) true := ⟨RX7, TX7, 6, tyX7, ⟨rfl, by decide, gw1 239 (by decide +kernel) rfl, uw_6⟩, tyX7_ok, nmX7, rfl, rfl, by decide +kernel⟩
theorem fw_6_21 : FW RX7 21 6 4 (.array .int) true := ⟨RX7, TX7, 6, tyX7, ⟨rfl, by decide, gw2 0 (by decide +kernel) rfl, uw_6⟩, tyX7_ok, nmX7, rfl, rfl, by decide +kernel⟩
theorem oi_7 : Cond.methodLink RX8 1 Lib.objectInit ∈ gw_tbl := gw2 22 (by decide +kernel) rfl
theorem mn_7 : MN yX8_init cX8_init 1 0 := ⟨gw2 20 (by decide +kernel) rfl, gw1 10 (by decide +kernel) rfl, gw2 21 rfl rfl, rfl, ⟨by decide, by decide, by decide +kernel⟩⟩
theorem fw_7_9 : FW RX8 9 7 0 (.array .int) true := ⟨RX8, TX8, 5, tyX8, ⟨rfl, by decide, gw2 23 (by decide +kernel) rfl, uw_7⟩, tyX8_ok, nmX8, rfl, rfl, by decide +kernel⟩
theorem fw_7_13 : FW RX8 13 7 1 (.array .int) true := ⟨RX8, TX8, 5, tyX8, ⟨rfl, by decide, gw2 24 (by decide +kernel) rfl, uw_7⟩, tyX8_ok, nmX8, rfl, rfl, by decide +kernel⟩
theorem oi_8 : Cond.methodLink RX9 3 Lib.objectInit ∈ gw_tbl := gw1 42 (by decide +kernel) rfl
theorem mn_8 : MN yX9_init cX9_init 1 0 := ⟨gw1 40 (by decide +kernel) rfl, gw1 3 (by decide +kernel) rfl, gw1 41 rfl rfl, rfl, ⟨by decide, by decide, by decide +kernel⟩⟩
theorem fw_8_9 : FW RX9 9 8 0 (.array .int) true := ⟨RX9, TX9, 6, tyX9, ⟨rfl, by decide, gw1 43 (by decide +kernel) rfl, uw_8⟩, tyX9_ok, nmX9, rfl, rfl, by decide +kernel⟩
theorem fw_8_15 : FW RX9 15 8 2 (.array .int) true := ⟨RX9, TX9, 6, tyX9, ⟨rfl, by decide, gw1 46 (by decide +kernel) rfl, uw_8⟩, tyX9_ok, nmX9, rfl, rfl, by decide +kernel⟩
theorem fw_8_18 : FW RX9 18 8 3 (.array .int) true := ⟨RX9, TX9, 6, tyX9, ⟨rfl, by decide, gw1 48 (by decide +kernel) rfl, uw_8⟩, tyX9_ok, nmX9, rfl, rfl, by decide +kernel⟩
theorem fw_8_21 : FW RX9 21 8 4 (.array .long) true := ⟨RX9, TX9, 6, tyX9, ⟨rfl, by decide, gw1 50 (by decide +kernel) rfl, uw_8⟩, tyX9_ok, nmX9, rfl, rfl, by decide +kernel⟩
theorem oi_9 : Cond.methodLink RX10 3 Lib.objectInit ∈ gw_tbl := gw2 48 (by decide +kernel) rfl
theorem mn_9 : MN yX10_init cX10_init 1 0 := ⟨gw2 46 (by decide +kernel) rfl, gw1 11 (by decide +kernel) rfl, gw2 47 rfl rfl, rfl, ⟨by decide, by decide, by decide +kernel⟩⟩
theorem fw_9_9 : FW RX10 9 9 1 (.array .int) true := ⟨RX10, TX10, 12, tyX10, ⟨rfl, by decide, gw2 63 (by decide +kernel) rfl, uw_9⟩, tyX10_ok, nmX10, rfl, rfl, by decide +kernel⟩
theorem fw_9_15 : FW RX10 15 9 2 (.array .int) true := ⟨RX10, TX10, 12, tyX10, ⟨rfl, by decide, gw2 67 (by decide +kernel) rfl, uw_9⟩, tyX10_ok, nmX10, rfl, rfl, by decide +kernel⟩
theorem fw_9_18 : FW RX10 18 9 3 (.array .int) true := ⟨RX10, TX10, 12, tyX10, ⟨rfl, by decide, gw2 71 (by decide +kernel) rfl, uw_9⟩, tyX10_ok, nmX10, rfl, rfl, by decide +kernel⟩
theorem fw_9_23 : FW RX10 23 9 5 (.array (.array .int)) true := ⟨RX10, TX10, 12, tyX10, ⟨rfl, by decide, gw2 78 (by decide +kernel) rfl, uw_9⟩, tyX10_ok, nmX10, rfl, rfl, by decide +kernel⟩
theorem fw_9_26 : FW RX10 26 9 6 (.array .int) true := ⟨RX10, TX10, 12, tyX10, ⟨rfl, by decide, gw2 82 (by decide +kernel) rfl, uw_9⟩, tyX10_ok, nmX10, rfl, rfl, by decide +kernel⟩
theorem fw_9_29 : FW RX10 29 9 7 (.array .int) true := ⟨RX10, TX10, 12, tyX10, ⟨rfl, by decide, gw2 86 (by decide +kernel) rfl, uw_9⟩, tyX10_ok, nmX10, rfl, rfl, by decide +kernel⟩
theorem fw_9_32 : FW RX10 32 9 9 (.array .int) true := ⟨RX10, TX10, 12, tyX10, ⟨rfl, by decide, gw2 91 (by decide +kernel) rfl, uw_9⟩, tyX10_ok, nmX10, rfl, rfl, by decide +kernel⟩
theorem oi_10 : Cond.methodLink RX11 1 Lib.objectInit ∈ gw_tbl := gw1 28 (by decide +kernel) rfl
theorem mn_10 : MN yX11_init cX11_init 2 0 := ⟨gw1 26 (by decide +kernel) rfl, gw1 1 (by decide +kernel) rfl, gw1 27 rfl rfl, rfl, ⟨by decide, by decide, by decide +kernel⟩⟩
theorem fw_10_10 : FW RX11 10 10 0 (.object "StateJuggler$Reader") true := ⟨RX11, TX11, 15, tyX11, ⟨rfl, by decide, gw2 125 (by decide +kernel) rfl, uw_10⟩, tyX11_ok, nmX11, rfl, rfl, by decide +kernel⟩
theorem fw_10_19 : FW RX11 19 10 1 (.object "StateJuggler$Juggler") true := ⟨RX11, TX11, 15, tyX11, ⟨rfl, by decide, gw2 126 (by decide +kernel) rfl, uw_10⟩, tyX11_ok, nmX11, rfl, rfl, by decide +kernel⟩
theorem fw_10_26 : FW RX11 26 10 2 (.object "StateJuggler$Past") true := ⟨RX11, TX11, 15, tyX11, ⟨rfl, by decide, gw2 127 (by decide +kernel) rfl, uw_10⟩, tyX11_ok, nmX11, rfl, rfl, by decide +kernel⟩
theorem fw_10_33 : FW RX11 33 10 3 (.object "StateJuggler$Hearsay") true := ⟨RX11, TX11, 15, tyX11, ⟨rfl, by decide, gw2 128 (by decide +kernel) rfl, uw_10⟩, tyX11_ok, nmX11, rfl, rfl, by decide +kernel⟩
theorem fw_10_40 : FW RX11 40 10 4 (.object "StateJuggler$Route") true := ⟨RX11, TX11, 15, tyX11, ⟨rfl, by decide, gw2 129 (by decide +kernel) rfl, uw_10⟩, tyX11_ok, nmX11, rfl, rfl, by decide +kernel⟩
theorem fw_10_47 : FW RX11 47 10 5 (.object "StateJuggler$Rows") true := ⟨RX11, TX11, 15, tyX11, ⟨rfl, by decide, gw2 130 (by decide +kernel) rfl, uw_10⟩, tyX11_ok, nmX11, rfl, rfl, by decide +kernel⟩
theorem fw_10_54 : FW RX11 54 10 6 (.object "StateJuggler$Air") true := ⟨RX11, TX11, 15, tyX11, ⟨rfl, by decide, gw2 131 (by decide +kernel) rfl, uw_10⟩, tyX11_ok, nmX11, rfl, rfl, by decide +kernel⟩
theorem fw_10_58 : FW RX11 58 10 7 (.object "StateJuggler$Air") true := ⟨RX11, TX11, 15, tyX11, ⟨rfl, by decide, gw2 132 (by decide +kernel) rfl, uw_10⟩, tyX11_ok, nmX11, rfl, rfl, by decide +kernel⟩
theorem fw_10_61 : FW RX11 61 10 8 (.array (.object "StateJuggler$Air")) true := ⟨RX11, TX11, 15, tyX11, ⟨rfl, by decide, gw2 133 (by decide +kernel) rfl, uw_10⟩, tyX11_ok, nmX11, rfl, rfl, by decide +kernel⟩
theorem fw_10_65 : FW RX11 65 10 9 (.array .boolean) true := ⟨RX11, TX11, 15, tyX11, ⟨rfl, by decide, gw2 134 (by decide +kernel) rfl, uw_10⟩, tyX11_ok, nmX11, rfl, rfl, by decide +kernel⟩
theorem fw_10_69 : FW RX11 69 10 10 (.array .int) true := ⟨RX11, TX11, 15, tyX11, ⟨rfl, by decide, gw2 135 (by decide +kernel) rfl, uw_10⟩, tyX11_ok, nmX11, rfl, rfl, by decide +kernel⟩
theorem fw_10_73 : FW RX11 73 10 11 (.array .int) true := ⟨RX11, TX11, 15, tyX11, ⟨rfl, by decide, gw2 136 (by decide +kernel) rfl, uw_10⟩, tyX11_ok, nmX11, rfl, rfl, by decide +kernel⟩
theorem fw_10_76 : FW RX11 76 10 12 (.array .int) true := ⟨RX11, TX11, 15, tyX11, ⟨rfl, by decide, gw2 137 (by decide +kernel) rfl, uw_10⟩, tyX11_ok, nmX11, rfl, rfl, by decide +kernel⟩
theorem fw_10_82 : FW RX11 82 10 13 (.object "StateJuggler$Text") false := ⟨RX11, TX11, 15, tyX11, ⟨rfl, by decide, gw2 138 (by decide +kernel) rfl, uw_10⟩, tyX11_ok, nmX11, rfl, rfl, by decide +kernel⟩
theorem fw_10_86 : FW RX11 86 10 14 (.object "StateJuggler$Text") false := ⟨RX11, TX11, 15, tyX11, ⟨rfl, by decide, gw2 139 (by decide +kernel) rfl, uw_10⟩, tyX11_ok, nmX11, rfl, rfl, by decide +kernel⟩
set_option maxRecDepth 20000 in
theorem nc_10_7 : NC RX11 7 5 10 [.null, .int 0, .int 0, .int 0, .int 0, .int 0, .int 0, .int 0, .null, .int 0] := ⟨RX6, TX6, tyX6, rfl, uw_5, tyX6_ok, gw1 31 (by decide +kernel) rfl, gw1 32 (by decide +kernel) rfl, gw1 2 (by decide +kernel) rfl, by decide +kernel⟩
set_option maxRecDepth 20000 in
theorem nc_10_16 : NC RX11 16 3 1 [.null] := ⟨RX4, TX4, tyX4, rfl, uw_3, tyX4_ok, gw1 101 (by decide +kernel) rfl, gw1 102 (by decide +kernel) rfl, gw1 4 (by decide +kernel) rfl, by decide +kernel⟩
set_option maxRecDepth 20000 in
theorem nc_10_23 : NC RX11 23 4 3 [.null, .int 0, .int 0] := ⟨RX5, TX5, tyX5, rfl, uw_4, tyX5_ok, gw1 131 (by decide +kernel) rfl, gw1 132 (by decide +kernel) rfl, gw1 6 (by decide +kernel) rfl, by decide +kernel⟩
set_option maxRecDepth 20000 in
theorem nc_10_30 : NC RX11 30 2 3 [.null, .null, .int 0] := ⟨RX2, TX2, tyX2, rfl, uw_2, tyX2_ok, gw1 212 (by decide +kernel) rfl, gw1 213 (by decide +kernel) rfl, gw1 8 (by decide +kernel) rfl, by decide +kernel⟩
set_option maxRecDepth 20000 in
theorem nc_10_37 : NC RX11 37 6 6 [.null, .int 0, .null, .null, .null, .int 0] := ⟨RX7, TX7, tyX7, rfl, uw_6, tyX7_ok, gw1 230 (by decide +kernel) rfl, gw1 231 (by decide +kernel) rfl, gw1 9 (by decide +kernel) rfl, by decide +kernel⟩
set_option maxRecDepth 20000 in
theorem nc_10_44 : NC RX11 44 7 5 [.null, .null, .int 0, .int 0, .int 0] := ⟨RX8, TX8, tyX8, rfl, uw_7, tyX8_ok, gw2 17 (by decide +kernel) rfl, gw2 18 (by decide +kernel) rfl, gw1 10 (by decide +kernel) rfl, by decide +kernel⟩
set_option maxRecDepth 20000 in
theorem nc_10_51 : NC RX11 51 0 12 [.int 0, .null, .null, .null, .int 0, .int 0, .int 0, .int 0, .int 0, .int 0, .int 0, .int 0] := ⟨RX0, TX0, tyX0, rfl, uw_0, tyX0_ok, gw2 41 (by decide +kernel) rfl, gw1 139 (by decide +kernel) rfl, gw1 7 (by decide +kernel) rfl, by decide +kernel⟩
set_option maxRecDepth 20000 in
theorem nc_10_79 : NC RX11 79 9 12 [.int 0, .null, .null, .null, .int 0, .null, .null, .null, .int 0, .null, .int 0, .int 0] := ⟨RX10, TX10, tyX10, rfl, uw_9, tyX10_ok, gw2 43 (by decide +kernel) rfl, gw2 44 (by decide +kernel) rfl, gw1 11 (by decide +kernel) rfl, by decide +kernel⟩
theorem oi_11 : Cond.methodLink RX12 7 Lib.objectInit ∈ gw_tbl := gw5 80 (by decide +kernel) rfl
theorem mn_11 : MN yX12_init cX12_init 1 0 := ⟨gw5 78 (by decide +kernel) rfl, gw1 12 (by decide +kernel) rfl, gw5 79 rfl rfl, rfl, ⟨by decide, by decide, by decide +kernel⟩⟩
theorem fw_11_13 : FW RX12 13 11 1 (.array .byte) true := ⟨RX12, TX12, 66, tyX12, ⟨rfl, by decide, gw5 100 (by decide +kernel) rfl, uw_11⟩, tyX12_ok, nmX12, rfl, rfl, by decide +kernel⟩
theorem fw_11_17 : FW RX12 17 11 3 (.array .byte) true := ⟨RX12, TX12, 66, tyX12, ⟨rfl, by decide, gw5 102 (by decide +kernel) rfl, uw_11⟩, tyX12_ok, nmX12, rfl, rfl, by decide +kernel⟩
theorem fw_11_20 : FW RX12 20 11 5 (.array .int) true := ⟨RX12, TX12, 66, tyX12, ⟨rfl, by decide, gw5 104 (by decide +kernel) rfl, uw_11⟩, tyX12_ok, nmX12, rfl, rfl, by decide +kernel⟩
theorem fw_11_24 : FW RX12 24 11 6 (.array .int) true := ⟨RX12, TX12, 66, tyX12, ⟨rfl, by decide, gw5 105 (by decide +kernel) rfl, uw_11⟩, tyX12_ok, nmX12, rfl, rfl, by decide +kernel⟩
theorem fw_11_27 : FW RX12 27 11 7 (.array .int) true := ⟨RX12, TX12, 66, tyX12, ⟨rfl, by decide, gw5 106 (by decide +kernel) rfl, uw_11⟩, tyX12_ok, nmX12, rfl, rfl, by decide +kernel⟩
theorem fw_11_30 : FW RX12 30 11 8 (.array .long) true := ⟨RX12, TX12, 66, tyX12, ⟨rfl, by decide, gw5 107 (by decide +kernel) rfl, uw_11⟩, tyX12_ok, nmX12, rfl, rfl, by decide +kernel⟩
theorem fw_11_34 : FW RX12 34 11 9 (.array .long) true := ⟨RX12, TX12, 66, tyX12, ⟨rfl, by decide, gw5 108 (by decide +kernel) rfl, uw_11⟩, tyX12_ok, nmX12, rfl, rfl, by decide +kernel⟩
theorem fw_11_37 : FW RX12 37 11 17 .int false := ⟨RX12, TX12, 66, tyX12, ⟨rfl, by decide, gw5 116 (by decide +kernel) rfl, uw_11⟩, tyX12_ok, nmX12, rfl, rfl, by decide +kernel⟩
theorem fw_11_40 : FW RX12 40 11 21 (.array .long) true := ⟨RX12, TX12, 66, tyX12, ⟨rfl, by decide, gw5 120 (by decide +kernel) rfl, uw_11⟩, tyX12_ok, nmX12, rfl, rfl, by decide +kernel⟩
theorem fw_11_43 : FW RX12 43 11 22 (.array .int) true := ⟨RX12, TX12, 66, tyX12, ⟨rfl, by decide, gw5 121 (by decide +kernel) rfl, uw_11⟩, tyX12_ok, nmX12, rfl, rfl, by decide +kernel⟩
theorem fw_11_46 : FW RX12 46 11 23 (.array .int) true := ⟨RX12, TX12, 66, tyX12, ⟨rfl, by decide, gw5 122 (by decide +kernel) rfl, uw_11⟩, tyX12_ok, nmX12, rfl, rfl, by decide +kernel⟩
theorem fw_11_49 : FW RX12 49 11 24 (.array .int) true := ⟨RX12, TX12, 66, tyX12, ⟨rfl, by decide, gw5 123 (by decide +kernel) rfl, uw_11⟩, tyX12_ok, nmX12, rfl, rfl, by decide +kernel⟩
theorem fw_11_52 : FW RX12 52 11 25 (.array .int) true := ⟨RX12, TX12, 66, tyX12, ⟨rfl, by decide, gw5 124 (by decide +kernel) rfl, uw_11⟩, tyX12_ok, nmX12, rfl, rfl, by decide +kernel⟩
theorem fw_11_55 : FW RX12 55 11 26 (.array .int) true := ⟨RX12, TX12, 66, tyX12, ⟨rfl, by decide, gw5 125 (by decide +kernel) rfl, uw_11⟩, tyX12_ok, nmX12, rfl, rfl, by decide +kernel⟩
theorem fw_11_58 : FW RX12 58 11 27 (.array .int) true := ⟨RX12, TX12, 66, tyX12, ⟨rfl, by decide, gw5 126 (by decide +kernel) rfl, uw_11⟩, tyX12_ok, nmX12, rfl, rfl, by decide +kernel⟩
theorem fw_11_61 : FW RX12 61 11 28 (.array .int) true := ⟨RX12, TX12, 66, tyX12, ⟨rfl, by decide, gw5 127 (by decide +kernel) rfl, uw_11⟩, tyX12_ok, nmX12, rfl, rfl, by decide +kernel⟩
theorem fw_11_64 : FW RX12 64 11 29 (.array .int) true := ⟨RX12, TX12, 66, tyX12, ⟨rfl, by decide, gw5 128 (by decide +kernel) rfl, uw_11⟩, tyX12_ok, nmX12, rfl, rfl, by decide +kernel⟩
theorem fw_11_67 : FW RX12 67 11 30 (.array .int) true := ⟨RX12, TX12, 66, tyX12, ⟨rfl, by decide, gw5 129 (by decide +kernel) rfl, uw_11⟩, tyX12_ok, nmX12, rfl, rfl, by decide +kernel⟩
theorem fw_11_70 : FW RX12 70 11 31 (.array .int) true := ⟨RX12, TX12, 66, tyX12, ⟨rfl, by decide, gw5 130 (by decide +kernel) rfl, uw_11⟩, tyX12_ok, nmX12, rfl, rfl, by decide +kernel⟩
theorem fw_11_73 : FW RX12 73 11 32 (.array .int) true := ⟨RX12, TX12, 66, tyX12, ⟨rfl, by decide, gw5 131 (by decide +kernel) rfl, uw_11⟩, tyX12_ok, nmX12, rfl, rfl, by decide +kernel⟩
theorem fw_11_76 : FW RX12 76 11 34 (.array .boolean) true := ⟨RX12, TX12, 66, tyX12, ⟨rfl, by decide, gw5 133 (by decide +kernel) rfl, uw_11⟩, tyX12_ok, nmX12, rfl, rfl, by decide +kernel⟩
theorem fw_11_80 : FW RX12 80 11 35 (.array .int) true := ⟨RX12, TX12, 66, tyX12, ⟨rfl, by decide, gw5 134 (by decide +kernel) rfl, uw_11⟩, tyX12_ok, nmX12, rfl, rfl, by decide +kernel⟩
theorem fw_11_83 : FW RX12 83 11 36 (.array .int) true := ⟨RX12, TX12, 66, tyX12, ⟨rfl, by decide, gw5 135 (by decide +kernel) rfl, uw_11⟩, tyX12_ok, nmX12, rfl, rfl, by decide +kernel⟩
theorem fw_11_86 : FW RX12 86 11 37 (.array .int) true := ⟨RX12, TX12, 66, tyX12, ⟨rfl, by decide, gw5 136 (by decide +kernel) rfl, uw_11⟩, tyX12_ok, nmX12, rfl, rfl, by decide +kernel⟩
theorem fw_11_89 : FW RX12 89 11 38 (.array .int) true := ⟨RX12, TX12, 66, tyX12, ⟨rfl, by decide, gw5 137 (by decide +kernel) rfl, uw_11⟩, tyX12_ok, nmX12, rfl, rfl, by decide +kernel⟩
theorem fw_11_92 : FW RX12 92 11 40 (.array .int) true := ⟨RX12, TX12, 66, tyX12, ⟨rfl, by decide, gw5 139 (by decide +kernel) rfl, uw_11⟩, tyX12_ok, nmX12, rfl, rfl, by decide +kernel⟩
theorem fw_11_95 : FW RX12 95 11 41 (.array .int) true := ⟨RX12, TX12, 66, tyX12, ⟨rfl, by decide, gw5 140 (by decide +kernel) rfl, uw_11⟩, tyX12_ok, nmX12, rfl, rfl, by decide +kernel⟩
theorem fw_11_98 : FW RX12 98 11 42 (.array .int) true := ⟨RX12, TX12, 66, tyX12, ⟨rfl, by decide, gw5 141 (by decide +kernel) rfl, uw_11⟩, tyX12_ok, nmX12, rfl, rfl, by decide +kernel⟩
theorem fw_11_101 : FW RX12 101 11 44 (.array .int) true := ⟨RX12, TX12, 66, tyX12, ⟨rfl, by decide, gw5 143 (by decide +kernel) rfl, uw_11⟩, tyX12_ok, nmX12, rfl, rfl, by decide +kernel⟩
theorem fw_11_104 : FW RX12 104 11 45 (.array .int) true := ⟨RX12, TX12, 66, tyX12, ⟨rfl, by decide, gw5 144 (by decide +kernel) rfl, uw_11⟩, tyX12_ok, nmX12, rfl, rfl, by decide +kernel⟩
theorem fw_11_107 : FW RX12 107 11 47 (.array .int) true := ⟨RX12, TX12, 66, tyX12, ⟨rfl, by decide, gw5 146 (by decide +kernel) rfl, uw_11⟩, tyX12_ok, nmX12, rfl, rfl, by decide +kernel⟩
theorem fw_11_110 : FW RX12 110 11 48 (.array .int) true := ⟨RX12, TX12, 66, tyX12, ⟨rfl, by decide, gw5 147 (by decide +kernel) rfl, uw_11⟩, tyX12_ok, nmX12, rfl, rfl, by decide +kernel⟩
theorem fw_11_113 : FW RX12 113 11 55 (.array .int) true := ⟨RX12, TX12, 66, tyX12, ⟨rfl, by decide, gw5 154 (by decide +kernel) rfl, uw_11⟩, tyX12_ok, nmX12, rfl, rfl, by decide +kernel⟩
theorem fw_11_116 : FW RX12 116 11 56 (.array .int) true := ⟨RX12, TX12, 66, tyX12, ⟨rfl, by decide, gw5 155 (by decide +kernel) rfl, uw_11⟩, tyX12_ok, nmX12, rfl, rfl, by decide +kernel⟩
theorem fw_11_119 : FW RX12 119 11 58 (.array .int) true := ⟨RX12, TX12, 66, tyX12, ⟨rfl, by decide, gw5 157 (by decide +kernel) rfl, uw_11⟩, tyX12_ok, nmX12, rfl, rfl, by decide +kernel⟩
theorem fw_11_122 : FW RX12 122 11 59 (.array .int) true := ⟨RX12, TX12, 66, tyX12, ⟨rfl, by decide, gw5 158 (by decide +kernel) rfl, uw_11⟩, tyX12_ok, nmX12, rfl, rfl, by decide +kernel⟩
theorem fw_11_125 : FW RX12 125 11 61 (.array .int) true := ⟨RX12, TX12, 66, tyX12, ⟨rfl, by decide, gw5 160 (by decide +kernel) rfl, uw_11⟩, tyX12_ok, nmX12, rfl, rfl, by decide +kernel⟩
theorem fw_11_128 : FW RX12 128 11 62 (.array .boolean) true := ⟨RX12, TX12, 66, tyX12, ⟨rfl, by decide, gw5 161 (by decide +kernel) rfl, uw_11⟩, tyX12_ok, nmX12, rfl, rfl, by decide +kernel⟩
theorem fw_11_131 : FW RX12 131 11 63 (.array .int) true := ⟨RX12, TX12, 66, tyX12, ⟨rfl, by decide, gw5 162 (by decide +kernel) rfl, uw_11⟩, tyX12_ok, nmX12, rfl, rfl, by decide +kernel⟩
theorem fw_11_134 : FW RX12 134 11 64 (.array .boolean) true := ⟨RX12, TX12, 66, tyX12, ⟨rfl, by decide, gw5 163 (by decide +kernel) rfl, uw_11⟩, tyX12_ok, nmX12, rfl, rfl, by decide +kernel⟩
theorem fw_11_137 : FW RX12 137 11 65 (.array .int) true := ⟨RX12, TX12, 66, tyX12, ⟨rfl, by decide, gw5 164 (by decide +kernel) rfl, uw_11⟩, tyX12_ok, nmX12, rfl, rfl, by decide +kernel⟩
set_option maxRecDepth 20000 in
theorem nc_L_7 : NC RL 7 10 15 [.null, .null, .null, .null, .null, .null, .null, .null, .null, .null, .null, .null, .null, .null, .null] := ⟨RX11, TX11, tyX11, rfl, uw_10, tyX11_ok, gw1 23 (by decide +kernel) rfl, gw1 24 (by decide +kernel) rfl, gw1 1 (by decide +kernel) rfl, by decide +kernel⟩
set_option maxRecDepth 20000 in
theorem nc_L_10 : NC RL 10 11 66 [.int 0, .null, .int 0, .null, .int 0, .null, .null, .null, .null, .null, .int 0, .int 0, .int 0, .int 0, .int 0, .int 0, .int 0, .int 0, .int 0, .int 0, .int 0, .null, .null, .null, .null, .null, .null, .null, .null, .null, .null, .null, .null, .int 0, .null, .null, .null, .null, .null, .int 0, .null, .null, .null, .int 0, .null, .null, .int 0, .null, .null, .int 0, .int 0, .int 0, .int 0, .int 0, .int 0, .null, .null, .int 0, .null, .null, .int 0, .null, .null, .null, .null, .null] := ⟨RX12, TX12, tyX12, rfl, uw_11, tyX12_ok, gw5 75 (by decide +kernel) rfl, gw5 76 (by decide +kernel) rfl, gw1 12 (by decide +kernel) rfl, by decide +kernel⟩
theorem dX0_init_0 : decode cX0_init 0 = .ok (.aload_n 0, 1) := by decide +kernel
theorem dX0_init_1 : decode cX0_init 1 = .ok (.invokespecial 3, 3) := by decide +kernel
theorem dX0_init_4 : decode cX0_init 4 = .ok (.aload_n 0, 1) := by decide +kernel
theorem dX0_init_5 : decode cX0_init 5 = .ok (.bipush 7, 2) := by decide +kernel
theorem dX0_init_7 : decode cX0_init 7 = .ok (.newarray .int, 2) := by decide +kernel
theorem dX0_init_9 : decode cX0_init 9 = .ok (.putfield 9, 3) := by decide +kernel
theorem dX0_init_12 : decode cX0_init 12 = .ok (.aload_n 0, 1) := by decide +kernel
theorem dX0_init_13 : decode cX0_init 13 = .ok (.bipush 7, 2) := by decide +kernel
theorem dX0_init_15 : decode cX0_init 15 = .ok (.newarray .int, 2) := by decide +kernel
theorem dX0_init_17 : decode cX0_init 17 = .ok (.putfield 15, 3) := by decide +kernel
theorem dX0_init_20 : decode cX0_init 20 = .ok (.aload_n 0, 1) := by decide +kernel
theorem dX0_init_21 : decode cX0_init 21 = .ok (.bipush 7, 2) := by decide +kernel
theorem dX0_init_23 : decode cX0_init 23 = .ok (.newarray .int, 2) := by decide +kernel
theorem dX0_init_25 : decode cX0_init 25 = .ok (.putfield 18, 3) := by decide +kernel
theorem dX0_init_28 : decode cX0_init 28 = .ok (.aload_n 0, 1) := by decide +kernel
theorem dX0_init_29 : decode cX0_init 29 = .ok (.iconst (-1), 1) := by decide +kernel
theorem dX0_init_30 : decode cX0_init 30 = .ok (.putfield 21, 3) := by decide +kernel
theorem dX0_init_33 : decode cX0_init 33 = .ok (.aload_n 0, 1) := by decide +kernel
theorem dX0_init_34 : decode cX0_init 34 = .ok (.iconst (-1), 1) := by decide +kernel
theorem dX0_init_35 : decode cX0_init 35 = .ok (.putfield 25, 3) := by decide +kernel
theorem dX0_init_38 : decode cX0_init 38 = .ok (.return_, 1) := by decide +kernel
set_option maxHeartbeats 4000000 in
set_option maxRecDepth 100000 in
theorem n_0 {l : Launch} {D : va_G} {a : Nat} : KN (S := UU) l D yX0_init cX0_init 1 1 12 3 21 [.ref a] [(a, .inr (0, [.int 0, .null, .null, .null, .int 0, .int 0, .int 0, .int 0, .int 0, .int 0, .int 0, .int 0]))] [] (fun u => mw [60, 61, 62, 63] u.1 u.2 s0) (fun u => tcl [61, 62, 63] u) (fun u => u.1 60 = a) := by
  refine KN.of (by decide) (Nat.le_of_ble_eq_true rfl) 0 (fun Γ C hin hG Rt => ?_)
  have hin := hin rfl
  show GW Γ 0 [some (.ref a)] [] [(a, .inr (0, [.int 0, .null, .null, .null, .int 0, .int 0, .int 0, .int 0, .int 0, .int 0, .int 0, .int 0]))] [] 0 0
  refine g_aload_n C dX0_init_0 (i := 0) rfl rfl ?_
  refine g_objInit C oi_0 oi_w.1 oi_w.2 (by decide) (Nat.le_of_ble_eq_true rfl) dX0_init_1 ?_
  refine g_aload_n C dX0_init_4 (i := 0) rfl rfl ?_
  refine g_bipush C dX0_init_5 (v := 7) rfl ?_
  refine g_newa C (atype := .int) (ty := .int) 7 (7, .inl (fun _ => 0)) aw_int rfl (fun _ => rfl) (by decide) rfl (by decide) (by omega) (by omega) dX0_init_7 (fun q1 c1 => ?_)
  refine g_eq (ws1 := [(a, .inr (0, [.int 0, .null, .null, .null, .int 0, .int 0, .int 0, .int 0, .int 0, .int 0, .int 0, .int 0])), (q1, .inl (c1, 7, .inl (fun _ => 0)))]) (ts1 := ([] ++ [(c1, .int)])) (kc1 := 1) (ks1 := 7) rfl rfl rfl rfl ?_
  refine g_put C hin (q0 := 0) fw_0_9 rfl rfl rfl (Nat.le_of_ble_eq_true rfl) dX0_init_9 (ws1 := [(a, .inr (0, [.int 0, .ref q1, .null, .null, .int 0, .int 0, .int 0, .int 0, .int 0, .int 0, .int 0, .int 0])), (q1, .inl (c1, 7, .inl (fun _ => 0)))]) rfl ?_
  refine g_aload_n C dX0_init_12 (i := 0) rfl rfl ?_
  refine g_bipush C dX0_init_13 (v := 7) rfl ?_
  refine g_newa C (atype := .int) (ty := .int) 7 (7, .inl (fun _ => 0)) aw_int rfl (fun _ => rfl) (by decide) rfl (by decide) (by omega) (by omega) dX0_init_15 (fun q2 c2 => ?_)
  refine g_eq (ws1 := [(a, .inr (0, [.int 0, .ref q1, .null, .null, .int 0, .int 0, .int 0, .int 0, .int 0, .int 0, .int 0, .int 0])), (q1, .inl (c1, 7, .inl (fun _ => 0))), (q2, .inl (c2, 7, .inl (fun _ => 0)))]) (ts1 := (([] ++ [(c1, .int)]) ++ [(c2, .int)])) (kc1 := 2) (ks1 := 14) rfl rfl rfl rfl ?_
  refine g_put C hin (q0 := 0) fw_0_15 rfl rfl rfl (Nat.le_of_ble_eq_true rfl) dX0_init_17 (ws1 := [(a, .inr (0, [.int 0, .ref q1, .ref q2, .null, .int 0, .int 0, .int 0, .int 0, .int 0, .int 0, .int 0, .int 0])), (q1, .inl (c1, 7, .inl (fun _ => 0))), (q2, .inl (c2, 7, .inl (fun _ => 0)))]) rfl ?_
  refine g_aload_n C dX0_init_20 (i := 0) rfl rfl ?_
  refine g_bipush C dX0_init_21 (v := 7) rfl ?_
  refine g_newa C (atype := .int) (ty := .int) 7 (7, .inl (fun _ => 0)) aw_int rfl (fun _ => rfl) (by decide) rfl (by decide) (by omega) (by omega) dX0_init_23 (fun q3 c3 => ?_)
  refine g_eq (ws1 := [(a, .inr (0, [.int 0, .ref q1, .ref q2, .null, .int 0, .int 0, .int 0, .int 0, .int 0, .int 0, .int 0, .int 0])), (q1, .inl (c1, 7, .inl (fun _ => 0))), (q2, .inl (c2, 7, .inl (fun _ => 0))), (q3, .inl (c3, 7, .inl (fun _ => 0)))]) (ts1 := ((([] ++ [(c1, .int)]) ++ [(c2, .int)]) ++ [(c3, .int)])) (kc1 := 3) (ks1 := 21) rfl rfl rfl rfl ?_
  refine g_put C hin (q0 := 0) fw_0_18 rfl rfl rfl (Nat.le_of_ble_eq_true rfl) dX0_init_25 (ws1 := [(a, .inr (0, [.int 0, .ref q1, .ref q2, .ref q3, .int 0, .int 0, .int 0, .int 0, .int 0, .int 0, .int 0, .int 0])), (q1, .inl (c1, 7, .inl (fun _ => 0))), (q2, .inl (c2, 7, .inl (fun _ => 0))), (q3, .inl (c3, 7, .inl (fun _ => 0)))]) rfl ?_
  refine g_aload_n C dX0_init_28 (i := 0) rfl rfl ?_
  refine g_iconst C dX0_init_29 (v := (-1)) rfl ?_
  refine g_put C hin (q0 := 0) fw_0_21 rfl rfl rfl (Nat.le_of_ble_eq_true rfl) dX0_init_30 (ws1 := [(a, .inr (0, [.int 0, .ref q1, .ref q2, .ref q3, .int 0, .int 0, .int 0, .int 0, .int 0, .int (-1), .int 0, .int 0])), (q1, .inl (c1, 7, .inl (fun _ => 0))), (q2, .inl (c2, 7, .inl (fun _ => 0))), (q3, .inl (c3, 7, .inl (fun _ => 0)))]) rfl ?_
  refine g_aload_n C dX0_init_33 (i := 0) rfl rfl ?_
  refine g_iconst C dX0_init_34 (v := (-1)) rfl ?_
  refine g_put C hin (q0 := 0) fw_0_25 rfl rfl rfl (Nat.le_of_ble_eq_true rfl) dX0_init_35 (ws1 := [(a, .inr (0, [.int 0, .ref q1, .ref q2, .ref q3, .int 0, .int 0, .int 0, .int 0, .int 0, .int (-1), .int 0, .int (-1)])), (q1, .inl (c1, 7, .inl (fun _ => 0))), (q2, .inl (c2, 7, .inl (fun _ => 0))), (q3, .inl (c3, 7, .inl (fun _ => 0)))]) rfl ?_
  exact g_vret Rt ((fun i => if i = 60 then a else if i = 61 then q1 else if i = 62 then q2 else if i = 63 then q3 else 0), (fun i => if i = 61 then c1 else if i = 62 then c2 else if i = 63 then c3 else c3)) dX0_init_38 (by decide) (by decide) rfl rfl rfl
theorem dX1_init_0 : decode cX1_init 0 = .ok (.aload_n 0, 1) := by decide +kernel
theorem dX1_init_1 : decode cX1_init 1 = .ok (.invokespecial 3, 3) := by decide +kernel
theorem dX1_init_4 : decode cX1_init 4 = .ok (.aload_n 0, 1) := by decide +kernel
theorem dX1_init_5 : decode cX1_init 5 = .ok (.bipush 9, 2) := by decide +kernel
theorem dX1_init_7 : decode cX1_init 7 = .ok (.newarray .int, 2) := by decide +kernel
theorem dX1_init_9 : decode cX1_init 9 = .ok (.putfield 9, 3) := by decide +kernel
theorem dX1_init_12 : decode cX1_init 12 = .ok (.aload_n 0, 1) := by decide +kernel
theorem dX1_init_13 : decode cX1_init 13 = .ok (.bipush 32, 2) := by decide +kernel
theorem dX1_init_15 : decode cX1_init 15 = .ok (.newarray .int, 2) := by decide +kernel
theorem dX1_init_17 : decode cX1_init 17 = .ok (.putfield 15, 3) := by decide +kernel
theorem dX1_init_20 : decode cX1_init 20 = .ok (.return_, 1) := by decide +kernel
set_option maxHeartbeats 4000000 in
set_option maxRecDepth 100000 in
theorem n_1 {l : Launch} {D : va_G} {a : Nat} : KN (S := UU) l D yX1_init cX1_init 1 1 12 2 41 [.ref a] [(a, .inr (1, [.null, .null, .int 0, .int 0]))] [] (fun u => mw [9, 10, 11] u.1 u.2 s0) (fun u => tcl [10, 11] u) (fun u => u.1 9 = a) := by
  refine KN.of (by decide) (Nat.le_of_ble_eq_true rfl) 0 (fun Γ C hin hG Rt => ?_)
  have hin := hin rfl
  show GW Γ 0 [some (.ref a)] [] [(a, .inr (1, [.null, .null, .int 0, .int 0]))] [] 0 0
  refine g_aload_n C dX1_init_0 (i := 0) rfl rfl ?_
  refine g_objInit C oi_1 oi_w.1 oi_w.2 (by decide) (Nat.le_of_ble_eq_true rfl) dX1_init_1 ?_
  refine g_aload_n C dX1_init_4 (i := 0) rfl rfl ?_
  refine g_bipush C dX1_init_5 (v := 9) rfl ?_
  refine g_newa C (atype := .int) (ty := .int) 9 (9, .inl (fun _ => 0)) aw_int rfl (fun _ => rfl) (by decide) rfl (by decide) (by omega) (by omega) dX1_init_7 (fun q1 c1 => ?_)
  refine g_eq (ws1 := [(a, .inr (1, [.null, .null, .int 0, .int 0])), (q1, .inl (c1, 9, .inl (fun _ => 0)))]) (ts1 := ([] ++ [(c1, .int)])) (kc1 := 1) (ks1 := 9) rfl rfl rfl rfl ?_
  refine g_put C hin (q0 := 0) fw_1_9 rfl rfl rfl (Nat.le_of_ble_eq_true rfl) dX1_init_9 (ws1 := [(a, .inr (1, [.ref q1, .null, .int 0, .int 0])), (q1, .inl (c1, 9, .inl (fun _ => 0)))]) rfl ?_
  refine g_aload_n C dX1_init_12 (i := 0) rfl rfl ?_
  refine g_bipush C dX1_init_13 (v := 32) rfl ?_
  refine g_newa C (atype := .int) (ty := .int) 32 (32, .inl (fun _ => 0)) aw_int rfl (fun _ => rfl) (by decide) rfl (by decide) (by omega) (by omega) dX1_init_15 (fun q2 c2 => ?_)
  refine g_eq (ws1 := [(a, .inr (1, [.ref q1, .null, .int 0, .int 0])), (q1, .inl (c1, 9, .inl (fun _ => 0))), (q2, .inl (c2, 32, .inl (fun _ => 0)))]) (ts1 := (([] ++ [(c1, .int)]) ++ [(c2, .int)])) (kc1 := 2) (ks1 := 41) rfl rfl rfl rfl ?_
  refine g_put C hin (q0 := 0) fw_1_15 rfl rfl rfl (Nat.le_of_ble_eq_true rfl) dX1_init_17 (ws1 := [(a, .inr (1, [.ref q1, .ref q2, .int 0, .int 0])), (q1, .inl (c1, 9, .inl (fun _ => 0))), (q2, .inl (c2, 32, .inl (fun _ => 0)))]) rfl ?_
  exact g_vret Rt ((fun i => if i = 9 then a else if i = 10 then q1 else if i = 11 then q2 else 0), (fun i => if i = 10 then c1 else if i = 11 then c2 else c2)) dX1_init_20 (by decide) (by decide) rfl rfl rfl
theorem dX2_init_0 : decode cX2_init 0 = .ok (.aload_n 0, 1) := by decide +kernel
theorem dX2_init_1 : decode cX2_init 1 = .ok (.invokespecial 3, 3) := by decide +kernel
theorem dX2_init_4 : decode cX2_init 4 = .ok (.aload_n 0, 1) := by decide +kernel
theorem dX2_init_5 : decode cX2_init 5 = .ok (.bipush 20, 2) := by decide +kernel
theorem dX2_init_7 : decode cX2_init 7 = .ok (.newarray .int, 2) := by decide +kernel
theorem dX2_init_9 : decode cX2_init 9 = .ok (.putfield 9, 3) := by decide +kernel
theorem dX2_init_12 : decode cX2_init 12 = .ok (.aload_n 0, 1) := by decide +kernel
theorem dX2_init_13 : decode cX2_init 13 = .ok (.bipush 20, 2) := by decide +kernel
theorem dX2_init_15 : decode cX2_init 15 = .ok (.newarray .boolean, 2) := by decide +kernel
theorem dX2_init_17 : decode cX2_init 17 = .ok (.putfield 15, 3) := by decide +kernel
theorem dX2_init_20 : decode cX2_init 20 = .ok (.return_, 1) := by decide +kernel
set_option maxHeartbeats 4000000 in
set_option maxRecDepth 100000 in
theorem n_2 {l : Launch} {D : va_G} {a : Nat} : KN (S := UU) l D yX2_init cX2_init 1 1 12 2 40 [.ref a] [(a, .inr (2, [.null, .null, .int 0]))] [] (fun u => mw [14, 15, 16] u.1 u.2 s0) (fun u => tcl [15, 16] u) (fun u => u.1 14 = a) := by
  refine KN.of (by decide) (Nat.le_of_ble_eq_true rfl) 0 (fun Γ C hin hG Rt => ?_)
  have hin := hin rfl
  show GW Γ 0 [some (.ref a)] [] [(a, .inr (2, [.null, .null, .int 0]))] [] 0 0
  refine g_aload_n C dX2_init_0 (i := 0) rfl rfl ?_
  refine g_objInit C oi_2 oi_w.1 oi_w.2 (by decide) (Nat.le_of_ble_eq_true rfl) dX2_init_1 ?_
  refine g_aload_n C dX2_init_4 (i := 0) rfl rfl ?_
  refine g_bipush C dX2_init_5 (v := 20) rfl ?_
  refine g_newa C (atype := .int) (ty := .int) 20 (20, .inl (fun _ => 0)) aw_int rfl (fun _ => rfl) (by decide) rfl (by decide) (by omega) (by omega) dX2_init_7 (fun q1 c1 => ?_)
  refine g_eq (ws1 := [(a, .inr (2, [.null, .null, .int 0])), (q1, .inl (c1, 20, .inl (fun _ => 0)))]) (ts1 := ([] ++ [(c1, .int)])) (kc1 := 1) (ks1 := 20) rfl rfl rfl rfl ?_
  refine g_put C hin (q0 := 0) fw_2_9 rfl rfl rfl (Nat.le_of_ble_eq_true rfl) dX2_init_9 (ws1 := [(a, .inr (2, [.ref q1, .null, .int 0])), (q1, .inl (c1, 20, .inl (fun _ => 0)))]) rfl ?_
  refine g_aload_n C dX2_init_12 (i := 0) rfl rfl ?_
  refine g_bipush C dX2_init_13 (v := 20) rfl ?_
  refine g_newa C (atype := .boolean) (ty := .boolean) 20 (20, .inl (fun _ => 0)) aw_boolean rfl (fun _ => rfl) (by decide) rfl (by decide) (by omega) (by omega) dX2_init_15 (fun q2 c2 => ?_)
  refine g_eq (ws1 := [(a, .inr (2, [.ref q1, .null, .int 0])), (q1, .inl (c1, 20, .inl (fun _ => 0))), (q2, .inl (c2, 20, .inl (fun _ => 0)))]) (ts1 := (([] ++ [(c1, .int)]) ++ [(c2, .boolean)])) (kc1 := 2) (ks1 := 40) rfl rfl rfl rfl ?_
  refine g_put C hin (q0 := 0) fw_2_15 rfl rfl rfl (Nat.le_of_ble_eq_true rfl) dX2_init_17 (ws1 := [(a, .inr (2, [.ref q1, .ref q2, .int 0])), (q1, .inl (c1, 20, .inl (fun _ => 0))), (q2, .inl (c2, 20, .inl (fun _ => 0)))]) rfl ?_
  exact g_vret Rt ((fun i => if i = 14 then a else if i = 15 then q1 else if i = 16 then q2 else 0), (fun i => if i = 15 then c1 else if i = 16 then c2 else c2)) dX2_init_20 (by decide) (by decide) rfl rfl rfl
theorem dX7_init_0 : decode cX7_init 0 = .ok (.aload_n 0, 1) := by decide +kernel
theorem dX7_init_1 : decode cX7_init 1 = .ok (.invokespecial 3, 3) := by decide +kernel
theorem dX7_init_4 : decode cX7_init 4 = .ok (.aload_n 0, 1) := by decide +kernel
theorem dX7_init_5 : decode cX7_init 5 = .ok (.sipush 1024, 3) := by decide +kernel
theorem dX7_init_8 : decode cX7_init 8 = .ok (.newarray .int, 2) := by decide +kernel
theorem dX7_init_10 : decode cX7_init 10 = .ok (.putfield 11, 3) := by decide +kernel
theorem dX7_init_13 : decode cX7_init 13 = .ok (.aload_n 0, 1) := by decide +kernel
theorem dX7_init_14 : decode cX7_init 14 = .ok (.sipush 1024, 3) := by decide +kernel
theorem dX7_init_17 : decode cX7_init 17 = .ok (.newarray .int, 2) := by decide +kernel
theorem dX7_init_19 : decode cX7_init 19 = .ok (.putfield 15, 3) := by decide +kernel
theorem dX7_init_22 : decode cX7_init 22 = .ok (.aload_n 0, 1) := by decide +kernel
theorem dX7_init_23 : decode cX7_init 23 = .ok (.sipush 1024, 3) := by decide +kernel
theorem dX7_init_26 : decode cX7_init 26 = .ok (.newarray .int, 2) := by decide +kernel
theorem dX7_init_28 : decode cX7_init 28 = .ok (.putfield 18, 3) := by decide +kernel
theorem dX7_init_31 : decode cX7_init 31 = .ok (.aload_n 0, 1) := by decide +kernel
theorem dX7_init_32 : decode cX7_init 32 = .ok (.bipush 12, 2) := by decide +kernel
theorem dX7_init_34 : decode cX7_init 34 = .ok (.newarray .int, 2) := by decide +kernel
theorem dX7_init_36 : decode cX7_init 36 = .ok (.putfield 21, 3) := by decide +kernel
theorem dX7_init_39 : decode cX7_init 39 = .ok (.return_, 1) := by decide +kernel
set_option maxHeartbeats 4000000 in
set_option maxRecDepth 100000 in
theorem n_6 {l : Launch} {D : va_G} {a : Nat} : KN (S := UU) l D yX7_init cX7_init 1 1 12 4 3084 [.ref a] [(a, .inr (6, [.null, .int 0, .null, .null, .null, .int 0]))] [] (fun u => mw [17, 18, 19, 20, 21] u.1 u.2 s0) (fun u => tcl [18, 19, 20, 21] u) (fun u => u.1 17 = a) := by
  refine KN.of (by decide) (Nat.le_of_ble_eq_true rfl) 0 (fun Γ C hin hG Rt => ?_)
  have hin := hin rfl
  show GW Γ 0 [some (.ref a)] [] [(a, .inr (6, [.null, .int 0, .null, .null, .null, .int 0]))] [] 0 0
  refine g_aload_n C dX7_init_0 (i := 0) rfl rfl ?_
  refine g_objInit C oi_6 oi_w.1 oi_w.2 (by decide) (Nat.le_of_ble_eq_true rfl) dX7_init_1 ?_
  refine g_aload_n C dX7_init_4 (i := 0) rfl rfl ?_
  refine g_sipush C dX7_init_5 (v := 1024) rfl ?_
  refine g_newa C (atype := .int) (ty := .int) 1024 (1024, .inl (fun _ => 0)) aw_int rfl (fun _ => rfl) (by decide) rfl (by decide) (by omega) (by omega) dX7_init_8 (fun q1 c1 => ?_)
  refine g_eq (ws1 := [(a, .inr (6, [.null, .int 0, .null, .null, .null, .int 0])), (q1, .inl (c1, 1024, .inl (fun _ => 0)))]) (ts1 := ([] ++ [(c1, .int)])) (kc1 := 1) (ks1 := 1024) rfl rfl rfl rfl ?_
  refine g_put C hin (q0 := 0) fw_6_11 rfl rfl rfl (Nat.le_of_ble_eq_true rfl) dX7_init_10 (ws1 := [(a, .inr (6, [.ref q1, .int 0, .null, .null, .null, .int 0])), (q1, .inl (c1, 1024, .inl (fun _ => 0)))]) rfl ?_
  refine g_aload_n C dX7_init_13 (i := 0) rfl rfl ?_
  refine g_sipush C dX7_init_14 (v := 1024) rfl ?_
  refine g_newa C (atype := .int) (ty := .int) 1024 (1024, .inl (fun _ => 0)) aw_int rfl (fun _ => rfl) (by decide) rfl (by decide) (by omega) (by omega) dX7_init_17 (fun q2 c2 => ?_)
  refine g_eq (ws1 := [(a, .inr (6, [.ref q1, .int 0, .null, .null, .null, .int 0])), (q1, .inl (c1, 1024, .inl (fun _ => 0))), (q2, .inl (c2, 1024, .inl (fun _ => 0)))]) (ts1 := (([] ++ [(c1, .int)]) ++ [(c2, .int)])) (kc1 := 2) (ks1 := 2048) rfl rfl rfl rfl ?_
  refine g_put C hin (q0 := 0) fw_6_15 rfl rfl rfl (Nat.le_of_ble_eq_true rfl) dX7_init_19 (ws1 := [(a, .inr (6, [.ref q1, .int 0, .ref q2, .null, .null, .int 0])), (q1, .inl (c1, 1024, .inl (fun _ => 0))), (q2, .inl (c2, 1024, .inl (fun _ => 0)))]) rfl ?_
  refine g_aload_n C dX7_init_22 (i := 0) rfl rfl ?_
  refine g_sipush C dX7_init_23 (v := 1024) rfl ?_
  refine g_newa C (atype := .int) (ty := .int) 1024 (1024, .inl (fun _ => 0)) aw_int rfl (fun _ => rfl) (by decide) rfl (by decide) (by omega) (by omega) dX7_init_26 (fun q3 c3 => ?_)
  refine g_eq (ws1 := [(a, .inr (6, [.ref q1, .int 0, .ref q2, .null, .null, .int 0])), (q1, .inl (c1, 1024, .inl (fun _ => 0))), (q2, .inl (c2, 1024, .inl (fun _ => 0))), (q3, .inl (c3, 1024, .inl (fun _ => 0)))]) (ts1 := ((([] ++ [(c1, .int)]) ++ [(c2, .int)]) ++ [(c3, .int)])) (kc1 := 3) (ks1 := 3072) rfl rfl rfl rfl ?_
  refine g_put C hin (q0 := 0) fw_6_18 rfl rfl rfl (Nat.le_of_ble_eq_true rfl) dX7_init_28 (ws1 := [(a, .inr (6, [.ref q1, .int 0, .ref q2, .ref q3, .null, .int 0])), (q1, .inl (c1, 1024, .inl (fun _ => 0))), (q2, .inl (c2, 1024, .inl (fun _ => 0))), (q3, .inl (c3, 1024, .inl (fun _ => 0)))]) rfl ?_
  refine g_aload_n C dX7_init_31 (i := 0) rfl rfl ?_
  refine g_bipush C dX7_init_32 (v := 12) rfl ?_
  refine g_newa C (atype := .int) (ty := .int) 12 (12, .inl (fun _ => 0)) aw_int rfl (fun _ => rfl) (by decide) rfl (by decide) (by omega) (by omega) dX7_init_34 (fun q4 c4 => ?_)
  refine g_eq (ws1 := [(a, .inr (6, [.ref q1, .int 0, .ref q2, .ref q3, .null, .int 0])), (q1, .inl (c1, 1024, .inl (fun _ => 0))), (q2, .inl (c2, 1024, .inl (fun _ => 0))), (q3, .inl (c3, 1024, .inl (fun _ => 0))), (q4, .inl (c4, 12, .inl (fun _ => 0)))]) (ts1 := (((([] ++ [(c1, .int)]) ++ [(c2, .int)]) ++ [(c3, .int)]) ++ [(c4, .int)])) (kc1 := 4) (ks1 := 3084) rfl rfl rfl rfl ?_
  refine g_put C hin (q0 := 0) fw_6_21 rfl rfl rfl (Nat.le_of_ble_eq_true rfl) dX7_init_36 (ws1 := [(a, .inr (6, [.ref q1, .int 0, .ref q2, .ref q3, .ref q4, .int 0])), (q1, .inl (c1, 1024, .inl (fun _ => 0))), (q2, .inl (c2, 1024, .inl (fun _ => 0))), (q3, .inl (c3, 1024, .inl (fun _ => 0))), (q4, .inl (c4, 12, .inl (fun _ => 0)))]) rfl ?_
  exact g_vret Rt ((fun i => if i = 17 then a else if i = 18 then q1 else if i = 19 then q2 else if i = 20 then q3 else if i = 21 then q4 else 0), (fun i => if i = 18 then c1 else if i = 19 then c2 else if i = 20 then c3 else if i = 21 then c4 else c4)) dX7_init_39 (by decide) (by decide) rfl rfl rfl
theorem dX8_init_0 : decode cX8_init 0 = .ok (.aload_n 0, 1) := by decide +kernel
theorem dX8_init_1 : decode cX8_init 1 = .ok (.invokespecial 1, 3) := by decide +kernel
theorem dX8_init_4 : decode cX8_init 4 = .ok (.aload_n 0, 1) := by decide +kernel
theorem dX8_init_5 : decode cX8_init 5 = .ok (.iconst 5, 1) := by decide +kernel
theorem dX8_init_6 : decode cX8_init 6 = .ok (.newarray .int, 2) := by decide +kernel
theorem dX8_init_8 : decode cX8_init 8 = .ok (.putfield 9, 3) := by decide +kernel
theorem dX8_init_11 : decode cX8_init 11 = .ok (.aload_n 0, 1) := by decide +kernel
theorem dX8_init_12 : decode cX8_init 12 = .ok (.iconst 5, 1) := by decide +kernel
theorem dX8_init_13 : decode cX8_init 13 = .ok (.newarray .int, 2) := by decide +kernel
theorem dX8_init_15 : decode cX8_init 15 = .ok (.putfield 13, 3) := by decide +kernel
theorem dX8_init_18 : decode cX8_init 18 = .ok (.return_, 1) := by decide +kernel
set_option maxHeartbeats 4000000 in
set_option maxRecDepth 100000 in
theorem n_7 {l : Launch} {D : va_G} {a : Nat} : KN (S := UU) l D yX8_init cX8_init 1 1 12 2 10 [.ref a] [(a, .inr (7, [.null, .null, .int 0, .int 0, .int 0]))] [] (fun u => mw [22, 23, 24] u.1 u.2 s0) (fun u => tcl [23, 24] u) (fun u => u.1 22 = a) := by
  refine KN.of (by decide) (Nat.le_of_ble_eq_true rfl) 0 (fun Γ C hin hG Rt => ?_)
  have hin := hin rfl
  show GW Γ 0 [some (.ref a)] [] [(a, .inr (7, [.null, .null, .int 0, .int 0, .int 0]))] [] 0 0
  refine g_aload_n C dX8_init_0 (i := 0) rfl rfl ?_
  refine g_objInit C oi_7 oi_w.1 oi_w.2 (by decide) (Nat.le_of_ble_eq_true rfl) dX8_init_1 ?_
  refine g_aload_n C dX8_init_4 (i := 0) rfl rfl ?_
  refine g_iconst C dX8_init_5 (v := 5) rfl ?_
  refine g_newa C (atype := .int) (ty := .int) 5 (5, .inl (fun _ => 0)) aw_int rfl (fun _ => rfl) (by decide) rfl (by decide) (by omega) (by omega) dX8_init_6 (fun q1 c1 => ?_)
  refine g_eq (ws1 := [(a, .inr (7, [.null, .null, .int 0, .int 0, .int 0])), (q1, .inl (c1, 5, .inl (fun _ => 0)))]) (ts1 := ([] ++ [(c1, .int)])) (kc1 := 1) (ks1 := 5) rfl rfl rfl rfl ?_
  refine g_put C hin (q0 := 0) fw_7_9 rfl rfl rfl (Nat.le_of_ble_eq_true rfl) dX8_init_8 (ws1 := [(a, .inr (7, [.ref q1, .null, .int 0, .int 0, .int 0])), (q1, .inl (c1, 5, .inl (fun _ => 0)))]) rfl ?_
  refine g_aload_n C dX8_init_11 (i := 0) rfl rfl ?_
  refine g_iconst C dX8_init_12 (v := 5) rfl ?_
  refine g_newa C (atype := .int) (ty := .int) 5 (5, .inl (fun _ => 0)) aw_int rfl (fun _ => rfl) (by decide) rfl (by decide) (by omega) (by omega) dX8_init_13 (fun q2 c2 => ?_)
  refine g_eq (ws1 := [(a, .inr (7, [.ref q1, .null, .int 0, .int 0, .int 0])), (q1, .inl (c1, 5, .inl (fun _ => 0))), (q2, .inl (c2, 5, .inl (fun _ => 0)))]) (ts1 := (([] ++ [(c1, .int)]) ++ [(c2, .int)])) (kc1 := 2) (ks1 := 10) rfl rfl rfl rfl ?_
  refine g_put C hin (q0 := 0) fw_7_13 rfl rfl rfl (Nat.le_of_ble_eq_true rfl) dX8_init_15 (ws1 := [(a, .inr (7, [.ref q1, .ref q2, .int 0, .int 0, .int 0])), (q1, .inl (c1, 5, .inl (fun _ => 0))), (q2, .inl (c2, 5, .inl (fun _ => 0)))]) rfl ?_
  exact g_vret Rt ((fun i => if i = 22 then a else if i = 23 then q1 else if i = 24 then q2 else 0), (fun i => if i = 23 then c1 else if i = 24 then c2 else c2)) dX8_init_18 (by decide) (by decide) rfl rfl rfl
theorem dX9_init_0 : decode cX9_init 0 = .ok (.aload_n 0, 1) := by decide +kernel
theorem dX9_init_1 : decode cX9_init 1 = .ok (.invokespecial 3, 3) := by decide +kernel
theorem dX9_init_4 : decode cX9_init 4 = .ok (.aload_n 0, 1) := by decide +kernel
theorem dX9_init_5 : decode cX9_init 5 = .ok (.sipush 2000, 3) := by decide +kernel
theorem dX9_init_8 : decode cX9_init 8 = .ok (.newarray .int, 2) := by decide +kernel
theorem dX9_init_10 : decode cX9_init 10 = .ok (.putfield 9, 3) := by decide +kernel
theorem dX9_init_13 : decode cX9_init 13 = .ok (.aload_n 0, 1) := by decide +kernel
theorem dX9_init_14 : decode cX9_init 14 = .ok (.sipush 401, 3) := by decide +kernel
theorem dX9_init_17 : decode cX9_init 17 = .ok (.newarray .int, 2) := by decide +kernel
theorem dX9_init_19 : decode cX9_init 19 = .ok (.putfield 15, 3) := by decide +kernel
theorem dX9_init_22 : decode cX9_init 22 = .ok (.aload_n 0, 1) := by decide +kernel
theorem dX9_init_23 : decode cX9_init 23 = .ok (.sipush 401, 3) := by decide +kernel
theorem dX9_init_26 : decode cX9_init 26 = .ok (.newarray .int, 2) := by decide +kernel
theorem dX9_init_28 : decode cX9_init 28 = .ok (.putfield 18, 3) := by decide +kernel
theorem dX9_init_31 : decode cX9_init 31 = .ok (.aload_n 0, 1) := by decide +kernel
theorem dX9_init_32 : decode cX9_init 32 = .ok (.sipush 401, 3) := by decide +kernel
theorem dX9_init_35 : decode cX9_init 35 = .ok (.newarray .long, 2) := by decide +kernel
theorem dX9_init_37 : decode cX9_init 37 = .ok (.putfield 21, 3) := by decide +kernel
theorem dX9_init_40 : decode cX9_init 40 = .ok (.return_, 1) := by decide +kernel
set_option maxHeartbeats 4000000 in
set_option maxRecDepth 100000 in
theorem n_8 {l : Launch} {D : va_G} {a : Nat} : KN (S := UU) l D yX9_init cX9_init 1 1 12 4 3203 [.ref a] [(a, .inr (8, [.null, .int 0, .null, .null, .null, .int 0]))] [] (fun u => mw [2, 3, 4, 5, 6] u.1 u.2 s0) (fun u => tcl [3, 4, 5, 6] u) (fun u => u.1 2 = a) := by
  refine KN.of (by decide) (Nat.le_of_ble_eq_true rfl) 0 (fun Γ C hin hG Rt => ?_)
  have hin := hin rfl
  show GW Γ 0 [some (.ref a)] [] [(a, .inr (8, [.null, .int 0, .null, .null, .null, .int 0]))] [] 0 0
  refine g_aload_n C dX9_init_0 (i := 0) rfl rfl ?_
  refine g_objInit C oi_8 oi_w.1 oi_w.2 (by decide) (Nat.le_of_ble_eq_true rfl) dX9_init_1 ?_
  refine g_aload_n C dX9_init_4 (i := 0) rfl rfl ?_
  refine g_sipush C dX9_init_5 (v := 2000) rfl ?_
  refine g_newa C (atype := .int) (ty := .int) 2000 (2000, .inl (fun _ => 0)) aw_int rfl (fun _ => rfl) (by decide) rfl (by decide) (by omega) (by omega) dX9_init_8 (fun q1 c1 => ?_)
  refine g_eq (ws1 := [(a, .inr (8, [.null, .int 0, .null, .null, .null, .int 0])), (q1, .inl (c1, 2000, .inl (fun _ => 0)))]) (ts1 := ([] ++ [(c1, .int)])) (kc1 := 1) (ks1 := 2000) rfl rfl rfl rfl ?_
  refine g_put C hin (q0 := 0) fw_8_9 rfl rfl rfl (Nat.le_of_ble_eq_true rfl) dX9_init_10 (ws1 := [(a, .inr (8, [.ref q1, .int 0, .null, .null, .null, .int 0])), (q1, .inl (c1, 2000, .inl (fun _ => 0)))]) rfl ?_
  refine g_aload_n C dX9_init_13 (i := 0) rfl rfl ?_
  refine g_sipush C dX9_init_14 (v := 401) rfl ?_
  refine g_newa C (atype := .int) (ty := .int) 401 (401, .inl (fun _ => 0)) aw_int rfl (fun _ => rfl) (by decide) rfl (by decide) (by omega) (by omega) dX9_init_17 (fun q2 c2 => ?_)
  refine g_eq (ws1 := [(a, .inr (8, [.ref q1, .int 0, .null, .null, .null, .int 0])), (q1, .inl (c1, 2000, .inl (fun _ => 0))), (q2, .inl (c2, 401, .inl (fun _ => 0)))]) (ts1 := (([] ++ [(c1, .int)]) ++ [(c2, .int)])) (kc1 := 2) (ks1 := 2401) rfl rfl rfl rfl ?_
  refine g_put C hin (q0 := 0) fw_8_15 rfl rfl rfl (Nat.le_of_ble_eq_true rfl) dX9_init_19 (ws1 := [(a, .inr (8, [.ref q1, .int 0, .ref q2, .null, .null, .int 0])), (q1, .inl (c1, 2000, .inl (fun _ => 0))), (q2, .inl (c2, 401, .inl (fun _ => 0)))]) rfl ?_
  refine g_aload_n C dX9_init_22 (i := 0) rfl rfl ?_
  refine g_sipush C dX9_init_23 (v := 401) rfl ?_
  refine g_newa C (atype := .int) (ty := .int) 401 (401, .inl (fun _ => 0)) aw_int rfl (fun _ => rfl) (by decide) rfl (by decide) (by omega) (by omega) dX9_init_26 (fun q3 c3 => ?_)
  refine g_eq (ws1 := [(a, .inr (8, [.ref q1, .int 0, .ref q2, .null, .null, .int 0])), (q1, .inl (c1, 2000, .inl (fun _ => 0))), (q2, .inl (c2, 401, .inl (fun _ => 0))), (q3, .inl (c3, 401, .inl (fun _ => 0)))]) (ts1 := ((([] ++ [(c1, .int)]) ++ [(c2, .int)]) ++ [(c3, .int)])) (kc1 := 3) (ks1 := 2802) rfl rfl rfl rfl ?_
  refine g_put C hin (q0 := 0) fw_8_18 rfl rfl rfl (Nat.le_of_ble_eq_true rfl) dX9_init_28 (ws1 := [(a, .inr (8, [.ref q1, .int 0, .ref q2, .ref q3, .null, .int 0])), (q1, .inl (c1, 2000, .inl (fun _ => 0))), (q2, .inl (c2, 401, .inl (fun _ => 0))), (q3, .inl (c3, 401, .inl (fun _ => 0)))]) rfl ?_
  refine g_aload_n C dX9_init_31 (i := 0) rfl rfl ?_
  refine g_sipush C dX9_init_32 (v := 401) rfl ?_
  refine g_newa C (atype := .long) (ty := .long) 401 (401, .inr (.inl (fun _ => 0))) aw_long rfl (fun _ => rfl) (by decide) rfl (by decide) (by omega) (by omega) dX9_init_35 (fun q4 c4 => ?_)
  refine g_eq (ws1 := [(a, .inr (8, [.ref q1, .int 0, .ref q2, .ref q3, .null, .int 0])), (q1, .inl (c1, 2000, .inl (fun _ => 0))), (q2, .inl (c2, 401, .inl (fun _ => 0))), (q3, .inl (c3, 401, .inl (fun _ => 0))), (q4, .inl (c4, 401, .inr (.inl (fun _ => 0))))]) (ts1 := (((([] ++ [(c1, .int)]) ++ [(c2, .int)]) ++ [(c3, .int)]) ++ [(c4, .long)])) (kc1 := 4) (ks1 := 3203) rfl rfl rfl rfl ?_
  refine g_put C hin (q0 := 0) fw_8_21 rfl rfl rfl (Nat.le_of_ble_eq_true rfl) dX9_init_37 (ws1 := [(a, .inr (8, [.ref q1, .int 0, .ref q2, .ref q3, .ref q4, .int 0])), (q1, .inl (c1, 2000, .inl (fun _ => 0))), (q2, .inl (c2, 401, .inl (fun _ => 0))), (q3, .inl (c3, 401, .inl (fun _ => 0))), (q4, .inl (c4, 401, .inr (.inl (fun _ => 0))))]) rfl ?_
  exact g_vret Rt ((fun i => if i = 2 then a else if i = 3 then q1 else if i = 4 then q2 else if i = 5 then q3 else if i = 6 then q4 else 0), (fun i => if i = 3 then c1 else if i = 4 then c2 else if i = 5 then c3 else if i = 6 then c4 else c4)) dX9_init_40 (by decide) (by decide) rfl rfl rfl
theorem dX4_init_0 : decode cX4_init 0 = .ok (.aload_n 0, 1) := by decide +kernel
theorem dX4_init_1 : decode cX4_init 1 = .ok (.invokespecial 3, 3) := by decide +kernel
theorem dX4_init_4 : decode cX4_init 4 = .ok (.aload_n 0, 1) := by decide +kernel
theorem dX4_init_5 : decode cX4_init 5 = .ok (.new 9, 3) := by decide +kernel
theorem dX4_init_8 : decode cX4_init 8 = .ok (.dup, 1) := by decide +kernel
theorem dX4_init_9 : decode cX4_init 9 = .ok (.invokespecial 11, 3) := by decide +kernel
theorem dX4_init_12 : decode cX4_init 12 = .ok (.putfield 12, 3) := by decide +kernel
theorem dX4_init_15 : decode cX4_init 15 = .ok (.return_, 1) := by decide +kernel
set_option maxHeartbeats 4000000 in
set_option maxRecDepth 100000 in
theorem n_3 {l : Launch} {D : va_G} {a : Nat} : KN (S := UU) l D yX4_init cX4_init 1 2 32 3 45 [.ref a] [(a, .inr (3, [.null]))] [] (fun u => mw [8, 9, 10, 11] u.1 u.2 s0) (fun u => tcl [10, 11] u) (fun u => u.1 8 = a) := by
  refine KN.of (by decide) (Nat.le_of_ble_eq_true rfl) 0 (fun Γ C hin hG Rt => ?_)
  have hin := hin rfl
  show GW Γ 0 [some (.ref a)] [] [(a, .inr (3, [.null]))] [] 0 0
  refine g_aload_n C dX4_init_0 (i := 0) rfl rfl ?_
  refine g_objInit C oi_3 oi_w.1 oi_w.2 (by decide) (Nat.le_of_ble_eq_true rfl) dX4_init_1 ?_
  refine g_aload_n C dX4_init_4 (i := 0) rfl rfl ?_
  refine g_new C nc_3_9 (by omega) (by omega) dX4_init_5 (fun q1 => ?_)
  refine g_dup C dX4_init_8 rfl ?_
  refine g_initN C hG (X := [(a, .inr (3, [.null]))]) (n_1) mn_1 (host := "StateJuggler") (by decide +kernel) rfl (Nat.le_of_ble_eq_true rfl) (Nat.le_of_ble_eq_true rfl) (by omega) (by omega) (Nat.le_of_ble_eq_true rfl) dX4_init_9 (fun u2 huu2 => ?_)
  subst huu2
  refine g_eq (ws1 := ((a, .inr (3, [.null])) :: (mw [9, 10, 11] u2.1 u2.2 s0))) (ts1 := ([] ++ tcl [10, 11] u2)) (kc1 := 3) (ks1 := 45) rfl rfl rfl rfl ?_
  refine g_put C hin (q0 := 0) fw_3_12 rfl rfl rfl (Nat.le_of_ble_eq_true rfl) dX4_init_12 (ws1 := ((a, .inr (3, [.ref (u2.1 9)])) :: (mw [9, 10, 11] u2.1 u2.2 s0))) rfl ?_
  exact g_vret Rt ((fun i => if i = 8 then a else u2.1 i), (fun i => u2.2 i)) dX4_init_15 (by decide) (by decide) rfl rfl rfl
theorem dX6_init_0 : decode cX6_init 0 = .ok (.aload_n 0, 1) := by decide +kernel
theorem dX6_init_1 : decode cX6_init 1 = .ok (.invokespecial 3, 3) := by decide +kernel
theorem dX6_init_4 : decode cX6_init 4 = .ok (.aload_n 0, 1) := by decide +kernel
theorem dX6_init_5 : decode cX6_init 5 = .ok (.new 9, 3) := by decide +kernel
theorem dX6_init_8 : decode cX6_init 8 = .ok (.dup, 1) := by decide +kernel
theorem dX6_init_9 : decode cX6_init 9 = .ok (.invokespecial 11, 3) := by decide +kernel
theorem dX6_init_12 : decode cX6_init 12 = .ok (.putfield 12, 3) := by decide +kernel
theorem dX6_init_15 : decode cX6_init 15 = .ok (.aload_n 0, 1) := by decide +kernel
theorem dX6_init_16 : decode cX6_init 16 = .ok (.iconst (-1), 1) := by decide +kernel
theorem dX6_init_17 : decode cX6_init 17 = .ok (.putfield 18, 3) := by decide +kernel
theorem dX6_init_20 : decode cX6_init 20 = .ok (.aload_n 0, 1) := by decide +kernel
theorem dX6_init_21 : decode cX6_init 21 = .ok (.bipush 12, 2) := by decide +kernel
theorem dX6_init_23 : decode cX6_init 23 = .ok (.newarray .long, 2) := by decide +kernel
theorem dX6_init_25 : decode cX6_init 25 = .ok (.putfield 22, 3) := by decide +kernel
theorem dX6_init_28 : decode cX6_init 28 = .ok (.return_, 1) := by decide +kernel
set_option maxHeartbeats 4000000 in
set_option maxRecDepth 100000 in
theorem n_5 {l : Launch} {D : va_G} {a : Nat} : KN (S := UU) l D yX6_init cX6_init 1 2 32 6 3221 [.ref a] [(a, .inr (5, [.null, .int 0, .int 0, .int 0, .int 0, .int 0, .int 0, .int 0, .null, .int 0]))] [] (fun u => mw [1, 2, 3, 4, 5, 6, 7] u.1 u.2 s0) (fun u => tcl [3, 4, 5, 6, 7] u) (fun u => u.1 1 = a) := by
  refine KN.of (by decide) (Nat.le_of_ble_eq_true rfl) 0 (fun Γ C hin hG Rt => ?_)
  have hin := hin rfl
  show GW Γ 0 [some (.ref a)] [] [(a, .inr (5, [.null, .int 0, .int 0, .int 0, .int 0, .int 0, .int 0, .int 0, .null, .int 0]))] [] 0 0
  refine g_aload_n C dX6_init_0 (i := 0) rfl rfl ?_
  refine g_objInit C oi_5 oi_w.1 oi_w.2 (by decide) (Nat.le_of_ble_eq_true rfl) dX6_init_1 ?_
  refine g_aload_n C dX6_init_4 (i := 0) rfl rfl ?_
  refine g_new C nc_5_9 (by omega) (by omega) dX6_init_5 (fun q1 => ?_)
  refine g_dup C dX6_init_8 rfl ?_
  refine g_initN C hG (X := [(a, .inr (5, [.null, .int 0, .int 0, .int 0, .int 0, .int 0, .int 0, .int 0, .null, .int 0]))]) (n_8) mn_8 (host := "StateJuggler") (by decide +kernel) rfl (Nat.le_of_ble_eq_true rfl) (Nat.le_of_ble_eq_true rfl) (by omega) (by omega) (Nat.le_of_ble_eq_true rfl) dX6_init_9 (fun u2 huu2 => ?_)
  subst huu2
  refine g_eq (ws1 := ((a, .inr (5, [.null, .int 0, .int 0, .int 0, .int 0, .int 0, .int 0, .int 0, .null, .int 0])) :: (mw [2, 3, 4, 5, 6] u2.1 u2.2 s0))) (ts1 := ([] ++ tcl [3, 4, 5, 6] u2)) (kc1 := 5) (ks1 := 3209) rfl rfl rfl rfl ?_
  refine g_put C hin (q0 := 0) fw_5_12 rfl rfl rfl (Nat.le_of_ble_eq_true rfl) dX6_init_12 (ws1 := ((a, .inr (5, [.ref (u2.1 2), .int 0, .int 0, .int 0, .int 0, .int 0, .int 0, .int 0, .null, .int 0])) :: (mw [2, 3, 4, 5, 6] u2.1 u2.2 s0))) rfl ?_
  refine g_aload_n C dX6_init_15 (i := 0) rfl rfl ?_
  refine g_iconst C dX6_init_16 (v := (-1)) rfl ?_
  refine g_put C hin (q0 := 0) fw_5_18 rfl rfl rfl (Nat.le_of_ble_eq_true rfl) dX6_init_17 (ws1 := ((a, .inr (5, [.ref (u2.1 2), .int (-1), .int 0, .int 0, .int 0, .int 0, .int 0, .int 0, .null, .int 0])) :: (mw [2, 3, 4, 5, 6] u2.1 u2.2 s0))) rfl ?_
  refine g_aload_n C dX6_init_20 (i := 0) rfl rfl ?_
  refine g_bipush C dX6_init_21 (v := 12) rfl ?_
  refine g_newa C (atype := .long) (ty := .long) 12 (12, .inr (.inl (fun _ => 0))) aw_long rfl (fun _ => rfl) (by decide) rfl (by decide) (by omega) (by omega) dX6_init_23 (fun q3 c3 => ?_)
  refine g_eq (ws1 := ((a, .inr (5, [.ref (u2.1 2), .int (-1), .int 0, .int 0, .int 0, .int 0, .int 0, .int 0, .null, .int 0])) :: ((mw [2, 3, 4, 5, 6] u2.1 u2.2 s0) ++ [(q3, .inl (c3, 12, .inr (.inl (fun _ => 0))))]))) (ts1 := (([] ++ tcl [3, 4, 5, 6] u2) ++ [(c3, .long)])) (kc1 := 6) (ks1 := 3221) rfl rfl rfl rfl ?_
  refine g_put C hin (q0 := 0) fw_5_22 rfl rfl rfl (Nat.le_of_ble_eq_true rfl) dX6_init_25 (ws1 := ((a, .inr (5, [.ref (u2.1 2), .int (-1), .int 0, .int 0, .int 0, .int 0, .int 0, .int 0, .ref q3, .int 0])) :: ((mw [2, 3, 4, 5, 6] u2.1 u2.2 s0) ++ [(q3, .inl (c3, 12, .inr (.inl (fun _ => 0))))]))) rfl ?_
  exact g_vret Rt ((fun i => if i = 1 then a else if i = 7 then q3 else u2.1 i), (fun i => if i = 7 then c3 else u2.2 i)) dX6_init_28 (by decide) (by decide) rfl rfl rfl


section
-- ===== PART A: goes FIRST, ahead of the names: the tables' words, and 'selects' of the private methods out of them =====
/-- a private method of a class that the tables say can be made, by its rows of tables_1 -/
def lw_okq (q : MethodName × Nat) : Prop := (q.1.cls ≠ "java/lang/invoke/MethodHandle" ∧ q.1.cls ≠ "java/lang/invoke/VarHandle") ∧ Cond.instantiable q.1.cls q.2 ∈ tables_1 ∧ Cond.privateMethod q.1 ∈ tables_1 ∧ Cond.instanceMethod q.1 ∈ tables_1
theorem lw_p0 : lw_okq (⟨"StateJuggler$Tape", "cutOne", "(I)I"⟩, 6) := ⟨⟨by decide +kernel, by decide +kernel⟩, List.mem_of_getElem? (i := 38) (by decide +kernel), List.mem_of_getElem? (i := 440) (by decide +kernel), List.mem_of_getElem? (i := 441) (by decide +kernel)⟩
theorem lw_p1 : lw_okq (⟨"StateJuggler$Tape", "cutWord", "(I)I"⟩, 6) := ⟨⟨by decide +kernel, by decide +kernel⟩, List.mem_of_getElem? (i := 38) (by decide +kernel), List.mem_of_getElem? (i := 447) (by decide +kernel), List.mem_of_getElem? (i := 448) (by decide +kernel)⟩
theorem lw_p2 : lw_okq (⟨"StateJuggler$Tape", "wordAt", "(II)I"⟩, 6) := ⟨⟨by decide +kernel, by decide +kernel⟩, List.mem_of_getElem? (i := 38) (by decide +kernel), List.mem_of_getElem? (i := 452) (by decide +kernel), List.mem_of_getElem? (i := 453) (by decide +kernel)⟩
theorem lw_p3 : lw_okq (⟨"StateJuggler$Tape", "cutInt", "(I)I"⟩, 6) := ⟨⟨by decide +kernel, by decide +kernel⟩, List.mem_of_getElem? (i := 38) (by decide +kernel), List.mem_of_getElem? (i := 508) (by decide +kernel), List.mem_of_getElem? (i := 509) (by decide +kernel)⟩
theorem lw_p4 : lw_okq (⟨"StateJuggler$Reader", "telling", "(LStateJuggler$Text;)Z"⟩, 10) := ⟨⟨by decide +kernel, by decide +kernel⟩, List.mem_of_getElem? (i := 32) (by decide +kernel), List.mem_of_getElem? (i := 573) (by decide +kernel), List.mem_of_getElem? (i := 574) (by decide +kernel)⟩
theorem lw_p5 : lw_okq (⟨"StateJuggler$Reader", "tellingThing", "(LStateJuggler$Text;)Z"⟩, 10) := ⟨⟨by decide +kernel, by decide +kernel⟩, List.mem_of_getElem? (i := 32) (by decide +kernel), List.mem_of_getElem? (i := 577) (by decide +kernel), List.mem_of_getElem? (i := 578) (by decide +kernel)⟩
theorem lw_p6 : lw_okq (⟨"StateJuggler$Reader", "refuse", "(I)Z"⟩, 10) := ⟨⟨by decide +kernel, by decide +kernel⟩, List.mem_of_getElem? (i := 32) (by decide +kernel), List.mem_of_getElem? (i := 581) (by decide +kernel), List.mem_of_getElem? (i := 582) (by decide +kernel)⟩
theorem lw_p7 : lw_okq (⟨"StateJuggler$Reader", "take", "(I)Z"⟩, 10) := ⟨⟨by decide +kernel, by decide +kernel⟩, List.mem_of_getElem? (i := 32) (by decide +kernel), List.mem_of_getElem? (i := 585) (by decide +kernel), List.mem_of_getElem? (i := 586) (by decide +kernel)⟩
theorem lw_p8 : lw_okq (⟨"StateJuggler$Reader", "takeName", "()Z"⟩, 10) := ⟨⟨by decide +kernel, by decide +kernel⟩, List.mem_of_getElem? (i := 32) (by decide +kernel), List.mem_of_getElem? (i := 589) (by decide +kernel), List.mem_of_getElem? (i := 590) (by decide +kernel)⟩
theorem lw_p9 : lw_okq (⟨"StateJuggler$Reader", "noteLater", "(I)V"⟩, 10) := ⟨⟨by decide +kernel, by decide +kernel⟩, List.mem_of_getElem? (i := 32) (by decide +kernel), List.mem_of_getElem? (i := 593) (by decide +kernel), List.mem_of_getElem? (i := 594) (by decide +kernel)⟩
theorem lw_p10 : lw_okq (⟨"StateJuggler$Reader", "takeNumber", "(II)Z"⟩, 10) := ⟨⟨by decide +kernel, by decide +kernel⟩, List.mem_of_getElem? (i := 32) (by decide +kernel), List.mem_of_getElem? (i := 597) (by decide +kernel), List.mem_of_getElem? (i := 598) (by decide +kernel)⟩
theorem lw_p11 : lw_okq (⟨"StateJuggler$Reader", "tellingPattern", "(LStateJuggler$Text;)Z"⟩, 10) := ⟨⟨by decide +kernel, by decide +kernel⟩, List.mem_of_getElem? (i := 32) (by decide +kernel), List.mem_of_getElem? (i := 601) (by decide +kernel), List.mem_of_getElem? (i := 602) (by decide +kernel)⟩
theorem lw_p12 : lw_okq (⟨"StateJuggler$Reader", "tellingLaw", "(LStateJuggler$Text;I)Z"⟩, 10) := ⟨⟨by decide +kernel, by decide +kernel⟩, List.mem_of_getElem? (i := 32) (by decide +kernel), List.mem_of_getElem? (i := 605) (by decide +kernel), List.mem_of_getElem? (i := 606) (by decide +kernel)⟩
theorem lw_p13 : lw_okq (⟨"StateJuggler$Reader", "condition", "(LStateJuggler$Text;)Z"⟩, 10) := ⟨⟨by decide +kernel, by decide +kernel⟩, List.mem_of_getElem? (i := 32) (by decide +kernel), List.mem_of_getElem? (i := 609) (by decide +kernel), List.mem_of_getElem? (i := 610) (by decide +kernel)⟩
theorem lw_p14 : lw_okq (⟨"StateJuggler$Reader", "expression", "(LStateJuggler$Text;I)Z"⟩, 10) := ⟨⟨by decide +kernel, by decide +kernel⟩, List.mem_of_getElem? (i := 32) (by decide +kernel), List.mem_of_getElem? (i := 613) (by decide +kernel), List.mem_of_getElem? (i := 614) (by decide +kernel)⟩
theorem lw_p15 : lw_okq (⟨"StateJuggler$Reader", "product", "(LStateJuggler$Text;I)Z"⟩, 10) := ⟨⟨by decide +kernel, by decide +kernel⟩, List.mem_of_getElem? (i := 32) (by decide +kernel), List.mem_of_getElem? (i := 617) (by decide +kernel), List.mem_of_getElem? (i := 618) (by decide +kernel)⟩
def lw_privs_1 : List (MethodName × Nat) := [(⟨"StateJuggler$Tape", "cutOne", "(I)I"⟩, 6), (⟨"StateJuggler$Tape", "cutWord", "(I)I"⟩, 6), (⟨"StateJuggler$Tape", "wordAt", "(II)I"⟩, 6), (⟨"StateJuggler$Tape", "cutInt", "(I)I"⟩, 6), (⟨"StateJuggler$Reader", "telling", "(LStateJuggler$Text;)Z"⟩, 10), (⟨"StateJuggler$Reader", "tellingThing", "(LStateJuggler$Text;)Z"⟩, 10), (⟨"StateJuggler$Reader", "refuse", "(I)Z"⟩, 10), (⟨"StateJuggler$Reader", "take", "(I)Z"⟩, 10), (⟨"StateJuggler$Reader", "takeName", "()Z"⟩, 10), (⟨"StateJuggler$Reader", "noteLater", "(I)V"⟩, 10), (⟨"StateJuggler$Reader", "takeNumber", "(II)Z"⟩, 10), (⟨"StateJuggler$Reader", "tellingPattern", "(LStateJuggler$Text;)Z"⟩, 10), (⟨"StateJuggler$Reader", "tellingLaw", "(LStateJuggler$Text;I)Z"⟩, 10), (⟨"StateJuggler$Reader", "condition", "(LStateJuggler$Text;)Z"⟩, 10), (⟨"StateJuggler$Reader", "expression", "(LStateJuggler$Text;I)Z"⟩, 10), (⟨"StateJuggler$Reader", "product", "(LStateJuggler$Text;I)Z"⟩, 10)]
theorem lw_r1 : ∀ q ∈ lw_privs_1, lw_okq q := List.forall_mem_cons.mpr ⟨lw_p0, List.forall_mem_cons.mpr ⟨lw_p1, List.forall_mem_cons.mpr ⟨lw_p2, List.forall_mem_cons.mpr ⟨lw_p3, List.forall_mem_cons.mpr ⟨lw_p4, List.forall_mem_cons.mpr ⟨lw_p5, List.forall_mem_cons.mpr ⟨lw_p6, List.forall_mem_cons.mpr ⟨lw_p7, List.forall_mem_cons.mpr ⟨lw_p8, List.forall_mem_cons.mpr ⟨lw_p9, List.forall_mem_cons.mpr ⟨lw_p10, List.forall_mem_cons.mpr ⟨lw_p11, List.forall_mem_cons.mpr ⟨lw_p12, List.forall_mem_cons.mpr ⟨lw_p13, List.forall_mem_cons.mpr ⟨lw_p14, List.forall_mem_cons.mpr ⟨lw_p15, fun _ h => absurd h List.not_mem_nil⟩⟩⟩⟩⟩⟩⟩⟩⟩⟩⟩⟩⟩⟩⟩⟩
theorem lw_p16 : lw_okq (⟨"StateJuggler$Reader", "unit", "(LStateJuggler$Text;I)Z"⟩, 10) := ⟨⟨by decide +kernel, by decide +kernel⟩, List.mem_of_getElem? (i := 32) (by decide +kernel), List.mem_of_getElem? (i := 621) (by decide +kernel), List.mem_of_getElem? (i := 622) (by decide +kernel)⟩
theorem lw_p17 : lw_okq (⟨"StateJuggler", "beginAnew", "()V"⟩, 15) := ⟨⟨by decide +kernel, by decide +kernel⟩, List.mem_of_getElem? (i := 24) (by decide +kernel), List.mem_of_getElem? (i := 626) (by decide +kernel), List.mem_of_getElem? (i := 627) (by decide +kernel)⟩
theorem lw_p18 : lw_okq (⟨"StateJuggler$Asked", "push", "(I)V"⟩, 4) := ⟨⟨by decide +kernel, by decide +kernel⟩, List.mem_of_getElem? (i := 108) (by decide +kernel), List.mem_of_getElem? (i := 702) (by decide +kernel), List.mem_of_getElem? (i := 703) (by decide +kernel)⟩
theorem lw_p19 : lw_okq (⟨"StateJuggler$Asked", "pop", "()I"⟩, 4) := ⟨⟨by decide +kernel, by decide +kernel⟩, List.mem_of_getElem? (i := 108) (by decide +kernel), List.mem_of_getElem? (i := 706) (by decide +kernel), List.mem_of_getElem? (i := 707) (by decide +kernel)⟩
theorem lw_p20 : lw_okq (⟨"StateJuggler$Asked", "reckon", "(III)I"⟩, 4) := ⟨⟨by decide +kernel, by decide +kernel⟩, List.mem_of_getElem? (i := 108) (by decide +kernel), List.mem_of_getElem? (i := 710) (by decide +kernel), List.mem_of_getElem? (i := 711) (by decide +kernel)⟩
theorem lw_p21 : lw_okq (⟨"StateJuggler", "slotsHeld", "()I"⟩, 15) := ⟨⟨by decide +kernel, by decide +kernel⟩, List.mem_of_getElem? (i := 24) (by decide +kernel), List.mem_of_getElem? (i := 729) (by decide +kernel), List.mem_of_getElem? (i := 730) (by decide +kernel)⟩
theorem lw_p22 : lw_okq (⟨"StateJuggler", "weightsOf", "(I)I"⟩, 15) := ⟨⟨by decide +kernel, by decide +kernel⟩, List.mem_of_getElem? (i := 24) (by decide +kernel), List.mem_of_getElem? (i := 733) (by decide +kernel), List.mem_of_getElem? (i := 734) (by decide +kernel)⟩
theorem lw_p23 : lw_okq (⟨"StateJuggler$Juggler", "oneBeat", "(LStateJuggler$Text;LStateJuggler$Air;I)V"⟩, 1) := ⟨⟨by decide +kernel, by decide +kernel⟩, List.mem_of_getElem? (i := 102) (by decide +kernel), List.mem_of_getElem? (i := 774) (by decide +kernel), List.mem_of_getElem? (i := 775) (by decide +kernel)⟩
theorem lw_p24 : lw_okq (⟨"StateJuggler$Juggler", "catchOne", "(LStateJuggler$Text;LStateJuggler$Air;II)V"⟩, 1) := ⟨⟨by decide +kernel, by decide +kernel⟩, List.mem_of_getElem? (i := 102) (by decide +kernel), List.mem_of_getElem? (i := 793) (by decide +kernel), List.mem_of_getElem? (i := 794) (by decide +kernel)⟩
theorem lw_p25 : lw_okq (⟨"StateJuggler$Rows", "fill", "(III)V"⟩, 5) := ⟨⟨by decide +kernel, by decide +kernel⟩, List.mem_of_getElem? (i := 258) (by decide +kernel), List.mem_of_getElem? (i := 882) (by decide +kernel), List.mem_of_getElem? (i := 883) (by decide +kernel)⟩
theorem lw_p26 : lw_okq (⟨"StateJuggler$Rows", "finish", "()V"⟩, 5) := ⟨⟨by decide +kernel, by decide +kernel⟩, List.mem_of_getElem? (i := 258) (by decide +kernel), List.mem_of_getElem? (i := 886) (by decide +kernel), List.mem_of_getElem? (i := 887) (by decide +kernel)⟩
theorem lw_p27 : lw_okq (⟨"StateJuggler", "findHands", "(I)V"⟩, 15) := ⟨⟨by decide +kernel, by decide +kernel⟩, List.mem_of_getElem? (i := 24) (by decide +kernel), List.mem_of_getElem? (i := 904) (by decide +kernel), List.mem_of_getElem? (i := 905) (by decide +kernel)⟩
theorem lw_p28 : lw_okq (⟨"StateJuggler", "firstClash", "(I)I"⟩, 15) := ⟨⟨by decide +kernel, by decide +kernel⟩, List.mem_of_getElem? (i := 24) (by decide +kernel), List.mem_of_getElem? (i := 917) (by decide +kernel), List.mem_of_getElem? (i := 918) (by decide +kernel)⟩
theorem lw_p29 : lw_okq (⟨"StateJuggler$Route", "meet", "(III)V"⟩, 6) := ⟨⟨by decide +kernel, by decide +kernel⟩, List.mem_of_getElem? (i := 231) (by decide +kernel), List.mem_of_getElem? (i := 952) (by decide +kernel), List.mem_of_getElem? (i := 953) (by decide +kernel)⟩
theorem lw_p30 : lw_okq (⟨"StateJuggler$Route", "goOnFrom", "(I)V"⟩, 6) := ⟨⟨by decide +kernel, by decide +kernel⟩, List.mem_of_getElem? (i := 231) (by decide +kernel), List.mem_of_getElem? (i := 956) (by decide +kernel), List.mem_of_getElem? (i := 957) (by decide +kernel)⟩
theorem lw_p31 : lw_okq (⟨"StateJugglerModel", "plain", "(I)V"⟩, 66) := ⟨⟨by decide +kernel, by decide +kernel⟩, List.mem_of_getElem? (i := 1036) (by decide +kernel), List.mem_of_getElem? (i := 1042) (by decide +kernel), List.mem_of_getElem? (i := 1043) (by decide +kernel)⟩
def lw_privs_2 : List (MethodName × Nat) := [(⟨"StateJuggler$Reader", "unit", "(LStateJuggler$Text;I)Z"⟩, 10), (⟨"StateJuggler", "beginAnew", "()V"⟩, 15), (⟨"StateJuggler$Asked", "push", "(I)V"⟩, 4), (⟨"StateJuggler$Asked", "pop", "()I"⟩, 4), (⟨"StateJuggler$Asked", "reckon", "(III)I"⟩, 4), (⟨"StateJuggler", "slotsHeld", "()I"⟩, 15), (⟨"StateJuggler", "weightsOf", "(I)I"⟩, 15), (⟨"StateJuggler$Juggler", "oneBeat", "(LStateJuggler$Text;LStateJuggler$Air;I)V"⟩, 1), (⟨"StateJuggler$Juggler", "catchOne", "(LStateJuggler$Text;LStateJuggler$Air;II)V"⟩, 1), (⟨"StateJuggler$Rows", "fill", "(III)V"⟩, 5), (⟨"StateJuggler$Rows", "finish", "()V"⟩, 5), (⟨"StateJuggler", "findHands", "(I)V"⟩, 15), (⟨"StateJuggler", "firstClash", "(I)I"⟩, 15), (⟨"StateJuggler$Route", "meet", "(III)V"⟩, 6), (⟨"StateJuggler$Route", "goOnFrom", "(I)V"⟩, 6), (⟨"StateJugglerModel", "plain", "(I)V"⟩, 66)]
theorem lw_r2 : ∀ q ∈ lw_privs_2, lw_okq q := List.forall_mem_cons.mpr ⟨lw_p16, List.forall_mem_cons.mpr ⟨lw_p17, List.forall_mem_cons.mpr ⟨lw_p18, List.forall_mem_cons.mpr ⟨lw_p19, List.forall_mem_cons.mpr ⟨lw_p20, List.forall_mem_cons.mpr ⟨lw_p21, List.forall_mem_cons.mpr ⟨lw_p22, List.forall_mem_cons.mpr ⟨lw_p23, List.forall_mem_cons.mpr ⟨lw_p24, List.forall_mem_cons.mpr ⟨lw_p25, List.forall_mem_cons.mpr ⟨lw_p26, List.forall_mem_cons.mpr ⟨lw_p27, List.forall_mem_cons.mpr ⟨lw_p28, List.forall_mem_cons.mpr ⟨lw_p29, List.forall_mem_cons.mpr ⟨lw_p30, List.forall_mem_cons.mpr ⟨lw_p31, fun _ h => absurd h List.not_mem_nil⟩⟩⟩⟩⟩⟩⟩⟩⟩⟩⟩⟩⟩⟩⟩⟩
theorem lw_p32 : lw_okq (⟨"StateJugglerModel", "begins", "()V"⟩, 66) := ⟨⟨by decide +kernel, by decide +kernel⟩, List.mem_of_getElem? (i := 1036) (by decide +kernel), List.mem_of_getElem? (i := 1053) (by decide +kernel), List.mem_of_getElem? (i := 1054) (by decide +kernel)⟩
theorem lw_p33 : lw_okq (⟨"StateJugglerModel", "keepsRow", "()V"⟩, 66) := ⟨⟨by decide +kernel, by decide +kernel⟩, List.mem_of_getElem? (i := 1036) (by decide +kernel), List.mem_of_getElem? (i := 1057) (by decide +kernel), List.mem_of_getElem? (i := 1058) (by decide +kernel)⟩
theorem lw_p34 : lw_okq (⟨"StateJugglerModel", "put", "(I)V"⟩, 66) := ⟨⟨by decide +kernel, by decide +kernel⟩, List.mem_of_getElem? (i := 1036) (by decide +kernel), List.mem_of_getElem? (i := 1263) (by decide +kernel), List.mem_of_getElem? (i := 1264) (by decide +kernel)⟩
theorem lw_p35 : lw_okq (⟨"StateJugglerModel", "cut", "()V"⟩, 66) := ⟨⟨by decide +kernel, by decide +kernel⟩, List.mem_of_getElem? (i := 1036) (by decide +kernel), List.mem_of_getElem? (i := 1275) (by decide +kernel), List.mem_of_getElem? (i := 1276) (by decide +kernel)⟩
theorem lw_p36 : lw_okq (⟨"StateJugglerModel", "byteAt", "(I)I"⟩, 66) := ⟨⟨by decide +kernel, by decide +kernel⟩, List.mem_of_getElem? (i := 1036) (by decide +kernel), List.mem_of_getElem? (i := 1279) (by decide +kernel), List.mem_of_getElem? (i := 1280) (by decide +kernel)⟩
theorem lw_p37 : lw_okq (⟨"StateJugglerModel", "token", "(IIIJ)V"⟩, 66) := ⟨⟨by decide +kernel, by decide +kernel⟩, List.mem_of_getElem? (i := 1036) (by decide +kernel), List.mem_of_getElem? (i := 1283) (by decide +kernel), List.mem_of_getElem? (i := 1284) (by decide +kernel)⟩
theorem lw_p38 : lw_okq (⟨"StateJugglerModel", "sign", "(III)I"⟩, 66) := ⟨⟨by decide +kernel, by decide +kernel⟩, List.mem_of_getElem? (i := 1036) (by decide +kernel), List.mem_of_getElem? (i := 1293) (by decide +kernel), List.mem_of_getElem? (i := 1294) (by decide +kernel)⟩
theorem lw_p39 : lw_okq (⟨"StateJugglerModel", "is", "(I)Z"⟩, 66) := ⟨⟨by decide +kernel, by decide +kernel⟩, List.mem_of_getElem? (i := 1036) (by decide +kernel), List.mem_of_getElem? (i := 1297) (by decide +kernel), List.mem_of_getElem? (i := 1298) (by decide +kernel)⟩
theorem lw_p40 : lw_okq (⟨"StateJugglerModel", "tellOne", "()V"⟩, 66) := ⟨⟨by decide +kernel, by decide +kernel⟩, List.mem_of_getElem? (i := 1036) (by decide +kernel), List.mem_of_getElem? (i := 1301) (by decide +kernel), List.mem_of_getElem? (i := 1302) (by decide +kernel)⟩
theorem lw_p41 : lw_okq (⟨"StateJugglerModel", "roomFor", "(II)V"⟩, 66) := ⟨⟨by decide +kernel, by decide +kernel⟩, List.mem_of_getElem? (i := 1036) (by decide +kernel), List.mem_of_getElem? (i := 1305) (by decide +kernel), List.mem_of_getElem? (i := 1306) (by decide +kernel)⟩
theorem lw_p42 : lw_okq (⟨"StateJugglerModel", "fail", "(I)V"⟩, 66) := ⟨⟨by decide +kernel, by decide +kernel⟩, List.mem_of_getElem? (i := 1036) (by decide +kernel), List.mem_of_getElem? (i := 1309) (by decide +kernel), List.mem_of_getElem? (i := 1310) (by decide +kernel)⟩
theorem lw_p43 : lw_okq (⟨"StateJugglerModel", "goesOn", "()V"⟩, 66) := ⟨⟨by decide +kernel, by decide +kernel⟩, List.mem_of_getElem? (i := 1036) (by decide +kernel), List.mem_of_getElem? (i := 1313) (by decide +kernel), List.mem_of_getElem? (i := 1314) (by decide +kernel)⟩
theorem lw_p44 : lw_okq (⟨"StateJugglerModel", "tellThing", "()V"⟩, 66) := ⟨⟨by decide +kernel, by decide +kernel⟩, List.mem_of_getElem? (i := 1036) (by decide +kernel), List.mem_of_getElem? (i := 1317) (by decide +kernel), List.mem_of_getElem? (i := 1318) (by decide +kernel)⟩
theorem lw_p45 : lw_okq (⟨"StateJugglerModel", "named", "()I"⟩, 66) := ⟨⟨by decide +kernel, by decide +kernel⟩, List.mem_of_getElem? (i := 1036) (by decide +kernel), List.mem_of_getElem? (i := 1321) (by decide +kernel), List.mem_of_getElem? (i := 1322) (by decide +kernel)⟩
theorem lw_p46 : lw_okq (⟨"StateJugglerModel", "must", "(I)V"⟩, 66) := ⟨⟨by decide +kernel, by decide +kernel⟩, List.mem_of_getElem? (i := 1036) (by decide +kernel), List.mem_of_getElem? (i := 1325) (by decide +kernel), List.mem_of_getElem? (i := 1326) (by decide +kernel)⟩
theorem lw_p47 : lw_okq (⟨"StateJugglerModel", "wrong", "(II)V"⟩, 66) := ⟨⟨by decide +kernel, by decide +kernel⟩, List.mem_of_getElem? (i := 1036) (by decide +kernel), List.mem_of_getElem? (i := 1329) (by decide +kernel), List.mem_of_getElem? (i := 1330) (by decide +kernel)⟩
def lw_privs_3 : List (MethodName × Nat) := [(⟨"StateJugglerModel", "begins", "()V"⟩, 66), (⟨"StateJugglerModel", "keepsRow", "()V"⟩, 66), (⟨"StateJugglerModel", "put", "(I)V"⟩, 66), (⟨"StateJugglerModel", "cut", "()V"⟩, 66), (⟨"StateJugglerModel", "byteAt", "(I)I"⟩, 66), (⟨"StateJugglerModel", "token", "(IIIJ)V"⟩, 66), (⟨"StateJugglerModel", "sign", "(III)I"⟩, 66), (⟨"StateJugglerModel", "is", "(I)Z"⟩, 66), (⟨"StateJugglerModel", "tellOne", "()V"⟩, 66), (⟨"StateJugglerModel", "roomFor", "(II)V"⟩, 66), (⟨"StateJugglerModel", "fail", "(I)V"⟩, 66), (⟨"StateJugglerModel", "goesOn", "()V"⟩, 66), (⟨"StateJugglerModel", "tellThing", "()V"⟩, 66), (⟨"StateJugglerModel", "named", "()I"⟩, 66), (⟨"StateJugglerModel", "must", "(I)V"⟩, 66), (⟨"StateJugglerModel", "wrong", "(II)V"⟩, 66)]
theorem lw_r3 : ∀ q ∈ lw_privs_3, lw_okq q := List.forall_mem_cons.mpr ⟨lw_p32, List.forall_mem_cons.mpr ⟨lw_p33, List.forall_mem_cons.mpr ⟨lw_p34, List.forall_mem_cons.mpr ⟨lw_p35, List.forall_mem_cons.mpr ⟨lw_p36, List.forall_mem_cons.mpr ⟨lw_p37, List.forall_mem_cons.mpr ⟨lw_p38, List.forall_mem_cons.mpr ⟨lw_p39, List.forall_mem_cons.mpr ⟨lw_p40, List.forall_mem_cons.mpr ⟨lw_p41, List.forall_mem_cons.mpr ⟨lw_p42, List.forall_mem_cons.mpr ⟨lw_p43, List.forall_mem_cons.mpr ⟨lw_p44, List.forall_mem_cons.mpr ⟨lw_p45, List.forall_mem_cons.mpr ⟨lw_p46, List.forall_mem_cons.mpr ⟨lw_p47, fun _ h => absurd h List.not_mem_nil⟩⟩⟩⟩⟩⟩⟩⟩⟩⟩⟩⟩⟩⟩⟩⟩
theorem lw_p48 : lw_okq (⟨"StateJugglerModel", "bounded", "(II)I"⟩, 66) := ⟨⟨by decide +kernel, by decide +kernel⟩, List.mem_of_getElem? (i := 1036) (by decide +kernel), List.mem_of_getElem? (i := 1333) (by decide +kernel), List.mem_of_getElem? (i := 1334) (by decide +kernel)⟩
theorem lw_p49 : lw_okq (⟨"StateJugglerModel", "ends", "(I)V"⟩, 66) := ⟨⟨by decide +kernel, by decide +kernel⟩, List.mem_of_getElem? (i := 1036) (by decide +kernel), List.mem_of_getElem? (i := 1337) (by decide +kernel), List.mem_of_getElem? (i := 1338) (by decide +kernel)⟩
theorem lw_p50 : lw_okq (⟨"StateJugglerModel", "tellPattern", "()V"⟩, 66) := ⟨⟨by decide +kernel, by decide +kernel⟩, List.mem_of_getElem? (i := 1036) (by decide +kernel), List.mem_of_getElem? (i := 1341) (by decide +kernel), List.mem_of_getElem? (i := 1342) (by decide +kernel)⟩
theorem lw_p51 : lw_okq (⟨"StateJugglerModel", "toldInt", "(II)I"⟩, 66) := ⟨⟨by decide +kernel, by decide +kernel⟩, List.mem_of_getElem? (i := 1036) (by decide +kernel), List.mem_of_getElem? (i := 1345) (by decide +kernel), List.mem_of_getElem? (i := 1346) (by decide +kernel)⟩
theorem lw_p52 : lw_okq (⟨"StateJugglerModel", "tellLaw", "(I)V"⟩, 66) := ⟨⟨by decide +kernel, by decide +kernel⟩, List.mem_of_getElem? (i := 1036) (by decide +kernel), List.mem_of_getElem? (i := 1349) (by decide +kernel), List.mem_of_getElem? (i := 1350) (by decide +kernel)⟩
theorem lw_p53 : lw_okq (⟨"StateJugglerModel", "expression", "()V"⟩, 66) := ⟨⟨by decide +kernel, by decide +kernel⟩, List.mem_of_getElem? (i := 1036) (by decide +kernel), List.mem_of_getElem? (i := 1353) (by decide +kernel), List.mem_of_getElem? (i := 1354) (by decide +kernel)⟩
theorem lw_p54 : lw_okq (⟨"StateJugglerModel", "unit", "()V"⟩, 66) := ⟨⟨by decide +kernel, by decide +kernel⟩, List.mem_of_getElem? (i := 1036) (by decide +kernel), List.mem_of_getElem? (i := 1357) (by decide +kernel), List.mem_of_getElem? (i := 1358) (by decide +kernel)⟩
theorem lw_p55 : lw_okq (⟨"StateJugglerModel", "emit", "(II)V"⟩, 66) := ⟨⟨by decide +kernel, by decide +kernel⟩, List.mem_of_getElem? (i := 1036) (by decide +kernel), List.mem_of_getElem? (i := 1361) (by decide +kernel), List.mem_of_getElem? (i := 1362) (by decide +kernel)⟩
theorem lw_p56 : lw_okq (⟨"StateJugglerModel", "comesOut", "(Z)V"⟩, 66) := ⟨⟨by decide +kernel, by decide +kernel⟩, List.mem_of_getElem? (i := 1036) (by decide +kernel), List.mem_of_getElem? (i := 1365) (by decide +kernel), List.mem_of_getElem? (i := 1366) (by decide +kernel)⟩
theorem lw_p57 : lw_okq (⟨"StateJugglerModel", "term", "()V"⟩, 66) := ⟨⟨by decide +kernel, by decide +kernel⟩, List.mem_of_getElem? (i := 1036) (by decide +kernel), List.mem_of_getElem? (i := 1369) (by decide +kernel), List.mem_of_getElem? (i := 1370) (by decide +kernel)⟩
theorem lw_p58 : lw_okq (⟨"StateJugglerModel", "isThing", "(I)Z"⟩, 66) := ⟨⟨by decide +kernel, by decide +kernel⟩, List.mem_of_getElem? (i := 1036) (by decide +kernel), List.mem_of_getElem? (i := 1381) (by decide +kernel), List.mem_of_getElem? (i := 1382) (by decide +kernel)⟩
theorem lw_p59 : lw_okq (⟨"StateJugglerModel", "isPattern", "(I)Z"⟩, 66) := ⟨⟨by decide +kernel, by decide +kernel⟩, List.mem_of_getElem? (i := 1036) (by decide +kernel), List.mem_of_getElem? (i := 1392) (by decide +kernel), List.mem_of_getElem? (i := 1393) (by decide +kernel)⟩
theorem lw_p60 : lw_okq (⟨"StateJugglerModel", "lengthOf", "(I)I"⟩, 66) := ⟨⟨by decide +kernel, by decide +kernel⟩, List.mem_of_getElem? (i := 1036) (by decide +kernel), List.mem_of_getElem? (i := 1396) (by decide +kernel), List.mem_of_getElem? (i := 1397) (by decide +kernel)⟩
theorem lw_p61 : lw_okq (⟨"StateJugglerModel", "heightAt", "(II)I"⟩, 66) := ⟨⟨by decide +kernel, by decide +kernel⟩, List.mem_of_getElem? (i := 1036) (by decide +kernel), List.mem_of_getElem? (i := 1400) (by decide +kernel), List.mem_of_getElem? (i := 1401) (by decide +kernel)⟩
theorem lw_p62 : lw_okq (⟨"StateJugglerModel", "copies", "()V"⟩, 66) := ⟨⟨by decide +kernel, by decide +kernel⟩, List.mem_of_getElem? (i := 1036) (by decide +kernel), List.mem_of_getElem? (i := 1408) (by decide +kernel), List.mem_of_getElem? (i := 1409) (by decide +kernel)⟩
theorem lw_p63 : lw_okq (⟨"StateJugglerModel", "thingsSo", "(I)I"⟩, 66) := ⟨⟨by decide +kernel, by decide +kernel⟩, List.mem_of_getElem? (i := 1036) (by decide +kernel), List.mem_of_getElem? (i := 1412) (by decide +kernel), List.mem_of_getElem? (i := 1413) (by decide +kernel)⟩
def lw_privs_4 : List (MethodName × Nat) := [(⟨"StateJugglerModel", "bounded", "(II)I"⟩, 66), (⟨"StateJugglerModel", "ends", "(I)V"⟩, 66), (⟨"StateJugglerModel", "tellPattern", "()V"⟩, 66), (⟨"StateJugglerModel", "toldInt", "(II)I"⟩, 66), (⟨"StateJugglerModel", "tellLaw", "(I)V"⟩, 66), (⟨"StateJugglerModel", "expression", "()V"⟩, 66), (⟨"StateJugglerModel", "unit", "()V"⟩, 66), (⟨"StateJugglerModel", "emit", "(II)V"⟩, 66), (⟨"StateJugglerModel", "comesOut", "(Z)V"⟩, 66), (⟨"StateJugglerModel", "term", "()V"⟩, 66), (⟨"StateJugglerModel", "isThing", "(I)Z"⟩, 66), (⟨"StateJugglerModel", "isPattern", "(I)Z"⟩, 66), (⟨"StateJugglerModel", "lengthOf", "(I)I"⟩, 66), (⟨"StateJugglerModel", "heightAt", "(II)I"⟩, 66), (⟨"StateJugglerModel", "copies", "()V"⟩, 66), (⟨"StateJugglerModel", "thingsSo", "(I)I"⟩, 66)]
theorem lw_r4 : ∀ q ∈ lw_privs_4, lw_okq q := List.forall_mem_cons.mpr ⟨lw_p48, List.forall_mem_cons.mpr ⟨lw_p49, List.forall_mem_cons.mpr ⟨lw_p50, List.forall_mem_cons.mpr ⟨lw_p51, List.forall_mem_cons.mpr ⟨lw_p52, List.forall_mem_cons.mpr ⟨lw_p53, List.forall_mem_cons.mpr ⟨lw_p54, List.forall_mem_cons.mpr ⟨lw_p55, List.forall_mem_cons.mpr ⟨lw_p56, List.forall_mem_cons.mpr ⟨lw_p57, List.forall_mem_cons.mpr ⟨lw_p58, List.forall_mem_cons.mpr ⟨lw_p59, List.forall_mem_cons.mpr ⟨lw_p60, List.forall_mem_cons.mpr ⟨lw_p61, List.forall_mem_cons.mpr ⟨lw_p62, List.forall_mem_cons.mpr ⟨lw_p63, fun _ h => absurd h List.not_mem_nil⟩⟩⟩⟩⟩⟩⟩⟩⟩⟩⟩⟩⟩⟩⟩⟩
theorem lw_p64 : lw_okq (⟨"StateJugglerModel", "tiresBy", "(III)I"⟩, 66) := ⟨⟨by decide +kernel, by decide +kernel⟩, List.mem_of_getElem? (i := 1036) (by decide +kernel), List.mem_of_getElem? (i := 1419) (by decide +kernel), List.mem_of_getElem? (i := 1420) (by decide +kernel)⟩
theorem lw_p65 : lw_okq (⟨"StateJugglerModel", "looksAt", "(III)V"⟩, 66) := ⟨⟨by decide +kernel, by decide +kernel⟩, List.mem_of_getElem? (i := 1036) (by decide +kernel), List.mem_of_getElem? (i := 1423) (by decide +kernel), List.mem_of_getElem? (i := 1424) (by decide +kernel)⟩
theorem lw_p66 : lw_okq (⟨"StateJugglerModel", "lawTells", "(II)I"⟩, 66) := ⟨⟨by decide +kernel, by decide +kernel⟩, List.mem_of_getElem? (i := 1036) (by decide +kernel), List.mem_of_getElem? (i := 1427) (by decide +kernel), List.mem_of_getElem? (i := 1428) (by decide +kernel)⟩
theorem lw_p67 : lw_okq (⟨"StateJugglerModel", "termOf", "(II)I"⟩, 66) := ⟨⟨by decide +kernel, by decide +kernel⟩, List.mem_of_getElem? (i := 1036) (by decide +kernel), List.mem_of_getElem? (i := 1431) (by decide +kernel), List.mem_of_getElem? (i := 1432) (by decide +kernel)⟩
theorem lw_p68 : lw_okq (⟨"StateJugglerModel", "dropsBy", "(III)I"⟩, 66) := ⟨⟨by decide +kernel, by decide +kernel⟩, List.mem_of_getElem? (i := 1036) (by decide +kernel), List.mem_of_getElem? (i := 1438) (by decide +kernel), List.mem_of_getElem? (i := 1439) (by decide +kernel)⟩
theorem lw_p69 : lw_okq (⟨"StateJugglerModel", "forceOf", "(II)I"⟩, 66) := ⟨⟨by decide +kernel, by decide +kernel⟩, List.mem_of_getElem? (i := 1036) (by decide +kernel), List.mem_of_getElem? (i := 1442) (by decide +kernel), List.mem_of_getElem? (i := 1443) (by decide +kernel)⟩
theorem lw_p70 : lw_okq (⟨"StateJugglerModel", "paysOf", "(II)I"⟩, 66) := ⟨⟨by decide +kernel, by decide +kernel⟩, List.mem_of_getElem? (i := 1036) (by decide +kernel), List.mem_of_getElem? (i := 1446) (by decide +kernel), List.mem_of_getElem? (i := 1447) (by decide +kernel)⟩
theorem lw_p71 : lw_okq (⟨"StateJugglerModel", "records", "()V"⟩, 66) := ⟨⟨by decide +kernel, by decide +kernel⟩, List.mem_of_getElem? (i := 1036) (by decide +kernel), List.mem_of_getElem? (i := 1454) (by decide +kernel), List.mem_of_getElem? (i := 1455) (by decide +kernel)⟩
theorem lw_p72 : lw_okq (⟨"StateJugglerModel", "uses", "(I)V"⟩, 66) := ⟨⟨by decide +kernel, by decide +kernel⟩, List.mem_of_getElem? (i := 1036) (by decide +kernel), List.mem_of_getElem? (i := 1462) (by decide +kernel), List.mem_of_getElem? (i := 1463) (by decide +kernel)⟩
theorem lw_p73 : lw_okq (⟨"StateJugglerModel", "goes", "(I)V"⟩, 66) := ⟨⟨by decide +kernel, by decide +kernel⟩, List.mem_of_getElem? (i := 1036) (by decide +kernel), List.mem_of_getElem? (i := 1477) (by decide +kernel), List.mem_of_getElem? (i := 1478) (by decide +kernel)⟩
theorem lw_p74 : lw_okq (⟨"StateJugglerModel", "beatGoes", "()V"⟩, 66) := ⟨⟨by decide +kernel, by decide +kernel⟩, List.mem_of_getElem? (i := 1036) (by decide +kernel), List.mem_of_getElem? (i := 1481) (by decide +kernel), List.mem_of_getElem? (i := 1482) (by decide +kernel)⟩
theorem lw_p75 : lw_okq (⟨"StateJugglerModel", "catchesNow", "()I"⟩, 66) := ⟨⟨by decide +kernel, by decide +kernel⟩, List.mem_of_getElem? (i := 1036) (by decide +kernel), List.mem_of_getElem? (i := 1485) (by decide +kernel), List.mem_of_getElem? (i := 1486) (by decide +kernel)⟩
theorem lw_p76 : lw_okq (⟨"StateJugglerModel", "doesLand", "(II)Z"⟩, 66) := ⟨⟨by decide +kernel, by decide +kernel⟩, List.mem_of_getElem? (i := 1036) (by decide +kernel), List.mem_of_getElem? (i := 1489) (by decide +kernel), List.mem_of_getElem? (i := 1490) (by decide +kernel)⟩
theorem lw_p77 : lw_okq (⟨"StateJugglerModel", "dropsOthers", "()V"⟩, 66) := ⟨⟨by decide +kernel, by decide +kernel⟩, List.mem_of_getElem? (i := 1036) (by decide +kernel), List.mem_of_getElem? (i := 1493) (by decide +kernel), List.mem_of_getElem? (i := 1494) (by decide +kernel)⟩
theorem lw_p78 : lw_okq (⟨"StateJugglerModel", "catches", "(I)V"⟩, 66) := ⟨⟨by decide +kernel, by decide +kernel⟩, List.mem_of_getElem? (i := 1036) (by decide +kernel), List.mem_of_getElem? (i := 1497) (by decide +kernel), List.mem_of_getElem? (i := 1498) (by decide +kernel)⟩
theorem lw_p79 : lw_okq (⟨"StateJugglerModel", "heightNow", "()I"⟩, 66) := ⟨⟨by decide +kernel, by decide +kernel⟩, List.mem_of_getElem? (i := 1036) (by decide +kernel), List.mem_of_getElem? (i := 1501) (by decide +kernel), List.mem_of_getElem? (i := 1502) (by decide +kernel)⟩
def lw_privs_5 : List (MethodName × Nat) := [(⟨"StateJugglerModel", "tiresBy", "(III)I"⟩, 66), (⟨"StateJugglerModel", "looksAt", "(III)V"⟩, 66), (⟨"StateJugglerModel", "lawTells", "(II)I"⟩, 66), (⟨"StateJugglerModel", "termOf", "(II)I"⟩, 66), (⟨"StateJugglerModel", "dropsBy", "(III)I"⟩, 66), (⟨"StateJugglerModel", "forceOf", "(II)I"⟩, 66), (⟨"StateJugglerModel", "paysOf", "(II)I"⟩, 66), (⟨"StateJugglerModel", "records", "()V"⟩, 66), (⟨"StateJugglerModel", "uses", "(I)V"⟩, 66), (⟨"StateJugglerModel", "goes", "(I)V"⟩, 66), (⟨"StateJugglerModel", "beatGoes", "()V"⟩, 66), (⟨"StateJugglerModel", "catchesNow", "()I"⟩, 66), (⟨"StateJugglerModel", "doesLand", "(II)Z"⟩, 66), (⟨"StateJugglerModel", "dropsOthers", "()V"⟩, 66), (⟨"StateJugglerModel", "catches", "(I)V"⟩, 66), (⟨"StateJugglerModel", "heightNow", "()I"⟩, 66)]
theorem lw_r5 : ∀ q ∈ lw_privs_5, lw_okq q := List.forall_mem_cons.mpr ⟨lw_p64, List.forall_mem_cons.mpr ⟨lw_p65, List.forall_mem_cons.mpr ⟨lw_p66, List.forall_mem_cons.mpr ⟨lw_p67, List.forall_mem_cons.mpr ⟨lw_p68, List.forall_mem_cons.mpr ⟨lw_p69, List.forall_mem_cons.mpr ⟨lw_p70, List.forall_mem_cons.mpr ⟨lw_p71, List.forall_mem_cons.mpr ⟨lw_p72, List.forall_mem_cons.mpr ⟨lw_p73, List.forall_mem_cons.mpr ⟨lw_p74, List.forall_mem_cons.mpr ⟨lw_p75, List.forall_mem_cons.mpr ⟨lw_p76, List.forall_mem_cons.mpr ⟨lw_p77, List.forall_mem_cons.mpr ⟨lw_p78, List.forall_mem_cons.mpr ⟨lw_p79, fun _ h => absurd h List.not_mem_nil⟩⟩⟩⟩⟩⟩⟩⟩⟩⟩⟩⟩⟩⟩⟩⟩
theorem lw_p80 : lw_okq (⟨"StateJugglerModel", "lotNow", "()I"⟩, 66) := ⟨⟨by decide +kernel, by decide +kernel⟩, List.mem_of_getElem? (i := 1036) (by decide +kernel), List.mem_of_getElem? (i := 1505) (by decide +kernel), List.mem_of_getElem? (i := 1506) (by decide +kernel)⟩
theorem lw_p81 : lw_okq (⟨"StateJugglerModel", "isThrown", "(IIII)V"⟩, 66) := ⟨⟨by decide +kernel, by decide +kernel⟩, List.mem_of_getElem? (i := 1036) (by decide +kernel), List.mem_of_getElem? (i := 1513) (by decide +kernel), List.mem_of_getElem? (i := 1514) (by decide +kernel)⟩
theorem lw_p82 : lw_okq (⟨"StateJugglerModel", "keepsOf", "(I)I"⟩, 66) := ⟨⟨by decide +kernel, by decide +kernel⟩, List.mem_of_getElem? (i := 1036) (by decide +kernel), List.mem_of_getElem? (i := 1525) (by decide +kernel), List.mem_of_getElem? (i := 1526) (by decide +kernel)⟩
theorem lw_p83 : lw_okq (⟨"StateJugglerModel", "takesPattern", "(II)V"⟩, 66) := ⟨⟨by decide +kernel, by decide +kernel⟩, List.mem_of_getElem? (i := 1036) (by decide +kernel), List.mem_of_getElem? (i := 1529) (by decide +kernel), List.mem_of_getElem? (i := 1530) (by decide +kernel)⟩
theorem lw_p84 : lw_okq (⟨"StateJugglerModel", "keeps", "()I"⟩, 66) := ⟨⟨by decide +kernel, by decide +kernel⟩, List.mem_of_getElem? (i := 1036) (by decide +kernel), List.mem_of_getElem? (i := 1533) (by decide +kernel), List.mem_of_getElem? (i := 1534) (by decide +kernel)⟩
theorem lw_p85 : lw_okq (⟨"StateJugglerModel", "isTurned", "(III)Z"⟩, 66) := ⟨⟨by decide +kernel, by decide +kernel⟩, List.mem_of_getElem? (i := 1036) (by decide +kernel), List.mem_of_getElem? (i := 1548) (by decide +kernel), List.mem_of_getElem? (i := 1549) (by decide +kernel)⟩
theorem lw_p86 : lw_okq (⟨"StateJugglerModel", "landsAt", "(I)I"⟩, 66) := ⟨⟨by decide +kernel, by decide +kernel⟩, List.mem_of_getElem? (i := 1036) (by decide +kernel), List.mem_of_getElem? (i := 1568) (by decide +kernel), List.mem_of_getElem? (i := 1569) (by decide +kernel)⟩
theorem lw_p87 : lw_okq (⟨"StateJugglerModel", "copiesStill", "()V"⟩, 66) := ⟨⟨by decide +kernel, by decide +kernel⟩, List.mem_of_getElem? (i := 1036) (by decide +kernel), List.mem_of_getElem? (i := 1576) (by decide +kernel), List.mem_of_getElem? (i := 1577) (by decide +kernel)⟩
theorem lw_p88 : lw_okq (⟨"StateJugglerModel", "aimOf", "(I)I"⟩, 66) := ⟨⟨by decide +kernel, by decide +kernel⟩, List.mem_of_getElem? (i := 1036) (by decide +kernel), List.mem_of_getElem? (i := 1589) (by decide +kernel), List.mem_of_getElem? (i := 1590) (by decide +kernel)⟩
theorem lw_p89 : lw_okq (⟨"StateJugglerModel", "fillsFar", "(I)V"⟩, 66) := ⟨⟨by decide +kernel, by decide +kernel⟩, List.mem_of_getElem? (i := 1036) (by decide +kernel), List.mem_of_getElem? (i := 1593) (by decide +kernel), List.mem_of_getElem? (i := 1594) (by decide +kernel)⟩
theorem lw_p90 : lw_okq (⟨"StateJugglerModel", "areTwoSoon", "()Z"⟩, 66) := ⟨⟨by decide +kernel, by decide +kernel⟩, List.mem_of_getElem? (i := 1036) (by decide +kernel), List.mem_of_getElem? (i := 1600) (by decide +kernel), List.mem_of_getElem? (i := 1601) (by decide +kernel)⟩
theorem lw_p91 : lw_okq (⟨"StateJugglerModel", "firstOf", "(I)I"⟩, 66) := ⟨⟨by decide +kernel, by decide +kernel⟩, List.mem_of_getElem? (i := 1036) (by decide +kernel), List.mem_of_getElem? (i := 1604) (by decide +kernel), List.mem_of_getElem? (i := 1605) (by decide +kernel)⟩
theorem lw_p92 : lw_okq (⟨"StateJugglerModel", "hasRoom", "(II)Z"⟩, 66) := ⟨⟨by decide +kernel, by decide +kernel⟩, List.mem_of_getElem? (i := 1036) (by decide +kernel), List.mem_of_getElem? (i := 1612) (by decide +kernel), List.mem_of_getElem? (i := 1613) (by decide +kernel)⟩
theorem lw_p93 : lw_okq (⟨"StateJugglerModel", "glitterBits", "(I)I"⟩, 66) := ⟨⟨by decide +kernel, by decide +kernel⟩, List.mem_of_getElem? (i := 1036) (by decide +kernel), List.mem_of_getElem? (i := 1680) (by decide +kernel), List.mem_of_getElem? (i := 1681) (by decide +kernel)⟩
theorem lw_p94 : lw_okq (⟨"StateJugglerModel", "weightsOf", "(I)I"⟩, 66) := ⟨⟨by decide +kernel, by decide +kernel⟩, List.mem_of_getElem? (i := 1036) (by decide +kernel), List.mem_of_getElem? (i := 1700) (by decide +kernel), List.mem_of_getElem? (i := 1701) (by decide +kernel)⟩
def lw_privs_6 : List (MethodName × Nat) := [(⟨"StateJugglerModel", "lotNow", "()I"⟩, 66), (⟨"StateJugglerModel", "isThrown", "(IIII)V"⟩, 66), (⟨"StateJugglerModel", "keepsOf", "(I)I"⟩, 66), (⟨"StateJugglerModel", "takesPattern", "(II)V"⟩, 66), (⟨"StateJugglerModel", "keeps", "()I"⟩, 66), (⟨"StateJugglerModel", "isTurned", "(III)Z"⟩, 66), (⟨"StateJugglerModel", "landsAt", "(I)I"⟩, 66), (⟨"StateJugglerModel", "copiesStill", "()V"⟩, 66), (⟨"StateJugglerModel", "aimOf", "(I)I"⟩, 66), (⟨"StateJugglerModel", "fillsFar", "(I)V"⟩, 66), (⟨"StateJugglerModel", "areTwoSoon", "()Z"⟩, 66), (⟨"StateJugglerModel", "firstOf", "(I)I"⟩, 66), (⟨"StateJugglerModel", "hasRoom", "(II)Z"⟩, 66), (⟨"StateJugglerModel", "glitterBits", "(I)I"⟩, 66), (⟨"StateJugglerModel", "weightsOf", "(I)I"⟩, 66)]
theorem lw_r6 : ∀ q ∈ lw_privs_6, lw_okq q := List.forall_mem_cons.mpr ⟨lw_p80, List.forall_mem_cons.mpr ⟨lw_p81, List.forall_mem_cons.mpr ⟨lw_p82, List.forall_mem_cons.mpr ⟨lw_p83, List.forall_mem_cons.mpr ⟨lw_p84, List.forall_mem_cons.mpr ⟨lw_p85, List.forall_mem_cons.mpr ⟨lw_p86, List.forall_mem_cons.mpr ⟨lw_p87, List.forall_mem_cons.mpr ⟨lw_p88, List.forall_mem_cons.mpr ⟨lw_p89, List.forall_mem_cons.mpr ⟨lw_p90, List.forall_mem_cons.mpr ⟨lw_p91, List.forall_mem_cons.mpr ⟨lw_p92, List.forall_mem_cons.mpr ⟨lw_p93, List.forall_mem_cons.mpr ⟨lw_p94, fun _ h => absurd h List.not_mem_nil⟩⟩⟩⟩⟩⟩⟩⟩⟩⟩⟩⟩⟩⟩⟩
def lw_privs : List (MethodName × Nat) := lw_privs_1 ++ (lw_privs_2 ++ (lw_privs_3 ++ (lw_privs_4 ++ (lw_privs_5 ++ (lw_privs_6)))))
def lw_tbl : List Cond := k2_sels lw_privs ++ tables_1
theorem lw_privs_ok : ∀ q ∈ lw_privs, lw_okq q := by
  show ∀ q ∈ lw_privs_1 ++ (lw_privs_2 ++ (lw_privs_3 ++ (lw_privs_4 ++ (lw_privs_5 ++ (lw_privs_6))))), lw_okq q
  exact List.forall_mem_append.mpr ⟨lw_r1, List.forall_mem_append.mpr ⟨lw_r2, List.forall_mem_append.mpr ⟨lw_r3, List.forall_mem_append.mpr ⟨lw_r4, List.forall_mem_append.mpr ⟨lw_r5, lw_r6⟩⟩⟩⟩⟩
def RX0 : String := "StateJuggler$Air"
def TX0 : u_T := fun k => match k with
  | 0 => ("StateJuggler$Air", "things", "I", false)
  | 1 => ("StateJuggler$Air", "where", "[I", true)
  | 2 => ("StateJuggler$Air", "landsIn", "[I", true)
  | 3 => ("StateJuggler$Air", "catches", "[I", true)
  | 4 => ("StateJuggler$Air", "beat", "I", false)
  | 5 => ("StateJuggler$Air", "tired", "I", false)
  | 6 => ("StateJuggler$Air", "dropped", "I", false)
  | 7 => ("StateJuggler$Air", "caught", "I", false)
  | 8 => ("StateJuggler$Air", "earned", "I", false)
  | 9 => ("StateJuggler$Air", "inUse", "I", false)
  | 10 => ("StateJuggler$Air", "sinceBeat", "I", false)
  | _ => ("StateJuggler$Air", "byHand", "I", false)
def tyX0 : Nat → FieldType := fun k => match k with
  | 0 => .int
  | 1 => .array .int
  | 2 => .array .int
  | 3 => .array .int
  | 4 => .int
  | 5 => .int
  | 6 => .int
  | 7 => .int
  | 8 => .int
  | 9 => .int
  | 10 => .int
  | _ => .int
abbrev wsX00 : List Cond := u_ws RX0 TX0 12
theorem nmX0 : ∀ a, a < 12 → ∀ b, b < 12 → a ≠ b → (TX0 a).2.1 ≠ (TX0 b).2.1 := by decide +kernel
theorem tyX0_ok : ∀ k, k < 12 → parseFieldDescriptor (TX0 k).2.2.1 = some (tyX0 k) := by decide +kernel
abbrev cX0_init : ByteArray := prog_2_method_1_code
def yX0_init : MethodName := ⟨RX0, "<init>", "()V"⟩
abbrev cX0_begin : ByteArray := prog_2_method_2_code
def yX0_begin : MethodName := ⟨RX0, "begin", "(LStateJuggler$Text;)V"⟩
abbrev cX0_copy : ByteArray := prog_2_method_3_code
def yX0_copy : MethodName := ⟨RX0, "copy", "(LStateJuggler$Air;)V"⟩
abbrev cX0_isUp : ByteArray := prog_2_method_4_code
def yX0_isUp : MethodName := ⟨RX0, "isUp", "(I)Z"⟩
abbrev cX0_landsNow : ByteArray := prog_2_method_5_code
def yX0_landsNow : MethodName := ⟨RX0, "landsNow", "(I)Z"⟩
abbrev cX0_putUp : ByteArray := prog_2_method_6_code
def yX0_putUp : MethodName := ⟨RX0, "putUp", "(II)V"⟩
abbrev cX0_takeUp : ByteArray := prog_2_method_7_code
def yX0_takeUp : MethodName := ⟨RX0, "takeUp", "(I)V"⟩
abbrev cX0_drop : ByteArray := prog_2_method_8_code
def yX0_drop : MethodName := ⟨RX0, "drop", "(I)V"⟩
abbrev cX0_bitsOf : ByteArray := prog_2_method_9_code
def yX0_bitsOf : MethodName := ⟨RX0, "bitsOf", "(I)I"⟩
abbrev cX0_howManyUp : ByteArray := prog_2_method_10_code
def yX0_howManyUp : MethodName := ⟨RX0, "howManyUp", "()I"⟩
abbrev cX0_howManyLand : ByteArray := prog_2_method_11_code
def yX0_howManyLand : MethodName := ⟨RX0, "howManyLand", "()I"⟩
abbrev cX0_firstLanding : ByteArray := prog_2_method_12_code
def yX0_firstLanding : MethodName := ⟨RX0, "firstLanding", "()I"⟩
abbrev cX0_landingBits : ByteArray := prog_2_method_13_code
def yX0_landingBits : MethodName := ⟨RX0, "landingBits", "()I"⟩
abbrev cX0_twoLandAlike : ByteArray := prog_2_method_14_code
def yX0_twoLandAlike : MethodName := ⟨RX0, "twoLandAlike", "()Z"⟩
abbrev cX0_heightBy : ByteArray := prog_2_method_15_code
def yX0_heightBy : MethodName := ⟨RX0, "heightBy", "(LStateJuggler$Text;)I"⟩
def RX1 : String := "StateJuggler$Asked"
def TX1 : u_T := fun k => match k with
  | 0 => ("StateJuggler$Asked", "vars", "[I", true)
  | 1 => ("StateJuggler$Asked", "stack", "[I", true)
  | 2 => ("StateJuggler$Asked", "top", "I", false)
  | _ => ("StateJuggler$Asked", "failed", "Z", false)
def tyX1 : Nat → FieldType := fun k => match k with
  | 0 => .array .int
  | 1 => .array .int
  | 2 => .int
  | _ => .boolean
abbrev wsX10 : List Cond := u_ws RX1 TX1 4
theorem nmX1 : ∀ a, a < 4 → ∀ b, b < 4 → a ≠ b → (TX1 a).2.1 ≠ (TX1 b).2.1 := by decide +kernel
theorem tyX1_ok : ∀ k, k < 4 → parseFieldDescriptor (TX1 k).2.2.1 = some (tyX1 k) := by decide +kernel
abbrev cX1_init : ByteArray := prog_3_method_1_code
def yX1_init : MethodName := ⟨RX1, "<init>", "()V"⟩
abbrev cX1_answer : ByteArray := prog_3_method_2_code
def yX1_answer : MethodName := ⟨RX1, "answer", "([II)I"⟩
abbrev cX1_reckon : ByteArray := prog_3_method_3_code
def yX1_reckon : MethodName := ⟨RX1, "reckon", "(III)I"⟩
abbrev cX1_push : ByteArray := prog_3_method_4_code
def yX1_push : MethodName := ⟨RX1, "push", "(I)V"⟩
abbrev cX1_pop : ByteArray := prog_3_method_5_code
def yX1_pop : MethodName := ⟨RX1, "pop", "()I"⟩
def RX2 : String := "StateJuggler$Hearsay"
def TX2 : u_T := fun k => match k with
  | 0 => ("StateJuggler$Hearsay", "ahead", "[I", true)
  | 1 => ("StateJuggler$Hearsay", "wasInHand", "[Z", true)
  | _ => ("StateJuggler$Hearsay", "size", "I", false)
def tyX2 : Nat → FieldType := fun k => match k with
  | 0 => .array .int
  | 1 => .array .boolean
  | _ => .int
abbrev wsX20 : List Cond := u_ws RX2 TX2 3
theorem nmX2 : ∀ a, a < 3 → ∀ b, b < 3 → a ≠ b → (TX2 a).2.1 ≠ (TX2 b).2.1 := by decide +kernel
theorem tyX2_ok : ∀ k, k < 3 → parseFieldDescriptor (TX2 k).2.2.1 = some (tyX2 k) := by decide +kernel
abbrev cX2_init : ByteArray := prog_4_method_1_code
def yX2_init : MethodName := ⟨RX2, "<init>", "()V"⟩
abbrev cX2_add : ByteArray := prog_4_method_2_code
def yX2_add : MethodName := ⟨RX2, "add", "(IZ)I"⟩
abbrev cX2_agreeing : ByteArray := prog_4_method_3_code
def yX2_agreeing : MethodName := ⟨RX2, "agreeing", "(II[I)I"⟩
def RX3 : String := "StateJuggler$Heights"
def TX3 : u_T := fun k => match k with
  | _ => ("", "", "", false)
def tyX3 : Nat → FieldType := fun k => match k with
  | _ => .int
abbrev wsX30 : List Cond := u_ws RX3 TX3 0
theorem nmX3 : ∀ a, a < 0 → ∀ b, b < 0 → a ≠ b → (TX3 a).2.1 ≠ (TX3 b).2.1 := by decide +kernel
theorem tyX3_ok : ∀ k, k < 0 → parseFieldDescriptor (TX3 k).2.2.1 = some (tyX3 k) := by decide +kernel
abbrev cX3_close : ByteArray := prog_5_method_2_code
def yX3_close : MethodName := ⟨RX3, "close", "([II)Z"⟩
abbrev cX3_kept : ByteArray := prog_5_method_3_code
def yX3_kept : MethodName := ⟨RX3, "kept", "([II)I"⟩
abbrev cX3_highest : ByteArray := prog_5_method_4_code
def yX3_highest : MethodName := ⟨RX3, "highest", "([II)I"⟩
abbrev cX3_turns : ByteArray := prog_5_method_5_code
def yX3_turns : MethodName := ⟨RX3, "turns", "([I[II)I"⟩
abbrev cX3_rounds : ByteArray := prog_5_method_6_code
def yX3_rounds : MethodName := ⟨RX3, "rounds", "([II)I"⟩
abbrev cX3_pairsToSwap : ByteArray := prog_5_method_7_code
def yX3_pairsToSwap : MethodName := ⟨RX3, "pairsToSwap", "([II)I"⟩
abbrev cX3_landingBits : ByteArray := prog_5_method_8_code
def yX3_landingBits : MethodName := ⟨RX3, "landingBits", "([II)I"⟩
def RX4 : String := "StateJuggler$Juggler"
def TX4 : u_T := fun k => match k with
  | _ => ("StateJuggler$Juggler", "asked", "LStateJuggler$Asked;", true)
def tyX4 : Nat → FieldType := fun k => match k with
  | _ => .object "StateJuggler$Asked"
abbrev wsX40 : List Cond := u_ws RX4 TX4 1
theorem nmX4 : ∀ a, a < 1 → ∀ b, b < 1 → a ≠ b → (TX4 a).2.1 ≠ (TX4 b).2.1 := by decide +kernel
theorem tyX4_ok : ∀ k, k < 1 → parseFieldDescriptor (TX4 k).2.2.1 = some (tyX4 k) := by decide +kernel
abbrev cX4_init : ByteArray := prog_6_method_1_code
def yX4_init : MethodName := ⟨RX4, "<init>", "()V"⟩
abbrev cX4_goOn : ByteArray := prog_6_method_2_code
def yX4_goOn : MethodName := ⟨RX4, "goOn", "(LStateJuggler$Text;LStateJuggler$Air;II)V"⟩
abbrev cX4_goOnSafely : ByteArray := prog_6_method_3_code
def yX4_goOnSafely : MethodName := ⟨RX4, "goOnSafely", "(LStateJuggler$Text;LStateJuggler$Air;)V"⟩
abbrev cX4_inForce : ByteArray := prog_6_method_4_code
def yX4_inForce : MethodName := ⟨RX4, "inForce", "(LStateJuggler$Text;LStateJuggler$Air;)I"⟩
abbrev cX4_oneBeat : ByteArray := prog_6_method_5_code
def yX4_oneBeat : MethodName := ⟨RX4, "oneBeat", "(LStateJuggler$Text;LStateJuggler$Air;I)V"⟩
abbrev cX4_catchOne : ByteArray := prog_6_method_6_code
def yX4_catchOne : MethodName := ⟨RX4, "catchOne", "(LStateJuggler$Text;LStateJuggler$Air;II)V"⟩
abbrev cX4_lookAt : ByteArray := prog_6_method_7_code
def yX4_lookAt : MethodName := ⟨RX4, "lookAt", "(LStateJuggler$Text;LStateJuggler$Air;II)V"⟩
abbrev cX4_asks : ByteArray := prog_6_method_8_code
def yX4_asks : MethodName := ⟨RX4, "asks", "(LStateJuggler$Text;II)I"⟩
abbrev cX4_lot : ByteArray := prog_6_method_9_code
def yX4_lot : MethodName := ⟨RX4, "lot", "(III)I"⟩
abbrev cX4_stir : ByteArray := prog_6_method_10_code
def yX4_stir : MethodName := ⟨RX4, "stir", "(II)I"⟩
def RX5 : String := "StateJuggler$Past"
def TX5 : u_T := fun k => match k with
  | 0 => ("StateJuggler$Past", "ring", "[LStateJuggler$Air;", true)
  | 1 => ("StateJuggler$Past", "next", "I", false)
  | _ => ("StateJuggler$Past", "size", "I", false)
def tyX5 : Nat → FieldType := fun k => match k with
  | 0 => .array (.object "StateJuggler$Air")
  | 1 => .int
  | _ => .int
abbrev wsX50 : List Cond := u_ws RX5 TX5 3
theorem nmX5 : ∀ a, a < 3 → ∀ b, b < 3 → a ≠ b → (TX5 a).2.1 ≠ (TX5 b).2.1 := by decide +kernel
theorem tyX5_ok : ∀ k, k < 3 → parseFieldDescriptor (TX5 k).2.2.1 = some (tyX5 k) := by decide +kernel
abbrev cX5_init : ByteArray := prog_7_method_1_code
def yX5_init : MethodName := ⟨RX5, "<init>", "()V"⟩
abbrev cX5_clear : ByteArray := prog_7_method_2_code
def yX5_clear : MethodName := ⟨RX5, "clear", "()V"⟩
abbrev cX5_keep : ByteArray := prog_7_method_3_code
def yX5_keep : MethodName := ⟨RX5, "keep", "(LStateJuggler$Air;)V"⟩
abbrev cX5_giveBack : ByteArray := prog_7_method_4_code
def yX5_giveBack : MethodName := ⟨RX5, "giveBack", "(LStateJuggler$Air;)Z"⟩
def RX6 : String := "StateJuggler$Reader"
def TX6 : u_T := fun k => match k with
  | 0 => ("StateJuggler$Reader", "tape", "LStateJuggler$Tape;", true)
  | 1 => ("StateJuggler$Reader", "faultPlace", "I", false)
  | 2 => ("StateJuggler$Reader", "fault", "I", false)
  | 3 => ("StateJuggler$Reader", "laterFault", "I", false)
  | 4 => ("StateJuggler$Reader", "laterPlace", "I", false)
  | 5 => ("StateJuggler$Reader", "ahead", "I", false)
  | 6 => ("StateJuggler$Reader", "kind", "I", false)
  | 7 => ("StateJuggler$Reader", "took", "I", false)
  | 8 => ("StateJuggler$Reader", "names", "[J", true)
  | _ => ("StateJuggler$Reader", "nameCount", "I", false)
def tyX6 : Nat → FieldType := fun k => match k with
  | 0 => .object "StateJuggler$Tape"
  | 1 => .int
  | 2 => .int
  | 3 => .int
  | 4 => .int
  | 5 => .int
  | 6 => .int
  | 7 => .int
  | 8 => .array .long
  | _ => .int
abbrev wsX60 : List Cond := u_ws RX6 TX6 10
theorem nmX6 : ∀ a, a < 10 → ∀ b, b < 10 → a ≠ b → (TX6 a).2.1 ≠ (TX6 b).2.1 := by decide +kernel
theorem tyX6_ok : ∀ k, k < 10 → parseFieldDescriptor (TX6 k).2.2.1 = some (tyX6 k) := by decide +kernel
abbrev cX6_init : ByteArray := prog_8_method_1_code
def yX6_init : MethodName := ⟨RX6, "<init>", "()V"⟩
abbrev cX6_readInto : ByteArray := prog_8_method_2_code
def yX6_readInto : MethodName := ⟨RX6, "readInto", "(LStateJuggler$Text;)I"⟩
abbrev cX6_take : ByteArray := prog_8_method_3_code
def yX6_take : MethodName := ⟨RX6, "take", "(I)Z"⟩
abbrev cX6_refuse : ByteArray := prog_8_method_4_code
def yX6_refuse : MethodName := ⟨RX6, "refuse", "(I)Z"⟩
abbrev cX6_noteLater : ByteArray := prog_8_method_5_code
def yX6_noteLater : MethodName := ⟨RX6, "noteLater", "(I)V"⟩
abbrev cX6_takeNumber : ByteArray := prog_8_method_6_code
def yX6_takeNumber : MethodName := ⟨RX6, "takeNumber", "(II)Z"⟩
abbrev cX6_takeName : ByteArray := prog_8_method_7_code
def yX6_takeName : MethodName := ⟨RX6, "takeName", "()Z"⟩
abbrev cX6_telling : ByteArray := prog_8_method_8_code
def yX6_telling : MethodName := ⟨RX6, "telling", "(LStateJuggler$Text;)Z"⟩
abbrev cX6_tellingThing : ByteArray := prog_8_method_9_code
def yX6_tellingThing : MethodName := ⟨RX6, "tellingThing", "(LStateJuggler$Text;)Z"⟩
abbrev cX6_tellingPattern : ByteArray := prog_8_method_10_code
def yX6_tellingPattern : MethodName := ⟨RX6, "tellingPattern", "(LStateJuggler$Text;)Z"⟩
abbrev cX6_tellingLaw : ByteArray := prog_8_method_11_code
def yX6_tellingLaw : MethodName := ⟨RX6, "tellingLaw", "(LStateJuggler$Text;I)Z"⟩
abbrev cX6_condition : ByteArray := prog_8_method_12_code
def yX6_condition : MethodName := ⟨RX6, "condition", "(LStateJuggler$Text;)Z"⟩
abbrev cX6_expression : ByteArray := prog_8_method_13_code
def yX6_expression : MethodName := ⟨RX6, "expression", "(LStateJuggler$Text;I)Z"⟩
abbrev cX6_product : ByteArray := prog_8_method_14_code
def yX6_product : MethodName := ⟨RX6, "product", "(LStateJuggler$Text;I)Z"⟩
abbrev cX6_unit : ByteArray := prog_8_method_15_code
def yX6_unit : MethodName := ⟨RX6, "unit", "(LStateJuggler$Text;I)Z"⟩
def RX7 : String := "StateJuggler$Route"
def TX7 : u_T := fun k => match k with
  | 0 => ("StateJuggler$Route", "queue", "[I", true)
  | 1 => ("StateJuggler$Route", "tail", "I", false)
  | 2 => ("StateJuggler$Route", "from", "[I", true)
  | 3 => ("StateJuggler$Route", "by", "[I", true)
  | 4 => ("StateJuggler$Route", "heights", "[I", true)
  | _ => ("StateJuggler$Route", "size", "I", false)
def tyX7 : Nat → FieldType := fun k => match k with
  | 0 => .array .int
  | 1 => .int
  | 2 => .array .int
  | 3 => .array .int
  | 4 => .array .int
  | _ => .int
abbrev wsX70 : List Cond := u_ws RX7 TX7 6
theorem nmX7 : ∀ a, a < 6 → ∀ b, b < 6 → a ≠ b → (TX7 a).2.1 ≠ (TX7 b).2.1 := by decide +kernel
theorem tyX7_ok : ∀ k, k < 6 → parseFieldDescriptor (TX7 k).2.2.1 = some (tyX7 k) := by decide +kernel
abbrev cX7_init : ByteArray := prog_9_method_1_code
def yX7_init : MethodName := ⟨RX7, "<init>", "()V"⟩
abbrev cX7_find : ByteArray := prog_9_method_2_code
def yX7_find : MethodName := ⟨RX7, "find", "(II)Z"⟩
abbrev cX7_goOnFrom : ByteArray := prog_9_method_3_code
def yX7_goOnFrom : MethodName := ⟨RX7, "goOnFrom", "(I)V"⟩
abbrev cX7_meet : ByteArray := prog_9_method_4_code
def yX7_meet : MethodName := ⟨RX7, "meet", "(III)V"⟩
def RX8 : String := "StateJuggler$Rows"
def TX8 : u_T := fun k => match k with
  | 0 => ("StateJuggler$Rows", "row", "[I", true)
  | 1 => ("StateJuggler$Rows", "lowest", "[I", true)
  | 2 => ("StateJuggler$Rows", "found", "I", false)
  | 3 => ("StateJuggler$Rows", "length", "I", false)
  | _ => ("StateJuggler$Rows", "highest", "I", false)
def tyX8 : Nat → FieldType := fun k => match k with
  | 0 => .array .int
  | 1 => .array .int
  | 2 => .int
  | 3 => .int
  | _ => .int
abbrev wsX80 : List Cond := u_ws RX8 TX8 5
theorem nmX8 : ∀ a, a < 5 → ∀ b, b < 5 → a ≠ b → (TX8 a).2.1 ≠ (TX8 b).2.1 := by decide +kernel
theorem tyX8_ok : ∀ k, k < 5 → parseFieldDescriptor (TX8 k).2.2.1 = some (tyX8 k) := by decide +kernel
abbrev cX8_init : ByteArray := prog_10_method_1_code
def yX8_init : MethodName := ⟨RX8, "<init>", "()V"⟩
abbrev cX8_find : ByteArray := prog_10_method_2_code
def yX8_find : MethodName := ⟨RX8, "find", "(III)V"⟩
abbrev cX8_fill : ByteArray := prog_10_method_3_code
def yX8_fill : MethodName := ⟨RX8, "fill", "(III)V"⟩
abbrev cX8_finish : ByteArray := prog_10_method_4_code
def yX8_finish : MethodName := ⟨RX8, "finish", "()V"⟩
def RX9 : String := "StateJuggler$Tape"
def TX9 : u_T := fun k => match k with
  | 0 => ("StateJuggler$Tape", "bytes", "[I", true)
  | 1 => ("StateJuggler$Tape", "size", "I", false)
  | 2 => ("StateJuggler$Tape", "kinds", "[I", true)
  | 3 => ("StateJuggler$Tape", "places", "[I", true)
  | 4 => ("StateJuggler$Tape", "values", "[J", true)
  | _ => ("StateJuggler$Tape", "at", "I", false)
def tyX9 : Nat → FieldType := fun k => match k with
  | 0 => .array .int
  | 1 => .int
  | 2 => .array .int
  | 3 => .array .int
  | 4 => .array .long
  | _ => .int
abbrev wsX90 : List Cond := u_ws RX9 TX9 6
theorem nmX9 : ∀ a, a < 6 → ∀ b, b < 6 → a ≠ b → (TX9 a).2.1 ≠ (TX9 b).2.1 := by decide +kernel
theorem tyX9_ok : ∀ k, k < 6 → parseFieldDescriptor (TX9 k).2.2.1 = some (tyX9 k) := by decide +kernel
abbrev cX9_init : ByteArray := prog_11_method_1_code
def yX9_init : MethodName := ⟨RX9, "<init>", "()V"⟩
abbrev cX9_append : ByteArray := prog_11_method_2_code
def yX9_append : MethodName := ⟨RX9, "append", "(I)V"⟩
abbrev cX9_cut : ByteArray := prog_11_method_3_code
def yX9_cut : MethodName := ⟨RX9, "cut", "()V"⟩
abbrev cX9_cutOne : ByteArray := prog_11_method_4_code
def yX9_cutOne : MethodName := ⟨RX9, "cutOne", "(I)I"⟩
abbrev cX9_cutWord : ByteArray := prog_11_method_5_code
def yX9_cutWord : MethodName := ⟨RX9, "cutWord", "(I)I"⟩
abbrev cX9_cutInt : ByteArray := prog_11_method_6_code
def yX9_cutInt : MethodName := ⟨RX9, "cutInt", "(I)I"⟩
abbrev cX9_wordAt : ByteArray := prog_11_method_7_code
def yX9_wordAt : MethodName := ⟨RX9, "wordAt", "(II)I"⟩
abbrev cX9_isBlank : ByteArray := prog_11_method_8_code
def yX9_isBlank : MethodName := ⟨RX9, "isBlank", "(I)Z"⟩
abbrev cX9_isLetter : ByteArray := prog_11_method_9_code
def yX9_isLetter : MethodName := ⟨RX9, "isLetter", "(I)Z"⟩
abbrev cX9_isDigit : ByteArray := prog_11_method_10_code
def yX9_isDigit : MethodName := ⟨RX9, "isDigit", "(I)Z"⟩
def RX10 : String := "StateJuggler$Text"
def TX10 : u_T := fun k => match k with
  | 0 => ("StateJuggler$Text", "things", "I", false)
  | 1 => ("StateJuggler$Text", "weight", "[I", true)
  | 2 => ("StateJuggler$Text", "edge", "[I", true)
  | 3 => ("StateJuggler$Text", "start", "[I", true)
  | 4 => ("StateJuggler$Text", "patterns", "I", false)
  | 5 => ("StateJuggler$Text", "heights", "[[I", true)
  | 6 => ("StateJuggler$Text", "lengths", "[I", true)
  | 7 => ("StateJuggler$Text", "code", "[I", true)
  | 8 => ("StateJuggler$Text", "codeSize", "I", false)
  | 9 => ("StateJuggler$Text", "lawAt", "[I", true)
  | 10 => ("StateJuggler$Text", "rests", "I", false)
  | _ => ("StateJuggler$Text", "seed", "I", false)
def tyX10 : Nat → FieldType := fun k => match k with
  | 0 => .int
  | 1 => .array .int
  | 2 => .array .int
  | 3 => .array .int
  | 4 => .int
  | 5 => .array (.array .int)
  | 6 => .array .int
  | 7 => .array .int
  | 8 => .int
  | 9 => .array .int
  | 10 => .int
  | _ => .int
abbrev wsX100 : List Cond := u_ws RX10 TX10 12
theorem nmX10 : ∀ a, a < 12 → ∀ b, b < 12 → a ≠ b → (TX10 a).2.1 ≠ (TX10 b).2.1 := by decide +kernel
theorem tyX10_ok : ∀ k, k < 12 → parseFieldDescriptor (TX10 k).2.2.1 = some (tyX10 k) := by decide +kernel
abbrev cX10_init : ByteArray := prog_12_method_1_code
def yX10_init : MethodName := ⟨RX10, "<init>", "()V"⟩
abbrev cX10_clear : ByteArray := prog_12_method_2_code
def yX10_clear : MethodName := ⟨RX10, "clear", "()V"⟩
abbrev cX10_emit : ByteArray := prog_12_method_3_code
def yX10_emit : MethodName := ⟨RX10, "emit", "(I)V"⟩
abbrev cX10_hasThing : ByteArray := prog_12_method_4_code
def yX10_hasThing : MethodName := ⟨RX10, "hasThing", "(I)Z"⟩
abbrev cX10_hasPattern : ByteArray := prog_12_method_5_code
def yX10_hasPattern : MethodName := ⟨RX10, "hasPattern", "(I)Z"⟩
def RX11 : String := "StateJuggler"
def TX11 : u_T := fun k => match k with
  | 0 => ("StateJuggler", "reader", "LStateJuggler$Reader;", true)
  | 1 => ("StateJuggler", "juggler", "LStateJuggler$Juggler;", true)
  | 2 => ("StateJuggler", "past", "LStateJuggler$Past;", true)
  | 3 => ("StateJuggler", "hearsay", "LStateJuggler$Hearsay;", true)
  | 4 => ("StateJuggler", "route", "LStateJuggler$Route;", true)
  | 5 => ("StateJuggler", "rows", "LStateJuggler$Rows;", true)
  | 6 => ("StateJuggler", "now", "LStateJuggler$Air;", true)
  | 7 => ("StateJuggler", "trial", "LStateJuggler$Air;", true)
  | 8 => ("StateJuggler", "slots", "[LStateJuggler$Air;", true)
  | 9 => ("StateJuggler", "held", "[Z", true)
  | 10 => ("StateJuggler", "hands", "[I", true)
  | 11 => ("StateJuggler", "often", "[I", true)
  | 12 => ("StateJuggler", "joint", "[I", true)
  | 13 => ("StateJuggler", "text", "LStateJuggler$Text;", false)
  | _ => ("StateJuggler", "spare", "LStateJuggler$Text;", false)
def tyX11 : Nat → FieldType := fun k => match k with
  | 0 => .object "StateJuggler$Reader"
  | 1 => .object "StateJuggler$Juggler"
  | 2 => .object "StateJuggler$Past"
  | 3 => .object "StateJuggler$Hearsay"
  | 4 => .object "StateJuggler$Route"
  | 5 => .object "StateJuggler$Rows"
  | 6 => .object "StateJuggler$Air"
  | 7 => .object "StateJuggler$Air"
  | 8 => .array (.object "StateJuggler$Air")
  | 9 => .array .boolean
  | 10 => .array .int
  | 11 => .array .int
  | 12 => .array .int
  | 13 => .object "StateJuggler$Text"
  | _ => .object "StateJuggler$Text"
abbrev wsX110 : List Cond := u_ws RX11 TX11 15
theorem nmX11 : ∀ a, a < 15 → ∀ b, b < 15 → a ≠ b → (TX11 a).2.1 ≠ (TX11 b).2.1 := by decide +kernel
theorem tyX11_ok : ∀ k, k < 15 → parseFieldDescriptor (TX11 k).2.2.1 = some (tyX11 k) := by decide +kernel
abbrev cX11_init : ByteArray := prog_1_method_1_code
def yX11_init : MethodName := ⟨RX11, "<init>", "()V"⟩
abbrev cX11_feed : ByteArray := prog_1_method_2_code
def yX11_feed : MethodName := ⟨RX11, "feed", "(IIIII)I"⟩
abbrev cX11_back : ByteArray := prog_1_method_3_code
def yX11_back : MethodName := ⟨RX11, "back", "(I)I"⟩
abbrev cX11_read : ByteArray := prog_1_method_4_code
def yX11_read : MethodName := ⟨RX11, "read", "()I"⟩
abbrev cX11_beginAnew : ByteArray := prog_1_method_5_code
def yX11_beginAnew : MethodName := ⟨RX11, "beginAnew", "()V"⟩
abbrev cX11_place : ByteArray := prog_1_method_6_code
def yX11_place : MethodName := ⟨RX11, "place", "()I"⟩
abbrev cX11_thing : ByteArray := prog_1_method_7_code
def yX11_thing : MethodName := ⟨RX11, "thing", "(II)I"⟩
abbrev cX11_pattern : ByteArray := prog_1_method_8_code
def yX11_pattern : MethodName := ⟨RX11, "pattern", "(II)I"⟩
abbrev cX11_tells : ByteArray := prog_1_method_9_code
def yX11_tells : MethodName := ⟨RX11, "tells", "(III)I"⟩
abbrev cX11_count : ByteArray := prog_1_method_10_code
def yX11_count : MethodName := ⟨RX11, "count", "(I)I"⟩
abbrev cX11_slotsHeld : ByteArray := prog_1_method_11_code
def yX11_slotsHeld : MethodName := ⟨RX11, "slotsHeld", "()I"⟩
abbrev cX11_weightsOf : ByteArray := prog_1_method_12_code
def yX11_weightsOf : MethodName := ⟨RX11, "weightsOf", "(I)I"⟩
abbrev cX11_isHeight : ByteArray := prog_1_method_13_code
def yX11_isHeight : MethodName := ⟨RX11, "isHeight", "(I)Z"⟩
abbrev cX11_throwIn : ByteArray := prog_1_method_14_code
def yX11_throwIn : MethodName := ⟨RX11, "throwIn", "(II)Z"⟩
abbrev cX11_use : ByteArray := prog_1_method_15_code
def yX11_use : MethodName := ⟨RX11, "use", "(I)Z"⟩
abbrev cX11_set : ByteArray := prog_1_method_16_code
def yX11_set : MethodName := ⟨RX11, "set", "(I)Z"⟩
abbrev cX11_beats : ByteArray := prog_1_method_17_code
def yX11_beats : MethodName := ⟨RX11, "beats", "(I)I"⟩
abbrev cX11_undo : ByteArray := prog_1_method_18_code
def yX11_undo : MethodName := ⟨RX11, "undo", "()Z"⟩
abbrev cX11_hold : ByteArray := prog_1_method_19_code
def yX11_hold : MethodName := ⟨RX11, "hold", "(I)Z"⟩
abbrev cX11_restore : ByteArray := prog_1_method_20_code
def yX11_restore : MethodName := ⟨RX11, "restore", "(I)Z"⟩
abbrev cX11_closes : ByteArray := prog_1_method_21_code
def yX11_closes : MethodName := ⟨RX11, "closes", "(II)I"⟩
abbrev cX11_joined : ByteArray := prog_1_method_22_code
def yX11_joined : MethodName := ⟨RX11, "joined", "(III)I"⟩
abbrev cX11_closingOf : ByteArray := prog_1_method_23_code
def yX11_closingOf : MethodName := ⟨RX11, "closingOf", "([III)I"⟩
abbrev cX11_turned : ByteArray := prog_1_method_24_code
def yX11_turned : MethodName := ⟨RX11, "turned", "(II)I"⟩
abbrev cX11_span : ByteArray := prog_1_method_25_code
def yX11_span : MethodName := ⟨RX11, "span", "(I)I"⟩
abbrev cX11_orbits : ByteArray := prog_1_method_26_code
def yX11_orbits : MethodName := ⟨RX11, "orbits", "(I)I"⟩
abbrev cX11_swaps : ByteArray := prog_1_method_27_code
def yX11_swaps : MethodName := ⟨RX11, "swaps", "(I)I"⟩
abbrev cX11_ways : ByteArray := prog_1_method_28_code
def yX11_ways : MethodName := ⟨RX11, "ways", "(IIII)I"⟩
abbrev cX11_lands : ByteArray := prog_1_method_29_code
def yX11_lands : MethodName := ⟨RX11, "lands", "()I"⟩
abbrev cX11_inHand : ByteArray := prog_1_method_30_code
def yX11_inHand : MethodName := ⟨RX11, "inHand", "(I)I"⟩
abbrev cX11_findHands : ByteArray := prog_1_method_31_code
def yX11_findHands : MethodName := ⟨RX11, "findHands", "(I)V"⟩
abbrev cX11_clash : ByteArray := prog_1_method_32_code
def yX11_clash : MethodName := ⟨RX11, "clash", "()I"⟩
abbrev cX11_firstClash : ByteArray := prog_1_method_33_code
def yX11_firstClash : MethodName := ⟨RX11, "firstClash", "(I)I"⟩
abbrev cX11_gap : ByteArray := prog_1_method_34_code
def yX11_gap : MethodName := ⟨RX11, "gap", "()I"⟩
abbrev cX11_room : ByteArray := prog_1_method_35_code
def yX11_room : MethodName := ⟨RX11, "room", "(I)I"⟩
abbrev cX11_into : ByteArray := prog_1_method_36_code
def yX11_into : MethodName := ⟨RX11, "into", "(II)I"⟩
abbrev cX11_busiest : ByteArray := prog_1_method_37_code
def yX11_busiest : MethodName := ⟨RX11, "busiest", "(II)I"⟩
abbrev cX11_isSpan : ByteArray := prog_1_method_38_code
def yX11_isSpan : MethodName := ⟨RX11, "isSpan", "(I)Z"⟩
abbrev cX11_load : ByteArray := prog_1_method_39_code
def yX11_load : MethodName := ⟨RX11, "load", "(I)I"⟩
abbrev cX11_rule : ByteArray := prog_1_method_40_code
def yX11_rule : MethodName := ⟨RX11, "rule", "(I)I"⟩
abbrev cX11_order : ByteArray := prog_1_method_41_code
def yX11_order : MethodName := ⟨RX11, "order", "(I)I"⟩
abbrev cX11_handover : ByteArray := prog_1_method_42_code
def yX11_handover : MethodName := ⟨RX11, "handover", "()I"⟩
abbrev cX11_limit : ByteArray := prog_1_method_43_code
def yX11_limit : MethodName := ⟨RX11, "limit", "(I)I"⟩
abbrev cX11_down : ByteArray := prog_1_method_44_code
def yX11_down : MethodName := ⟨RX11, "down", "()I"⟩
abbrev cX11_light : ByteArray := prog_1_method_45_code
def yX11_light : MethodName := ⟨RX11, "light", "(II)I"⟩
abbrev cX11_then : ByteArray := prog_1_method_46_code
def yX11_then : MethodName := ⟨RX11, "then", "(II)I"⟩
abbrev cX11_year : ByteArray := prog_1_method_47_code
def yX11_year : MethodName := ⟨RX11, "year", "(II)I"⟩
abbrev cX11_tell : ByteArray := prog_1_method_48_code
def yX11_tell : MethodName := ⟨RX11, "tell", "(IZ)I"⟩
abbrev cX11_forget : ByteArray := prog_1_method_49_code
def yX11_forget : MethodName := ⟨RX11, "forget", "()I"⟩
abbrev cX11_glitters : ByteArray := prog_1_method_50_code
def yX11_glitters : MethodName := ⟨RX11, "glitters", "(II)I"⟩
abbrev cX11_watch : ByteArray := prog_1_method_51_code
def yX11_watch : MethodName := ⟨RX11, "watch", "(I)I"⟩
def RX12 : String := "StateJugglerModel"
def TX12 : u_T := fun k => match k with
  | 0 => ("StateJugglerModel", "thrown", "I", false)
  | 1 => ("StateJugglerModel", "tape", "[B", true)
  | 2 => ("StateJugglerModel", "taped", "I", false)
  | 3 => ("StateJugglerModel", "text", "[B", true)
  | 4 => ("StateJugglerModel", "size", "I", false)
  | 5 => ("StateJugglerModel", "tKind", "[I", true)
  | 6 => ("StateJugglerModel", "tPlace", "[I", true)
  | 7 => ("StateJugglerModel", "tValue", "[I", true)
  | 8 => ("StateJugglerModel", "tName", "[J", true)
  | 9 => ("StateJugglerModel", "keys", "[J", true)
  | 10 => ("StateJugglerModel", "tokens", "I", false)
  | 11 => ("StateJugglerModel", "t", "I", false)
  | 12 => ("StateJugglerModel", "open", "I", false)
  | 13 => ("StateJugglerModel", "fault", "I", false)
  | 14 => ("StateJugglerModel", "faultPlace", "I", false)
  | 15 => ("StateJugglerModel", "worst", "I", false)
  | 16 => ("StateJugglerModel", "worstPlace", "I", false)
  | 17 => ("StateJugglerModel", "place", "I", false)
  | 18 => ("StateJugglerModel", "live", "I", false)
  | 19 => ("StateJugglerModel", "side", "I", false)
  | 20 => ("StateJugglerModel", "names", "I", false)
  | 21 => ("StateJugglerModel", "nameOf", "[J", true)
  | 22 => ("StateJugglerModel", "things", "[I", true)
  | 23 => ("StateJugglerModel", "weightOf", "[I", true)
  | 24 => ("StateJugglerModel", "edgeOf", "[I", true)
  | 25 => ("StateJugglerModel", "landsTold", "[I", true)
  | 26 => ("StateJugglerModel", "patterns", "[I", true)
  | 27 => ("StateJugglerModel", "longOf", "[I", true)
  | 28 => ("StateJugglerModel", "heightOf", "[I", true)
  | 29 => ("StateJugglerModel", "rests", "[I", true)
  | 30 => ("StateJugglerModel", "seed", "[I", true)
  | 31 => ("StateJugglerModel", "lawFirst", "[I", true)
  | 32 => ("StateJugglerModel", "lawLast", "[I", true)
  | 33 => ("StateJugglerModel", "branches", "I", false)
  | 34 => ("StateJugglerModel", "hasTest", "[Z", true)
  | 35 => ("StateJugglerModel", "testFrom", "[I", true)
  | 36 => ("StateJugglerModel", "testMid", "[I", true)
  | 37 => ("StateJugglerModel", "testTo", "[I", true)
  | 38 => ("StateJugglerModel", "termTo", "[I", true)
  | 39 => ("StateJugglerModel", "codes", "I", false)
  | 40 => ("StateJugglerModel", "code", "[I", true)
  | 41 => ("StateJugglerModel", "codeInt", "[I", true)
  | 42 => ("StateJugglerModel", "waits", "[I", true)
  | 43 => ("StateJugglerModel", "waiting", "I", false)
  | 44 => ("StateJugglerModel", "variables", "[I", true)
  | 45 => ("StateJugglerModel", "pile", "[I", true)
  | 46 => ("StateJugglerModel", "isBroken", "Z", false)
  | 47 => ("StateJugglerModel", "now", "[I", true)
  | 48 => ("StateJugglerModel", "row", "[I", true)
  | 49 => ("StateJugglerModel", "lots", "I", false)
  | 50 => ("StateJugglerModel", "isStill", "Z", false)
  | 51 => ("StateJugglerModel", "caughtNow", "I", false)
  | 52 => ("StateJugglerModel", "twoLanded", "Z", false)
  | 53 => ("StateJugglerModel", "forceNow", "I", false)
  | 54 => ("StateJugglerModel", "undos", "I", false)
  | 55 => ("StateJugglerModel", "history", "[I", true)
  | 56 => ("StateJugglerModel", "throwsOf", "[I", true)
  | 57 => ("StateJugglerModel", "throwsMany", "I", false)
  | 58 => ("StateJugglerModel", "farOf", "[I", true)
  | 59 => ("StateJugglerModel", "oftenOf", "[I", true)
  | 60 => ("StateJugglerModel", "tolds", "I", false)
  | 61 => ("StateJugglerModel", "toldBeat", "[I", true)
  | 62 => ("StateJugglerModel", "toldHand", "[Z", true)
  | 63 => ("StateJugglerModel", "handsOf", "[I", true)
  | 64 => ("StateJugglerModel", "isHeld", "[Z", true)
  | _ => ("StateJugglerModel", "heldRows", "[I", true)
def tyX12 : Nat → FieldType := fun k => match k with
  | 0 => .int
  | 1 => .array .byte
  | 2 => .int
  | 3 => .array .byte
  | 4 => .int
  | 5 => .array .int
  | 6 => .array .int
  | 7 => .array .int
  | 8 => .array .long
  | 9 => .array .long
  | 10 => .int
  | 11 => .int
  | 12 => .int
  | 13 => .int
  | 14 => .int
  | 15 => .int
  | 16 => .int
  | 17 => .int
  | 18 => .int
  | 19 => .int
  | 20 => .int
  | 21 => .array .long
  | 22 => .array .int
  | 23 => .array .int
  | 24 => .array .int
  | 25 => .array .int
  | 26 => .array .int
  | 27 => .array .int
  | 28 => .array .int
  | 29 => .array .int
  | 30 => .array .int
  | 31 => .array .int
  | 32 => .array .int
  | 33 => .int
  | 34 => .array .boolean
  | 35 => .array .int
  | 36 => .array .int
  | 37 => .array .int
  | 38 => .array .int
  | 39 => .int
  | 40 => .array .int
  | 41 => .array .int
  | 42 => .array .int
  | 43 => .int
  | 44 => .array .int
  | 45 => .array .int
  | 46 => .boolean
  | 47 => .array .int
  | 48 => .array .int
  | 49 => .int
  | 50 => .boolean
  | 51 => .int
  | 52 => .boolean
  | 53 => .int
  | 54 => .int
  | 55 => .array .int
  | 56 => .array .int
  | 57 => .int
  | 58 => .array .int
  | 59 => .array .int
  | 60 => .int
  | 61 => .array .int
  | 62 => .array .boolean
  | 63 => .array .int
  | 64 => .array .boolean
  | _ => .array .int
abbrev wsX120 : List Cond := u_ws RX12 TX12 66
theorem nmX12 : ∀ a, a < 66 → ∀ b, b < 66 → a ≠ b → (TX12 a).2.1 ≠ (TX12 b).2.1 := by decide +kernel
theorem tyX12_ok : ∀ k, k < 66 → parseFieldDescriptor (TX12 k).2.2.1 = some (tyX12 k) := by decide +kernel
abbrev cX12_init : ByteArray := prog_14_method_2_code
def yX12_init : MethodName := ⟨RX12, "<init>", "()V"⟩
abbrev cX12_feed : ByteArray := prog_14_method_3_code
def yX12_feed : MethodName := ⟨RX12, "feed", "(IIIII)I"⟩
abbrev cX12_put : ByteArray := prog_14_method_4_code
def yX12_put : MethodName := ⟨RX12, "put", "(I)V"⟩
abbrev cX12_back : ByteArray := prog_14_method_5_code
def yX12_back : MethodName := ⟨RX12, "back", "(I)I"⟩
abbrev cX12_byteAt : ByteArray := prog_14_method_6_code
def yX12_byteAt : MethodName := ⟨RX12, "byteAt", "(I)I"⟩
abbrev cX12_isDigit : ByteArray := prog_14_method_7_code
def yX12_isDigit : MethodName := ⟨RX12, "isDigit", "(I)Z"⟩
abbrev cX12_isLetter : ByteArray := prog_14_method_8_code
def yX12_isLetter : MethodName := ⟨RX12, "isLetter", "(I)Z"⟩
abbrev cX12_appends : ByteArray := prog_14_method_9_code
def yX12_appends : MethodName := ⟨RX12, "appends", "(JI)J"⟩
abbrev cX12_word : ByteArray := prog_14_method_10_code
def yX12_word : MethodName := ⟨RX12, "word", "(IIIIIII)J"⟩
abbrev cX12_token : ByteArray := prog_14_method_11_code
def yX12_token : MethodName := ⟨RX12, "token", "(IIIJ)V"⟩
abbrev cX12_cut : ByteArray := prog_14_method_12_code
def yX12_cut : MethodName := ⟨RX12, "cut", "()V"⟩
abbrev cX12_sign : ByteArray := prog_14_method_13_code
def yX12_sign : MethodName := ⟨RX12, "sign", "(III)I"⟩
abbrev cX12_is : ByteArray := prog_14_method_14_code
def yX12_is : MethodName := ⟨RX12, "is", "(I)Z"⟩
abbrev cX12_fail : ByteArray := prog_14_method_15_code
def yX12_fail : MethodName := ⟨RX12, "fail", "(I)V"⟩
abbrev cX12_wrong : ByteArray := prog_14_method_16_code
def yX12_wrong : MethodName := ⟨RX12, "wrong", "(II)V"⟩
abbrev cX12_goesOn : ByteArray := prog_14_method_17_code
def yX12_goesOn : MethodName := ⟨RX12, "goesOn", "()V"⟩
abbrev cX12_must : ByteArray := prog_14_method_18_code
def yX12_must : MethodName := ⟨RX12, "must", "(I)V"⟩
abbrev cX12_plain : ByteArray := prog_14_method_19_code
def yX12_plain : MethodName := ⟨RX12, "plain", "(I)V"⟩
abbrev cX12_read : ByteArray := prog_14_method_20_code
def yX12_read : MethodName := ⟨RX12, "read", "()I"⟩
abbrev cX12_place : ByteArray := prog_14_method_21_code
def yX12_place : MethodName := ⟨RX12, "place", "()I"⟩
abbrev cX12_roomFor : ByteArray := prog_14_method_22_code
def yX12_roomFor : MethodName := ⟨RX12, "roomFor", "(II)V"⟩
abbrev cX12_toldInt : ByteArray := prog_14_method_23_code
def yX12_toldInt : MethodName := ⟨RX12, "toldInt", "(II)I"⟩
abbrev cX12_tellOne : ByteArray := prog_14_method_24_code
def yX12_tellOne : MethodName := ⟨RX12, "tellOne", "()V"⟩
abbrev cX12_named : ByteArray := prog_14_method_25_code
def yX12_named : MethodName := ⟨RX12, "named", "()I"⟩
abbrev cX12_ends : ByteArray := prog_14_method_26_code
def yX12_ends : MethodName := ⟨RX12, "ends", "(I)V"⟩
abbrev cX12_bounded : ByteArray := prog_14_method_27_code
def yX12_bounded : MethodName := ⟨RX12, "bounded", "(II)I"⟩
abbrev cX12_tellThing : ByteArray := prog_14_method_28_code
def yX12_tellThing : MethodName := ⟨RX12, "tellThing", "()V"⟩
abbrev cX12_tellPattern : ByteArray := prog_14_method_29_code
def yX12_tellPattern : MethodName := ⟨RX12, "tellPattern", "()V"⟩
abbrev cX12_tellLaw : ByteArray := prog_14_method_30_code
def yX12_tellLaw : MethodName := ⟨RX12, "tellLaw", "(I)V"⟩
abbrev cX12_term : ByteArray := prog_14_method_31_code
def yX12_term : MethodName := ⟨RX12, "term", "()V"⟩
abbrev cX12_emit : ByteArray := prog_14_method_32_code
def yX12_emit : MethodName := ⟨RX12, "emit", "(II)V"⟩
abbrev cX12_comesOut : ByteArray := prog_14_method_33_code
def yX12_comesOut : MethodName := ⟨RX12, "comesOut", "(Z)V"⟩
abbrev cX12_expression : ByteArray := prog_14_method_34_code
def yX12_expression : MethodName := ⟨RX12, "expression", "()V"⟩
abbrev cX12_unit : ByteArray := prog_14_method_35_code
def yX12_unit : MethodName := ⟨RX12, "unit", "()V"⟩
abbrev cX12_termOf : ByteArray := prog_14_method_36_code
def yX12_termOf : MethodName := ⟨RX12, "termOf", "(II)I"⟩
abbrev cX12_in : ByteArray := prog_14_method_37_code
def yX12_in : MethodName := ⟨RX12, "in", "(III)Z"⟩
abbrev cX12_held : ByteArray := prog_14_method_38_code
def yX12_held : MethodName := ⟨RX12, "held", "(III)I"⟩
abbrev cX12_bits : ByteArray := prog_14_method_39_code
def yX12_bits : MethodName := ⟨RX12, "bits", "(I)I"⟩
abbrev cX12_isThing : ByteArray := prog_14_method_40_code
def yX12_isThing : MethodName := ⟨RX12, "isThing", "(I)Z"⟩
abbrev cX12_isPattern : ByteArray := prog_14_method_41_code
def yX12_isPattern : MethodName := ⟨RX12, "isPattern", "(I)Z"⟩
abbrev cX12_begins : ByteArray := prog_14_method_42_code
def yX12_begins : MethodName := ⟨RX12, "begins", "()V"⟩
abbrev cX12_keepsRow : ByteArray := prog_14_method_43_code
def yX12_keepsRow : MethodName := ⟨RX12, "keepsRow", "()V"⟩
abbrev cX12_copies : ByteArray := prog_14_method_44_code
def yX12_copies : MethodName := ⟨RX12, "copies", "()V"⟩
abbrev cX12_copiesStill : ByteArray := prog_14_method_45_code
def yX12_copiesStill : MethodName := ⟨RX12, "copiesStill", "()V"⟩
abbrev cX12_mixed : ByteArray := prog_14_method_46_code
def yX12_mixed : MethodName := ⟨RX12, "mixed", "(II)I"⟩
abbrev cX12_lotNow : ByteArray := prog_14_method_47_code
def yX12_lotNow : MethodName := ⟨RX12, "lotNow", "()I"⟩
abbrev cX12_lengthOf : ByteArray := prog_14_method_48_code
def yX12_lengthOf : MethodName := ⟨RX12, "lengthOf", "(I)I"⟩
abbrev cX12_heightAt : ByteArray := prog_14_method_49_code
def yX12_heightAt : MethodName := ⟨RX12, "heightAt", "(II)I"⟩
abbrev cX12_heightNow : ByteArray := prog_14_method_50_code
def yX12_heightNow : MethodName := ⟨RX12, "heightNow", "()I"⟩
abbrev cX12_thingsSo : ByteArray := prog_14_method_51_code
def yX12_thingsSo : MethodName := ⟨RX12, "thingsSo", "(I)I"⟩
abbrev cX12_doesLand : ByteArray := prog_14_method_52_code
def yX12_doesLand : MethodName := ⟨RX12, "doesLand", "(II)Z"⟩
abbrev cX12_landsAt : ByteArray := prog_14_method_53_code
def yX12_landsAt : MethodName := ⟨RX12, "landsAt", "(I)I"⟩
abbrev cX12_catchesNow : ByteArray := prog_14_method_54_code
def yX12_catchesNow : MethodName := ⟨RX12, "catchesNow", "()I"⟩
abbrev cX12_looksAt : ByteArray := prog_14_method_55_code
def yX12_looksAt : MethodName := ⟨RX12, "looksAt", "(III)V"⟩
abbrev cX12_lawTells : ByteArray := prog_14_method_56_code
def yX12_lawTells : MethodName := ⟨RX12, "lawTells", "(II)I"⟩
abbrev cX12_tiresBy : ByteArray := prog_14_method_57_code
def yX12_tiresBy : MethodName := ⟨RX12, "tiresBy", "(III)I"⟩
abbrev cX12_dropsBy : ByteArray := prog_14_method_58_code
def yX12_dropsBy : MethodName := ⟨RX12, "dropsBy", "(III)I"⟩
abbrev cX12_forceOf : ByteArray := prog_14_method_59_code
def yX12_forceOf : MethodName := ⟨RX12, "forceOf", "(II)I"⟩
abbrev cX12_paysOf : ByteArray := prog_14_method_60_code
def yX12_paysOf : MethodName := ⟨RX12, "paysOf", "(II)I"⟩
abbrev cX12_dropsOthers : ByteArray := prog_14_method_61_code
def yX12_dropsOthers : MethodName := ⟨RX12, "dropsOthers", "()V"⟩
abbrev cX12_isThrown : ByteArray := prog_14_method_62_code
def yX12_isThrown : MethodName := ⟨RX12, "isThrown", "(IIII)V"⟩
abbrev cX12_catches : ByteArray := prog_14_method_63_code
def yX12_catches : MethodName := ⟨RX12, "catches", "(I)V"⟩
abbrev cX12_beatGoes : ByteArray := prog_14_method_64_code
def yX12_beatGoes : MethodName := ⟨RX12, "beatGoes", "()V"⟩
abbrev cX12_goes : ByteArray := prog_14_method_65_code
def yX12_goes : MethodName := ⟨RX12, "goes", "(I)V"⟩
abbrev cX12_thing : ByteArray := prog_14_method_66_code
def yX12_thing : MethodName := ⟨RX12, "thing", "(II)I"⟩
abbrev cX12_pattern : ByteArray := prog_14_method_67_code
def yX12_pattern : MethodName := ⟨RX12, "pattern", "(II)I"⟩
abbrev cX12_tells : ByteArray := prog_14_method_68_code
def yX12_tells : MethodName := ⟨RX12, "tells", "(III)I"⟩
abbrev cX12_records : ByteArray := prog_14_method_69_code
def yX12_records : MethodName := ⟨RX12, "records", "()V"⟩
abbrev cX12_throwIn : ByteArray := prog_14_method_70_code
def yX12_throwIn : MethodName := ⟨RX12, "throwIn", "(II)Z"⟩
abbrev cX12_uses : ByteArray := prog_14_method_71_code
def yX12_uses : MethodName := ⟨RX12, "uses", "(I)V"⟩
abbrev cX12_use : ByteArray := prog_14_method_72_code
def yX12_use : MethodName := ⟨RX12, "use", "(I)Z"⟩
abbrev cX12_set : ByteArray := prog_14_method_73_code
def yX12_set : MethodName := ⟨RX12, "set", "(I)Z"⟩
abbrev cX12_beats : ByteArray := prog_14_method_74_code
def yX12_beats : MethodName := ⟨RX12, "beats", "(I)I"⟩
abbrev cX12_undo : ByteArray := prog_14_method_75_code
def yX12_undo : MethodName := ⟨RX12, "undo", "()Z"⟩
abbrev cX12_takesPattern : ByteArray := prog_14_method_76_code
def yX12_takesPattern : MethodName := ⟨RX12, "takesPattern", "(II)V"⟩
abbrev cX12_keeps : ByteArray := prog_14_method_77_code
def yX12_keeps : MethodName := ⟨RX12, "keeps", "()I"⟩
abbrev cX12_keepsOf : ByteArray := prog_14_method_78_code
def yX12_keepsOf : MethodName := ⟨RX12, "keepsOf", "(I)I"⟩
abbrev cX12_told : ByteArray := prog_14_method_79_code
def yX12_told : MethodName := ⟨RX12, "told", "(II)I"⟩
abbrev cX12_closes : ByteArray := prog_14_method_80_code
def yX12_closes : MethodName := ⟨RX12, "closes", "(II)I"⟩
abbrev cX12_joined : ByteArray := prog_14_method_81_code
def yX12_joined : MethodName := ⟨RX12, "joined", "(III)I"⟩
abbrev cX12_isTurned : ByteArray := prog_14_method_82_code
def yX12_isTurned : MethodName := ⟨RX12, "isTurned", "(III)Z"⟩
abbrev cX12_turned : ByteArray := prog_14_method_83_code
def yX12_turned : MethodName := ⟨RX12, "turned", "(II)I"⟩
abbrev cX12_span : ByteArray := prog_14_method_84_code
def yX12_span : MethodName := ⟨RX12, "span", "(I)I"⟩
abbrev cX12_orbits : ByteArray := prog_14_method_85_code
def yX12_orbits : MethodName := ⟨RX12, "orbits", "(I)I"⟩
abbrev cX12_swaps : ByteArray := prog_14_method_86_code
def yX12_swaps : MethodName := ⟨RX12, "swaps", "(I)I"⟩
abbrev cX12_lands : ByteArray := prog_14_method_87_code
def yX12_lands : MethodName := ⟨RX12, "lands", "()I"⟩
abbrev cX12_inHand : ByteArray := prog_14_method_88_code
def yX12_inHand : MethodName := ⟨RX12, "inHand", "(I)I"⟩
abbrev cX12_clash : ByteArray := prog_14_method_89_code
def yX12_clash : MethodName := ⟨RX12, "clash", "()I"⟩
abbrev cX12_aimOf : ByteArray := prog_14_method_90_code
def yX12_aimOf : MethodName := ⟨RX12, "aimOf", "(I)I"⟩
abbrev cX12_nextOf : ByteArray := prog_14_method_91_code
def yX12_nextOf : MethodName := ⟨RX12, "nextOf", "(II)I"⟩
abbrev cX12_fillsFar : ByteArray := prog_14_method_92_code
def yX12_fillsFar : MethodName := ⟨RX12, "fillsFar", "(I)V"⟩
abbrev cX12_firstOf : ByteArray := prog_14_method_93_code
def yX12_firstOf : MethodName := ⟨RX12, "firstOf", "(I)I"⟩
abbrev cX12_areTwoSoon : ByteArray := prog_14_method_94_code
def yX12_areTwoSoon : MethodName := ⟨RX12, "areTwoSoon", "()Z"⟩
abbrev cX12_into : ByteArray := prog_14_method_95_code
def yX12_into : MethodName := ⟨RX12, "into", "(II)I"⟩
abbrev cX12_hasRoom : ByteArray := prog_14_method_96_code
def yX12_hasRoom : MethodName := ⟨RX12, "hasRoom", "(II)Z"⟩
abbrev cX12_room : ByteArray := prog_14_method_97_code
def yX12_room : MethodName := ⟨RX12, "room", "(I)I"⟩
abbrev cX12_handover : ByteArray := prog_14_method_98_code
def yX12_handover : MethodName := ⟨RX12, "handover", "()I"⟩
abbrev cX12_limit : ByteArray := prog_14_method_99_code
def yX12_limit : MethodName := ⟨RX12, "limit", "(I)I"⟩
abbrev cX12_isSome : ByteArray := prog_14_method_100_code
def yX12_isSome : MethodName := ⟨RX12, "isSome", "(I)Z"⟩
abbrev cX12_isLong : ByteArray := prog_14_method_101_code
def yX12_isLong : MethodName := ⟨RX12, "isLong", "(I)Z"⟩
abbrev cX12_busiest : ByteArray := prog_14_method_102_code
def yX12_busiest : MethodName := ⟨RX12, "busiest", "(II)I"⟩
abbrev cX12_load : ByteArray := prog_14_method_103_code
def yX12_load : MethodName := ⟨RX12, "load", "(I)I"⟩
abbrev cX12_gap : ByteArray := prog_14_method_104_code
def yX12_gap : MethodName := ⟨RX12, "gap", "()I"⟩
abbrev cX12_order : ByteArray := prog_14_method_105_code
def yX12_order : MethodName := ⟨RX12, "order", "(I)I"⟩
abbrev cX12_ways : ByteArray := prog_14_method_106_code
def yX12_ways : MethodName := ⟨RX12, "ways", "(IIII)I"⟩
abbrev cX12_light : ByteArray := prog_14_method_107_code
def yX12_light : MethodName := ⟨RX12, "light", "(II)I"⟩
abbrev cX12_rule : ByteArray := prog_14_method_108_code
def yX12_rule : MethodName := ⟨RX12, "rule", "(I)I"⟩
abbrev cX12_down : ByteArray := prog_14_method_109_code
def yX12_down : MethodName := ⟨RX12, "down", "()I"⟩
abbrev cX12_then : ByteArray := prog_14_method_110_code
def yX12_then : MethodName := ⟨RX12, "then", "(II)I"⟩
abbrev cX12_year : ByteArray := prog_14_method_111_code
def yX12_year : MethodName := ⟨RX12, "year", "(II)I"⟩
abbrev cX12_tell : ByteArray := prog_14_method_112_code
def yX12_tell : MethodName := ⟨RX12, "tell", "(IZ)I"⟩
abbrev cX12_forget : ByteArray := prog_14_method_113_code
def yX12_forget : MethodName := ⟨RX12, "forget", "()I"⟩
abbrev cX12_glitterBits : ByteArray := prog_14_method_114_code
def yX12_glitterBits : MethodName := ⟨RX12, "glitterBits", "(I)I"⟩
abbrev cX12_glitters : ByteArray := prog_14_method_115_code
def yX12_glitters : MethodName := ⟨RX12, "glitters", "(II)I"⟩
abbrev cX12_watch : ByteArray := prog_14_method_116_code
def yX12_watch : MethodName := ⟨RX12, "watch", "(I)I"⟩
abbrev cX12_hold : ByteArray := prog_14_method_117_code
def yX12_hold : MethodName := ⟨RX12, "hold", "(I)Z"⟩
abbrev cX12_restore : ByteArray := prog_14_method_118_code
def yX12_restore : MethodName := ⟨RX12, "restore", "(I)Z"⟩
abbrev cX12_weightsOf : ByteArray := prog_14_method_119_code
def yX12_weightsOf : MethodName := ⟨RX12, "weightsOf", "(I)I"⟩
abbrev cX12_count : ByteArray := prog_14_method_120_code
def yX12_count : MethodName := ⟨RX12, "count", "(I)I"⟩
def RJx145de : String := "java/io/Serializable"
def RJx9f9b0 : String := "java/lang/CharSequence"
def RJ11 : String := "java/lang/Character"
def TJ11 : u_T := fun k => match k with
  | _ => ("", "", "", false)
def tyJ11 : Nat → FieldType := fun k => match k with
  | _ => .int
abbrev wsJ110 : List Cond := u_ws RJ11 TJ11 0
theorem nmJ11 : ∀ a, a < 0 → ∀ b, b < 0 → a ≠ b → (TJ11 a).2.1 ≠ (TJ11 b).2.1 := by decide +kernel
theorem tyJ11_ok : ∀ k, k < 0 → parseFieldDescriptor (TJ11 k).2.2.1 = some (tyJ11 k) := by decide +kernel
abbrev cJ11_isValidCodePoint_9a6ad : ByteArray := prog_15_method_11_code
def yJ11_isValidCodePoint_9a6ad : MethodName := ⟨RJ11, "isValidCodePoint", "(I)Z"⟩
abbrev cJ11_highSurrogate_5068e : ByteArray := prog_15_method_28_code
def yJ11_highSurrogate_5068e : MethodName := ⟨RJ11, "highSurrogate", "(I)C"⟩
abbrev cJ11_lowSurrogate_5068e : ByteArray := prog_15_method_29_code
def yJ11_lowSurrogate_5068e : MethodName := ⟨RJ11, "lowSurrogate", "(I)C"⟩
def RJxb160c : String := "java/lang/Comparable"
def RJ6 : String := "java/lang/Integer"
def TJ6 : u_T := fun k => match k with
  | _ => ("", "", "", false)
def tyJ6 : Nat → FieldType := fun k => match k with
  | _ => .int
abbrev wsJ60 : List Cond := u_ws RJ6 TJ6 0
theorem nmJ6 : ∀ a, a < 0 → ∀ b, b < 0 → a ≠ b → (TJ6 a).2.1 ≠ (TJ6 b).2.1 := by decide +kernel
theorem tyJ6_ok : ∀ k, k < 0 → parseFieldDescriptor (TJ6 k).2.2.1 = some (tyJ6 k) := by decide +kernel
abbrev cJ6_bitCount_0f7a4 : ByteArray := prog_16_method_49_code
def yJ6_bitCount_0f7a4 : MethodName := ⟨RJ6, "bitCount", "(I)I"⟩
def RJ9 : String := "java/lang/Math"
def TJ9 : u_T := fun k => match k with
  | _ => ("", "", "", false)
def tyJ9 : Nat → FieldType := fun k => match k with
  | _ => .int
abbrev wsJ90 : List Cond := u_ws RJ9 TJ9 0
theorem nmJ9 : ∀ a, a < 0 → ∀ b, b < 0 → a ≠ b → (TJ9 a).2.1 ≠ (TJ9 b).2.1 := by decide +kernel
theorem tyJ9_ok : ∀ k, k < 0 → parseFieldDescriptor (TJ9 k).2.2.1 = some (tyJ9 k) := by decide +kernel
abbrev cJ9_floorMod_7cf53 : ByteArray := prog_17_method_50_code
def yJ9_floorMod_7cf53 : MethodName := ⟨RJ9, "floorMod", "(II)I"⟩
abbrev cJ9_max_7cf53 : ByteArray := prog_17_method_65_code
def yJ9_max_7cf53 : MethodName := ⟨RJ9, "max", "(II)I"⟩
abbrev cJ9_min_7cf53 : ByteArray := prog_17_method_69_code
def yJ9_min_7cf53 : MethodName := ⟨RJ9, "min", "(II)I"⟩
def RJ0 : String := "java/lang/String"
def TJ0 : u_T := fun k => match k with
  | _ => ("", "", "", false)
def tyJ0 : Nat → FieldType := fun k => match k with
  | _ => .int
abbrev wsJ00 : List Cond := u_ws RJ0 TJ0 0
theorem nmJ0 : ∀ a, a < 0 → ∀ b, b < 0 → a ≠ b → (TJ0 a).2.1 ≠ (TJ0 b).2.1 := by decide +kernel
theorem tyJ0_ok : ∀ k, k < 0 → parseFieldDescriptor (TJ0 k).2.2.1 = some (tyJ0 k) := by decide +kernel
abbrev cJ0_length_8abf5 : ByteArray := prog_18_method_54_code
def yJ0_length_8abf5 : MethodName := ⟨RJ0, "length", "()I"⟩
abbrev cJ0_charAt_5068e : ByteArray := prog_18_method_56_code
def yJ0_charAt_5068e : MethodName := ⟨RJ0, "charAt", "(I)C"⟩
abbrev cJ0_indexOf_0f7a4 : ByteArray := prog_18_method_79_code
def yJ0_indexOf_0f7a4 : MethodName := ⟨RJ0, "indexOf", "(I)I"⟩
abbrev cJ0_indexOf_7cf53 : ByteArray := prog_18_method_80_code
def yJ0_indexOf_7cf53 : MethodName := ⟨RJ0, "indexOf", "(II)I"⟩
abbrev cJ0_coder_7d493 : ByteArray := prog_18_method_152_code
def yJ0_coder_7d493 : MethodName := ⟨RJ0, "coder", "()B"⟩
abbrev cJ0_isLatin1_aae02 : ByteArray := prog_18_method_154_code
def yJ0_isLatin1_aae02 : MethodName := ⟨RJ0, "isLatin1", "()Z"⟩
abbrev cJ0_checkIndex_df160 : ByteArray := prog_18_method_155_code
def yJ0_checkIndex_df160 : MethodName := ⟨RJ0, "checkIndex", "(II)V"⟩
abbrev cJ0_checkBoundsBeginEnd_23922 : ByteArray := prog_18_method_158_code
def yJ0_checkBoundsBeginEnd_23922 : MethodName := ⟨RJ0, "checkBoundsBeginEnd", "(III)V"⟩
def RJ1 : String := "java/lang/StringLatin1"
def TJ1 : u_T := fun k => match k with
  | _ => ("", "", "", false)
def tyJ1 : Nat → FieldType := fun k => match k with
  | _ => .int
abbrev wsJ10 : List Cond := u_ws RJ1 TJ1 0
theorem nmJ1 : ∀ a, a < 0 → ∀ b, b < 0 → a ≠ b → (TJ1 a).2.1 ≠ (TJ1 b).2.1 := by decide +kernel
theorem tyJ1_ok : ∀ k, k < 0 → parseFieldDescriptor (TJ1 k).2.2.1 = some (tyJ1 k) := by decide +kernel
abbrev cJ1_charAt_3b067 : ByteArray := prog_19_method_2_code
def yJ1_charAt_3b067 : MethodName := ⟨RJ1, "charAt", "([BI)C"⟩
abbrev cJ1_canEncode_9a6ad : ByteArray := prog_19_method_4_code
def yJ1_canEncode_9a6ad : MethodName := ⟨RJ1, "canEncode", "(I)Z"⟩
abbrev cJ1_indexOf_4cfef : ByteArray := prog_19_method_22_code
def yJ1_indexOf_4cfef : MethodName := ⟨RJ1, "indexOf", "([BIII)I"⟩
abbrev cJ1_indexOfChar_4cfef : ByteArray := prog_19_method_23_code
def yJ1_indexOfChar_4cfef : MethodName := ⟨RJ1, "indexOfChar", "([BIII)I"⟩
def RJ2 : String := "java/lang/StringUTF16"
def TJ2 : u_T := fun k => match k with
  | _ => ("", "", "", false)
def tyJ2 : Nat → FieldType := fun k => match k with
  | _ => .int
abbrev wsJ20 : List Cond := u_ws RJ2 TJ2 0
theorem nmJ2 : ∀ a, a < 0 → ∀ b, b < 0 → a ≠ b → (TJ2 a).2.1 ≠ (TJ2 b).2.1 := by decide +kernel
theorem tyJ2_ok : ∀ k, k < 0 → parseFieldDescriptor (TJ2 k).2.2.1 = some (tyJ2 k) := by decide +kernel
abbrev cJ2_getChar_3b067 : ByteArray := prog_20_method_5_code
def yJ2_getChar_3b067 : MethodName := ⟨RJ2, "getChar", "([BI)C"⟩
abbrev cJ2_length_9d52b : ByteArray := prog_20_method_6_code
def yJ2_length_9d52b : MethodName := ⟨RJ2, "length", "([B)I"⟩
abbrev cJ2_indexOf_4cfef : ByteArray := prog_20_method_40_code
def yJ2_indexOf_4cfef : MethodName := ⟨RJ2, "indexOf", "([BIII)I"⟩
abbrev cJ2_indexOfChar_4cfef : ByteArray := prog_20_method_47_code
def yJ2_indexOfChar_4cfef : MethodName := ⟨RJ2, "indexOfChar", "([BIII)I"⟩
abbrev cJ2_indexOfCharUnsafe_4cfef : ByteArray := prog_20_method_48_code
def yJ2_indexOfCharUnsafe_4cfef : MethodName := ⟨RJ2, "indexOfCharUnsafe", "([BIII)I"⟩
abbrev cJ2_indexOfSupplementary_4cfef : ByteArray := prog_20_method_49_code
def yJ2_indexOfSupplementary_4cfef : MethodName := ⟨RJ2, "indexOfSupplementary", "([BIII)I"⟩
abbrev cJ2_charAt_3b067 : ByteArray := prog_20_method_83_code
def yJ2_charAt_3b067 : MethodName := ⟨RJ2, "charAt", "([BI)C"⟩
abbrev cJ2_checkIndex_2214a : ByteArray := prog_20_method_91_code
def yJ2_checkIndex_2214a : MethodName := ⟨RJ2, "checkIndex", "(I[B)V"⟩
abbrev cJ2_checkBoundsBeginEnd_d044e : ByteArray := prog_20_method_93_code
def yJ2_checkBoundsBeginEnd_d044e : MethodName := ⟨RJ2, "checkBoundsBeginEnd", "(II[B)V"⟩
def RJ10 : String := "java/lang/System"
def TJ10 : u_T := fun k => match k with
  | _ => ("", "", "", false)
def tyJ10 : Nat → FieldType := fun k => match k with
  | _ => .int
abbrev wsJ100 : List Cond := u_ws RJ10 TJ10 0
theorem nmJ10 : ∀ a, a < 0 → ∀ b, b < 0 → a ≠ b → (TJ10 a).2.1 ≠ (TJ10 b).2.1 := by decide +kernel
theorem tyJ10_ok : ∀ k, k < 0 → parseFieldDescriptor (TJ10 k).2.2.1 = some (tyJ10 k) := by decide +kernel
def RJxfd54e : String := "java/lang/constant/Constable"
def RJx3cf43 : String := "java/lang/constant/ConstantDesc"
def RJ7 : String := "java/util/Arrays"
def TJ7 : u_T := fun k => match k with
  | _ => ("", "", "", false)
def tyJ7 : Nat → FieldType := fun k => match k with
  | _ => .int
abbrev wsJ70 : List Cond := u_ws RJ7 TJ7 0
theorem nmJ7 : ∀ a, a < 0 → ∀ b, b < 0 → a ≠ b → (TJ7 a).2.1 ≠ (TJ7 b).2.1 := by decide +kernel
theorem tyJ7_ok : ∀ k, k < 0 → parseFieldDescriptor (TJ7 k).2.2.1 = some (tyJ7 k) := by decide +kernel
abbrev cJ7_fill_53178 : ByteArray := prog_22_method_103_code
def yJ7_fill_53178 : MethodName := ⟨RJ7, "fill", "([II)V"⟩
def RJ3 : String := "jdk/internal/util/Preconditions"
def TJ3 : u_T := fun k => match k with
  | _ => ("", "", "", false)
def tyJ3 : Nat → FieldType := fun k => match k with
  | _ => .int
abbrev wsJ30 : List Cond := u_ws RJ3 TJ3 0
theorem nmJ3 : ∀ a, a < 0 → ∀ b, b < 0 → a ≠ b → (TJ3 a).2.1 ≠ (TJ3 b).2.1 := by decide +kernel
theorem tyJ3_ok : ∀ k, k < 0 → parseFieldDescriptor (TJ3 k).2.2.1 = some (tyJ3 k) := by decide +kernel
abbrev cJ3_checkIndex_8e157 : ByteArray := prog_23_method_11_code
def yJ3_checkIndex_8e157 : MethodName := ⟨RJ3, "checkIndex", "(IILjava/util/function/BiFunction;)I"⟩
abbrev cJ3_checkFromToIndex_8c36e : ByteArray := prog_23_method_12_code
def yJ3_checkFromToIndex_8c36e : MethodName := ⟨RJ3, "checkFromToIndex", "(IIILjava/util/function/BiFunction;)I"⟩
def RL : String := "StateJugglerLaw"
abbrev cL_law : ByteArray := code
def yL_law : MethodName := ⟨RL, "law", "([I)Z"⟩
abbrev vwCl : List vw_C := [(RX0, TX0, 12), (RX1, TX1, 4), (RX2, TX2, 3), (RX4, TX4, 1), (RX5, TX5, 3), (RX6, TX6, 10), (RX7, TX7, 6), (RX8, TX8, 5), (RX9, TX9, 6), (RX10, TX10, 12), (RX11, TX11, 15), (RX12, TX12, 66)]
end
section
/-! every cell of the class (0 .. 235) and of the reference (236 .. 276) by a number: its kind (0 .. 11: an object of vwCl; 20 .. 26: arrays), its length -/
def kdL : List Nat := [10, 5, 8, 20, 20, 20, 23, 23, 3, 1, 20, 20, 4, 24, 2, 20, 21, 6, 20, 20, 20, 20, 7, 20, 20, 25, 21, 20, 20, 20, 9, 20, 20, 20, 26, 20, 20, 20, 20, 20, 20, 20, 20, 9, 20, 20, 20, 26, 20, 20, 20, 20, 20, 20, 20, 20, 0, 20, 20, 20, 0, 20, 20, 20, 0, 20, 20, 20, 0, 20, 20, 20, 0, 20, 20, 20, 0, 20, 20, 20, 0, 20, 20, 20, 0, 20, 20, 20, 0, 20, 20, 20, 0, 20, 20, 20, 0, 20, 20, 20, 0, 20, 20, 20, 0, 20, 20, 20, 0, 20, 20, 20, 0, 20, 20, 20, 0, 20, 20, 20, 0, 20, 20, 20, 0, 20, 20, 20, 0, 20, 20, 20, 0, 20, 20, 20, 0, 20, 20, 20, 0, 20, 20, 20, 0, 20, 20, 20, 0, 20, 20, 20, 0, 20, 20, 20, 0, 20, 20, 20, 0, 20, 20, 20, 0, 20, 20, 20, 0, 20, 20, 20, 0, 20, 20, 20, 0, 20, 20, 20, 0, 20, 20, 20, 0, 20, 20, 20, 0, 20, 20, 20, 0, 20, 20, 20, 0, 20, 20, 20, 0, 20, 20, 20, 0, 20, 20, 20, 0, 20, 20, 20, 0, 20, 20, 20, 0, 20, 20, 20, 0, 20, 20, 20, 0, 20, 20, 20, 0, 20, 20, 20, 0, 20, 20, 20, 11, 22, 22, 20, 20, 20, 23, 23, 23, 20, 20, 20, 20, 20, 20, 20, 20, 20, 20, 20, 21, 20, 20, 20, 20, 20, 20, 20, 20, 20, 20, 20, 20, 20, 20, 20, 20, 21, 20, 21, 20]
def alL : List Nat := [0, 0, 0, 2000, 401, 401, 401, 12, 0, 0, 9, 32, 0, 40, 0, 20, 20, 0, 1024, 1024, 1024, 12, 0, 5, 5, 3, 3, 61, 7, 16, 0, 7, 7, 7, 5, 8, 8, 8, 8, 8, 5, 408, 4, 0, 7, 7, 7, 5, 8, 8, 8, 8, 8, 5, 408, 4, 0, 7, 7, 7, 0, 7, 7, 7, 0, 7, 7, 7, 0, 7, 7, 7, 0, 7, 7, 7, 0, 7, 7, 7, 0, 7, 7, 7, 0, 7, 7, 7, 0, 7, 7, 7, 0, 7, 7, 7, 0, 7, 7, 7, 0, 7, 7, 7, 0, 7, 7, 7, 0, 7, 7, 7, 0, 7, 7, 7, 0, 7, 7, 7, 0, 7, 7, 7, 0, 7, 7, 7, 0, 7, 7, 7, 0, 7, 7, 7, 0, 7, 7, 7, 0, 7, 7, 7, 0, 7, 7, 7, 0, 7, 7, 7, 0, 7, 7, 7, 0, 7, 7, 7, 0, 7, 7, 7, 0, 7, 7, 7, 0, 7, 7, 7, 0, 7, 7, 7, 0, 7, 7, 7, 0, 7, 7, 7, 0, 7, 7, 7, 0, 7, 7, 7, 0, 7, 7, 7, 0, 7, 7, 7, 0, 7, 7, 7, 0, 7, 7, 7, 0, 7, 7, 7, 0, 7, 7, 7, 0, 7, 7, 7, 0, 7, 7, 7, 0, 7, 7, 7, 0, 7, 7, 7, 0, 7, 7, 7, 0, 2000, 2000, 403, 403, 403, 403, 20, 12, 2, 14, 14, 14, 2, 10, 80, 2, 2, 8, 8, 260, 260, 260, 260, 260, 840, 840, 64, 9, 400, 29, 29, 1160, 16, 1024, 7, 20, 20, 41, 3, 87]
def kd (i : Nat) : Nat := kdL.getD i 99
def al (i : Nat) : Nat := alL.getD i 0
/-- the fields of the object i of kind n: ints by g, references by ad; text and spare of the StateJuggler by tx -/
def fsK (ad : Nat → Nat) (n i : Nat) (g : Nat → Int32) (tx : Nat → Nat) : List Value := match n with
  | 0 => [.int (g 0), .ref (ad (i + 1)), .ref (ad (i + 2)), .ref (ad (i + 3)), .int (g 4), .int (g 5), .int (g 6), .int (g 7), .int (g 8), .int (g 9), .int (g 10), .int (g 11)]
  | 1 => [.ref (ad 10), .ref (ad 11), .int (g 2), .int (g 3)]
  | 2 => [.ref (ad 15), .ref (ad 16), .int (g 2)]
  | 3 => [.ref (ad 9)]
  | 4 => [.ref (ad 13), .int (g 1), .int (g 2)]
  | 5 => [.ref (ad 2), .int (g 1), .int (g 2), .int (g 3), .int (g 4), .int (g 5), .int (g 6), .int (g 7), .ref (ad 7), .int (g 9)]
  | 6 => [.ref (ad 18), .int (g 1), .ref (ad 19), .ref (ad 20), .ref (ad 21), .int (g 5)]
  | 7 => [.ref (ad 23), .ref (ad 24), .int (g 2), .int (g 3), .int (g 4)]
  | 8 => [.ref (ad 3), .int (g 1), .ref (ad 4), .ref (ad 5), .ref (ad 6), .int (g 5)]
  | 9 => [.int (g 0), .ref (ad (i + 1)), .ref (ad (i + 2)), .ref (ad (i + 3)), .int (g 4), .ref (ad (i + 4)), .ref (ad (i + 10)), .ref (ad (i + 11)), .int (g 8), .ref (ad (i + 12)), .int (g 10), .int (g 11)]
  | 10 => [.ref (ad 1), .ref (ad 8), .ref (ad 12), .ref (ad 14), .ref (ad 17), .ref (ad 22), .ref (ad 56), .ref (ad 60), .ref (ad 25), .ref (ad 26), .ref (ad 27), .ref (ad 28), .ref (ad 29), .ref (ad (tx 0)), .ref (ad (tx 1))]
  | 11 => [.int (g 0), .ref (ad 237), .int (g 2), .ref (ad 238), .int (g 4), .ref (ad 239), .ref (ad 240), .ref (ad 241), .ref (ad 242), .ref (ad 243), .int (g 10), .int (g 11), .int (g 12), .int (g 13), .int (g 14), .int (g 15), .int (g 16), .int (g 17), .int (g 18), .int (g 19), .int (g 20), .ref (ad 244), .ref (ad 245), .ref (ad 246), .ref (ad 247), .ref (ad 248), .ref (ad 249), .ref (ad 250), .ref (ad 251), .ref (ad 252), .ref (ad 253), .ref (ad 254), .ref (ad 255), .int (g 33), .ref (ad 256), .ref (ad 257), .ref (ad 258), .ref (ad 259), .ref (ad 260), .int (g 39), .ref (ad 261), .ref (ad 262), .ref (ad 263), .int (g 43), .ref (ad 264), .ref (ad 265), .int (g 46), .ref (ad 266), .ref (ad 267), .int (g 49), .int (g 50), .int (g 51), .int (g 52), .int (g 53), .int (g 54), .ref (ad 268), .ref (ad 269), .int (g 57), .ref (ad 270), .ref (ad 271), .int (g 60), .ref (ad 272), .ref (ad 273), .ref (ad 274), .ref (ad 275), .ref (ad 276)]
  | _ => []
/-- where the j-th of an array of references is: the ring's, the slots', a text's heights -/
def rfK (ad : Nat → Nat) (n i j : Nat) : Option Nat := match n with
  | 24 => some (ad (76 + 4 * j))
  | 25 => some (ad (64 + 4 * j))
  | _ => some (ad (i + 1 + j))
def ceK (ad : Nat → Nat) (ca : Nat → ClassId) (n i : Nat) (g : Nat → Int32) (gl : Nat → Int64) (tx : Nat → Nat) : va_E :=
  if n < 12 then .inr (n, fsK ad n i g tx)
  else if n = 23 then .inl (ca i, al i, .inr (.inl gl))
  else if n < 23 then .inl (ca i, al i, .inl g)
  else .inl (ca i, al i, .inr (.inr (.inr (.inr (rfK ad n i)))))
def aty (n : Nat) : FieldType := match n with
  | 20 => .int
  | 21 => .boolean
  | 22 => .byte
  | 23 => .long
  | 26 => .array .int
  | _ => .object RX0
/-- a state: ints by cell and place, longs by cell and place, which cells are text and spare -/
abbrev HS : Type := (Nat → Nat → Int32) × (Nat → Nat → Int64) × (Nat → Nat)
def hI (σ : HS) (i k : Nat) (v : Int32) : HS := (va_up σ.1 i (upd (σ.1 i) k v), σ.2)
def hL (σ : HS) (i k : Nat) (v : Int64) : HS := (σ.1, va_up σ.2.1 i (vp_updL (σ.2.1 i) k v), σ.2.2)
def hR (σ : HS) (k : Nat) (v : Nat) : HS := (σ.1, σ.2.1, va_up σ.2.2 k v)
/-- a whole row of a cell anew -/
def hA (σ : HS) (i : Nat) (f : Nat → Int32) : HS := (va_up σ.1 i f, σ.2)
abbrev NN : Nat := 277
def mw (ad : Nat → Nat) (ca : Nat → ClassId) (σ : HS) : va_W := (List.range NN).map (fun i => (ad i, ceK ad ca (kd i) i (σ.1 i) (σ.2.1 i) σ.2.2))
def arL : List Nat := (List.range NN).filter (fun i => decide (12 ≤ kd i))
def tys (ca : Nat → ClassId) : List (ClassId × FieldType) := arL.map (fun i => (ca i, aty (kd i)))
end
section
/-- the words that a callee may take as its own -/
def gw_tbl : List Cond := lw_tbl.filter goodWord
theorem gwm {w : Cond} (i : Nat) (h : lw_tbl[i]? = some w) (hg : goodWord w = true) : w ∈ gw_tbl := List.mem_filter.mpr ⟨List.mem_of_getElem? h, hg⟩
theorem gw_lw {w : Cond} (h : w ∈ gw_tbl) : w ∈ lw_tbl := (List.mem_filter.mp h).1
def nestL : List (String × Nat × MethodName × String) := [("StateJuggler", 9, ⟨"StateJuggler$Reader", "<init>", "()V"⟩, "StateJuggler"), ("StateJuggler$Reader", 11, ⟨"StateJuggler$Tape", "<init>", "()V"⟩, "StateJuggler"), ("StateJuggler", 18, ⟨"StateJuggler$Juggler", "<init>", "()V"⟩, "StateJuggler"), ("StateJuggler$Juggler", 11, ⟨"StateJuggler$Asked", "<init>", "()V"⟩, "StateJuggler"), ("StateJuggler$Past", 17, ⟨"StateJuggler$Air", "<init>", "()V"⟩, "StateJuggler"), ("StateJuggler", 32, ⟨"StateJuggler$Hearsay", "<init>", "()V"⟩, "StateJuggler"), ("StateJuggler", 39, ⟨"StateJuggler$Route", "<init>", "()V"⟩, "StateJuggler"), ("StateJuggler", 46, ⟨"StateJuggler$Rows", "<init>", "()V"⟩, "StateJuggler"), ("StateJuggler", 53, ⟨"StateJuggler$Air", "<init>", "()V"⟩, "StateJuggler"), ("StateJuggler$Heights", 15, ⟨"StateJuggler", "isHeight", "(I)Z"⟩, "StateJuggler")]
/-- calls of nest mates' private members are linked -/
def EN (U : State) : Prop := ∀ q ∈ nestL, va_Nw (.methodLinkNest q.1 q.2.1 q.2.2.1 q.2.2.2) U
theorem EN.warm {s U : State} (hW : s.WarmedH U.vm) (h : EN s) : EN U := fun q hq => va_Nw.warmM hW (h q hq)
theorem EN.same {s U : State} (hv : s.vm = U.vm) (h : EN s) : EN U := fun q hq => va_Nw.same rfl hv (h q hq)
/-- a field by its link: class n of vwCl, slot k -/
def FL (own : String) (ix n k : Nat) : Prop := ∃ (Cn : String) (T : u_T) (N : Nat), vwCl[n]? = some (Cn, T, N) ∧ k < N ∧ n < 12 ∧ Cond.fieldLink own ix (T k).1 (T k).2.1 (T k).2.2.1 ∈ gw_tbl ∧ (∀ w ∈ u_ws Cn T N, w ∈ gw_tbl)
def FP (own : String) (ix n k : Nat) (ty : FieldType) : Prop := ∃ (Cn : String) (T : u_T) (N : Nat) (ty0 : Nat → FieldType), (vwCl[n]? = some (Cn, T, N) ∧ k < N ∧ n < 12 ∧ Cond.fieldLink own ix (T k).1 (T k).2.1 (T k).2.2.1 ∈ gw_tbl ∧ (∀ w ∈ u_ws Cn T N, w ∈ gw_tbl)) ∧ (∀ k, k < N → parseFieldDescriptor (T k).2.2.1 = some (ty0 k)) ∧ (∀ a, a < N → ∀ b, b < N → a ≠ b → (T a).2.1 ≠ (T b).2.1) ∧ (T k).2.2.2 = false ∧ parseFieldDescriptor (T k).2.2.1 = some ty ∧ (∀ (ad : Nat → Nat) (i : Nat) (g : Nat → Int32) (tx : Nat → Nat) (v : Int32), fsK ad n i (upd g k v) tx = (fsK ad n i g tx).set k (.int v) ∧ k < (fsK ad n i g tx).length)
/-- the words of an instance method, of a static one; n: how many arguments -/
def MI (y : MethodName) (cc : ByteArray) (nL : Nat) (ret : Option FieldType) (n : Nat) : Prop := Cond.instanceMethod y ∈ gw_tbl ∧ Cond.selects y.cls y y ∈ gw_tbl ∧ Cond.initialized y.cls ∈ gw_tbl ∧ Cond.code y cc nL ret ∈ gw_tbl ∧ (y.cls ≠ "java/lang/invoke/MethodHandle" ∧ y.cls ≠ "java/lang/invoke/VarHandle" ∧ (parseMethodDescriptor y.desc).map (fun d => d.parameters.length) = some n)
def MS (y : MethodName) (cc : ByteArray) (nL : Nat) (ret : Option FieldType) (n : Nat) : Prop := Cond.static y ∈ gw_tbl ∧ Cond.initialized y.cls ∈ gw_tbl ∧ Cond.code y cc nL ret ∈ gw_tbl ∧ (y.cls ≠ "java/lang/invoke/MethodHandle" ∧ y.cls ≠ "java/lang/invoke/VarHandle" ∧ (parseMethodDescriptor y.desc).map (fun d => d.parameters.length) = some n)
/-! the words of fields, methods and links, by their places -/
theorem tb_in {w : Cond} (h : w ∈ tables_1) : w ∈ lw_tbl := List.mem_append.mpr (Or.inr h)
theorem gw1 {w : Cond} (i : Nat) (h : tables_1_1[i]? = some w) (hg : goodWord w = true) : w ∈ gw_tbl := List.mem_filter.mpr ⟨tb_in (by have h := List.mem_of_getElem? h; exact List.mem_append.mpr (Or.inl h)), hg⟩
theorem gw2 {w : Cond} (i : Nat) (h : tables_1_2[i]? = some w) (hg : goodWord w = true) : w ∈ gw_tbl := List.mem_filter.mpr ⟨tb_in (by have h := List.mem_of_getElem? h; exact List.mem_append.mpr (Or.inr (List.mem_append.mpr (Or.inl h)))), hg⟩
theorem gw3 {w : Cond} (i : Nat) (h : tables_1_3[i]? = some w) (hg : goodWord w = true) : w ∈ gw_tbl := List.mem_filter.mpr ⟨tb_in (by have h := List.mem_of_getElem? h; exact List.mem_append.mpr (Or.inr (List.mem_append.mpr (Or.inr (List.mem_append.mpr (Or.inl h)))))), hg⟩
theorem gw4 {w : Cond} (i : Nat) (h : tables_1_4[i]? = some w) (hg : goodWord w = true) : w ∈ gw_tbl := List.mem_filter.mpr ⟨tb_in (by have h := List.mem_of_getElem? h; exact List.mem_append.mpr (Or.inr (List.mem_append.mpr (Or.inr (List.mem_append.mpr (Or.inr (List.mem_append.mpr (Or.inl h)))))))), hg⟩
theorem gw5 {w : Cond} (i : Nat) (h : tables_1_5[i]? = some w) (hg : goodWord w = true) : w ∈ gw_tbl := List.mem_filter.mpr ⟨tb_in (by have h := List.mem_of_getElem? h; exact List.mem_append.mpr (Or.inr (List.mem_append.mpr (Or.inr (List.mem_append.mpr (Or.inr (List.mem_append.mpr (Or.inr (List.mem_append.mpr (Or.inl h)))))))))), hg⟩
theorem gw6 {w : Cond} (i : Nat) (h : tables_1_6[i]? = some w) (hg : goodWord w = true) : w ∈ gw_tbl := List.mem_filter.mpr ⟨tb_in (by have h := List.mem_of_getElem? h; exact List.mem_append.mpr (Or.inr (List.mem_append.mpr (Or.inr (List.mem_append.mpr (Or.inr (List.mem_append.mpr (Or.inr (List.mem_append.mpr (Or.inr (List.mem_append.mpr (Or.inl h)))))))))))), hg⟩
theorem gw7 {w : Cond} (i : Nat) (h : tables_1_7[i]? = some w) (hg : goodWord w = true) : w ∈ gw_tbl := List.mem_filter.mpr ⟨tb_in (by have h := List.mem_of_getElem? h; exact List.mem_append.mpr (Or.inr (List.mem_append.mpr (Or.inr (List.mem_append.mpr (Or.inr (List.mem_append.mpr (Or.inr (List.mem_append.mpr (Or.inr (List.mem_append.mpr (Or.inr (List.mem_append.mpr (Or.inl h)))))))))))))), hg⟩
theorem gw8 {w : Cond} (i : Nat) (h : tables_1_8[i]? = some w) (hg : goodWord w = true) : w ∈ gw_tbl := List.mem_filter.mpr ⟨tb_in (by have h := List.mem_of_getElem? h; exact List.mem_append.mpr (Or.inr (List.mem_append.mpr (Or.inr (List.mem_append.mpr (Or.inr (List.mem_append.mpr (Or.inr (List.mem_append.mpr (Or.inr (List.mem_append.mpr (Or.inr (List.mem_append.mpr (Or.inr (h))))))))))))))), hg⟩
set_option maxRecDepth 20000 in
theorem uw_0 : ∀ w ∈ u_ws RX0 TX0 12, w ∈ gw_tbl := by
  have h : u_ws RX0 TX0 12 = [271, 273, 275, 277, 279, 281, 283, 285, 287, 289, 291, 293].filterMap (fun i => lw_tbl[i]?) := by decide +kernel
  have hg : (u_ws RX0 TX0 12).all goodWord = true := by decide +kernel
  intro w hw
  have h1 := List.all_eq_true.mp hg w hw
  rw [h] at hw
  obtain ⟨i, -, hi⟩ := List.mem_filterMap.mp hw
  exact gwm i hi h1
set_option maxRecDepth 20000 in
theorem uw_1 : ∀ w ∈ u_ws RX1 TX1 4, w ∈ gw_tbl := by
  have h : u_ws RX1 TX1 4 = [213, 215, 217, 219].filterMap (fun i => lw_tbl[i]?) := by decide +kernel
  have hg : (u_ws RX1 TX1 4).all goodWord = true := by decide +kernel
  intro w hw
  have h1 := List.all_eq_true.mp hg w hw
  rw [h] at hw
  obtain ⟨i, -, hi⟩ := List.mem_filterMap.mp hw
  exact gwm i hi h1
set_option maxRecDepth 20000 in
theorem uw_2 : ∀ w ∈ u_ws RX2 TX2 3, w ∈ gw_tbl := by
  have h : u_ws RX2 TX2 3 = [317, 319, 321].filterMap (fun i => lw_tbl[i]?) := by decide +kernel
  have hg : (u_ws RX2 TX2 3).all goodWord = true := by decide +kernel
  intro w hw
  have h1 := List.all_eq_true.mp hg w hw
  rw [h] at hw
  obtain ⟨i, -, hi⟩ := List.mem_filterMap.mp hw
  exact gwm i hi h1
set_option maxRecDepth 20000 in
theorem uw_3 : ∀ w ∈ u_ws RX4 TX4 1, w ∈ gw_tbl := by
  have h : u_ws RX4 TX4 1 = [223].filterMap (fun i => lw_tbl[i]?) := by decide +kernel
  have hg : (u_ws RX4 TX4 1).all goodWord = true := by decide +kernel
  intro w hw
  have h1 := List.all_eq_true.mp hg w hw
  rw [h] at hw
  obtain ⟨i, -, hi⟩ := List.mem_filterMap.mp hw
  exact gwm i hi h1
set_option maxRecDepth 20000 in
theorem uw_4 : ∀ w ∈ u_ws RX5 TX5 3, w ∈ gw_tbl := by
  have h : u_ws RX5 TX5 3 = [300, 302, 304].filterMap (fun i => lw_tbl[i]?) := by decide +kernel
  have hg : (u_ws RX5 TX5 3).all goodWord = true := by decide +kernel
  intro w hw
  have h1 := List.all_eq_true.mp hg w hw
  rw [h] at hw
  obtain ⟨i, -, hi⟩ := List.mem_filterMap.mp hw
  exact gwm i hi h1
set_option maxRecDepth 20000 in
theorem uw_5 : ∀ w ∈ u_ws RX6 TX6 10, w ∈ gw_tbl := by
  have h : u_ws RX6 TX6 10 = [175, 177, 179, 181, 183, 185, 187, 189, 191, 193].filterMap (fun i => lw_tbl[i]?) := by decide +kernel
  have hg : (u_ws RX6 TX6 10).all goodWord = true := by decide +kernel
  intro w hw
  have h1 := List.all_eq_true.mp hg w hw
  rw [h] at hw
  obtain ⟨i, -, hi⟩ := List.mem_filterMap.mp hw
  exact gwm i hi h1
set_option maxRecDepth 20000 in
theorem uw_6 : ∀ w ∈ u_ws RX7 TX7 6, w ∈ gw_tbl := by
  have h : u_ws RX7 TX7 6 = [339, 341, 343, 345, 347, 349].filterMap (fun i => lw_tbl[i]?) := by decide +kernel
  have hg : (u_ws RX7 TX7 6).all goodWord = true := by decide +kernel
  intro w hw
  have h1 := List.all_eq_true.mp hg w hw
  rw [h] at hw
  obtain ⟨i, -, hi⟩ := List.mem_filterMap.mp hw
  exact gwm i hi h1
set_option maxRecDepth 20000 in
theorem uw_7 : ∀ w ∈ u_ws RX8 TX8 5, w ∈ gw_tbl := by
  have h : u_ws RX8 TX8 5 = [365, 367, 369, 371, 373].filterMap (fun i => lw_tbl[i]?) := by decide +kernel
  have hg : (u_ws RX8 TX8 5).all goodWord = true := by decide +kernel
  intro w hw
  have h1 := List.all_eq_true.mp hg w hw
  rw [h] at hw
  obtain ⟨i, -, hi⟩ := List.mem_filterMap.mp hw
  exact gwm i hi h1
set_option maxRecDepth 20000 in
theorem uw_8 : ∀ w ∈ u_ws RX9 TX9 6, w ∈ gw_tbl := by
  have h : u_ws RX9 TX9 6 = [148, 150, 152, 154, 156, 158].filterMap (fun i => lw_tbl[i]?) := by decide +kernel
  have hg : (u_ws RX9 TX9 6).all goodWord = true := by decide +kernel
  intro w hw
  have h1 := List.all_eq_true.mp hg w hw
  rw [h] at hw
  obtain ⟨i, -, hi⟩ := List.mem_filterMap.mp hw
  exact gwm i hi h1
set_option maxRecDepth 20000 in
theorem uw_9 : ∀ w ∈ u_ws RX10 TX10 12, w ∈ gw_tbl := by
  have h : u_ws RX10 TX10 12 = [435, 437, 439, 441, 443, 445, 447, 449, 451, 453, 455, 457].filterMap (fun i => lw_tbl[i]?) := by decide +kernel
  have hg : (u_ws RX10 TX10 12).all goodWord = true := by decide +kernel
  intro w hw
  have h1 := List.all_eq_true.mp hg w hw
  rw [h] at hw
  obtain ⟨i, -, hi⟩ := List.mem_filterMap.mp hw
  exact gwm i hi h1
set_option maxRecDepth 20000 in
theorem uw_10 : ∀ w ∈ u_ws RX11 TX11 15, w ∈ gw_tbl := by
  have h : u_ws RX11 TX11 15 = [475, 477, 479, 481, 483, 485, 487, 489, 491, 493, 495, 497, 499, 501, 503].filterMap (fun i => lw_tbl[i]?) := by decide +kernel
  have hg : (u_ws RX11 TX11 15).all goodWord = true := by decide +kernel
  intro w hw
  have h1 := List.all_eq_true.mp hg w hw
  rw [h] at hw
  obtain ⟨i, -, hi⟩ := List.mem_filterMap.mp hw
  exact gwm i hi h1
set_option maxRecDepth 20000 in
theorem uw_11 : ∀ w ∈ u_ws RX12 TX12 66, w ∈ gw_tbl := by
  have h : u_ws RX12 TX12 66 = [1220, 1222, 1224, 1226, 1228, 1230, 1232, 1234, 1236, 1238, 1240, 1242, 1244, 1246, 1248, 1250, 1252, 1254, 1256, 1258, 1260, 1262, 1264, 1266, 1268, 1270, 1272, 1274, 1276, 1278, 1280, 1282, 1284, 1286, 1288, 1290, 1292, 1294, 1296, 1298, 1300, 1302, 1304, 1306, 1308, 1310, 1312, 1314, 1316, 1318, 1320, 1322, 1324, 1326, 1328, 1330, 1332, 1334, 1336, 1338, 1340, 1342, 1344, 1346, 1348, 1350].filterMap (fun i => lw_tbl[i]?) := by decide +kernel
  have hg : (u_ws RX12 TX12 66).all goodWord = true := by decide +kernel
  intro w hw
  have h1 := List.all_eq_true.mp hg w hw
  rw [h] at hw
  obtain ⟨i, -, hi⟩ := List.mem_filterMap.mp hw
  exact gwm i hi h1
theorem fl_RX11_10 : FL RX11 10 10 0 := ⟨RX11, TX11, 15, rfl, by decide, by decide, gw2 125 (by decide +kernel) rfl, uw_10⟩
theorem fl_RX11_19 : FL RX11 19 10 1 := ⟨RX11, TX11, 15, rfl, by decide, by decide, gw2 126 (by decide +kernel) rfl, uw_10⟩
theorem fl_RX11_26 : FL RX11 26 10 2 := ⟨RX11, TX11, 15, rfl, by decide, by decide, gw2 127 (by decide +kernel) rfl, uw_10⟩
theorem fl_RX11_33 : FL RX11 33 10 3 := ⟨RX11, TX11, 15, rfl, by decide, by decide, gw2 128 (by decide +kernel) rfl, uw_10⟩
theorem fl_RX11_40 : FL RX11 40 10 4 := ⟨RX11, TX11, 15, rfl, by decide, by decide, gw2 129 (by decide +kernel) rfl, uw_10⟩
theorem fl_RX11_47 : FL RX11 47 10 5 := ⟨RX11, TX11, 15, rfl, by decide, by decide, gw2 130 (by decide +kernel) rfl, uw_10⟩
theorem fl_RX11_54 : FL RX11 54 10 6 := ⟨RX11, TX11, 15, rfl, by decide, by decide, gw2 131 (by decide +kernel) rfl, uw_10⟩
theorem fl_RX11_58 : FL RX11 58 10 7 := ⟨RX11, TX11, 15, rfl, by decide, by decide, gw2 132 (by decide +kernel) rfl, uw_10⟩
theorem fl_RX11_61 : FL RX11 61 10 8 := ⟨RX11, TX11, 15, rfl, by decide, by decide, gw2 133 (by decide +kernel) rfl, uw_10⟩
theorem fl_RX11_65 : FL RX11 65 10 9 := ⟨RX11, TX11, 15, rfl, by decide, by decide, gw2 134 (by decide +kernel) rfl, uw_10⟩
theorem fl_RX11_69 : FL RX11 69 10 10 := ⟨RX11, TX11, 15, rfl, by decide, by decide, gw2 135 (by decide +kernel) rfl, uw_10⟩
theorem fl_RX11_73 : FL RX11 73 10 11 := ⟨RX11, TX11, 15, rfl, by decide, by decide, gw2 136 (by decide +kernel) rfl, uw_10⟩
theorem fl_RX11_76 : FL RX11 76 10 12 := ⟨RX11, TX11, 15, rfl, by decide, by decide, gw2 137 (by decide +kernel) rfl, uw_10⟩
theorem fl_RX11_82 : FL RX11 82 10 13 := ⟨RX11, TX11, 15, rfl, by decide, by decide, gw2 138 (by decide +kernel) rfl, uw_10⟩
theorem fl_RX11_86 : FL RX11 86 10 14 := ⟨RX11, TX11, 15, rfl, by decide, by decide, gw2 139 (by decide +kernel) rfl, uw_10⟩
theorem fl_RX11_89 : FL RX11 89 5 0 := ⟨RX6, TX6, 10, rfl, by decide, by decide, gw1 69 (by decide +kernel) rfl, uw_5⟩
theorem fl_RX11_93 : FL RX11 93 8 1 := ⟨RX9, TX9, 6, rfl, by decide, by decide, gw1 44 (by decide +kernel) rfl, uw_8⟩
theorem fp_RX11_93 : FP RX11 93 8 1 .int := ⟨RX9, TX9, 6, tyX9, ⟨rfl, by decide, by decide, gw1 44 (by decide +kernel) rfl, uw_8⟩, tyX9_ok, nmX9, rfl, by decide +kernel, fun _ _ _ _ _ => ⟨rfl, by show 1 < 6; decide⟩⟩
theorem fl_RX11_117 : FL RX11 117 2 2 := ⟨RX2, TX2, 3, rfl, by decide, by decide, gw1 221 (by decide +kernel) rfl, uw_2⟩
theorem fp_RX11_117 : FP RX11 117 2 2 .int := ⟨RX2, TX2, 3, tyX2, ⟨rfl, by decide, by decide, gw1 221 (by decide +kernel) rfl, uw_2⟩, tyX2_ok, nmX2, rfl, by decide +kernel, fun _ _ _ _ _ => ⟨rfl, by show 2 < 3; decide⟩⟩
theorem fl_RX11_118 : FL RX11 118 5 1 := ⟨RX6, TX6, 10, rfl, by decide, by decide, gw1 71 (by decide +kernel) rfl, uw_5⟩
theorem fp_RX11_118 : FP RX11 118 5 1 .int := ⟨RX6, TX6, 10, tyX6, ⟨rfl, by decide, by decide, gw1 71 (by decide +kernel) rfl, uw_5⟩, tyX6_ok, nmX6, rfl, by decide +kernel, fun _ _ _ _ _ => ⟨rfl, by show 1 < 10; decide⟩⟩
theorem fl_RX11_125 : FL RX11 125 9 1 := ⟨RX10, TX10, 12, rfl, by decide, by decide, gw2 65 (by decide +kernel) rfl, uw_9⟩
theorem fl_RX11_128 : FL RX11 128 9 2 := ⟨RX10, TX10, 12, rfl, by decide, by decide, gw2 69 (by decide +kernel) rfl, uw_9⟩
theorem fl_RX11_131 : FL RX11 131 0 1 := ⟨RX0, TX0, 12, rfl, by decide, by decide, gw1 149 (by decide +kernel) rfl, uw_0⟩
theorem fl_RX11_137 : FL RX11 137 0 2 := ⟨RX0, TX0, 12, rfl, by decide, by decide, gw1 152 (by decide +kernel) rfl, uw_0⟩
theorem fl_RX11_140 : FL RX11 140 0 3 := ⟨RX0, TX0, 12, rfl, by decide, by decide, gw1 155 (by decide +kernel) rfl, uw_0⟩
theorem fl_RX11_146 : FL RX11 146 9 6 := ⟨RX10, TX10, 12, rfl, by decide, by decide, gw2 83 (by decide +kernel) rfl, uw_9⟩
theorem fl_RX11_149 : FL RX11 149 9 5 := ⟨RX10, TX10, 12, rfl, by decide, by decide, gw2 79 (by decide +kernel) rfl, uw_9⟩
theorem fl_RX11_168 : FL RX11 168 9 0 := ⟨RX10, TX10, 12, rfl, by decide, by decide, gw2 62 (by decide +kernel) rfl, uw_9⟩
theorem fp_RX11_168 : FP RX11 168 9 0 .int := ⟨RX10, TX10, 12, tyX10, ⟨rfl, by decide, by decide, gw2 62 (by decide +kernel) rfl, uw_9⟩, tyX10_ok, nmX10, rfl, by decide +kernel, fun _ _ _ _ _ => ⟨rfl, by show 0 < 12; decide⟩⟩
theorem fl_RX11_171 : FL RX11 171 9 4 := ⟨RX10, TX10, 12, rfl, by decide, by decide, gw2 77 (by decide +kernel) rfl, uw_9⟩
theorem fp_RX11_171 : FP RX11 171 9 4 .int := ⟨RX10, TX10, 12, tyX10, ⟨rfl, by decide, by decide, gw2 77 (by decide +kernel) rfl, uw_9⟩, tyX10_ok, nmX10, rfl, by decide +kernel, fun _ _ _ _ _ => ⟨rfl, by show 4 < 12; decide⟩⟩
theorem fl_RX11_174 : FL RX11 174 0 4 := ⟨RX0, TX0, 12, rfl, by decide, by decide, gw1 158 (by decide +kernel) rfl, uw_0⟩
theorem fp_RX11_174 : FP RX11 174 0 4 .int := ⟨RX0, TX0, 12, tyX0, ⟨rfl, by decide, by decide, gw1 158 (by decide +kernel) rfl, uw_0⟩, tyX0_ok, nmX0, rfl, by decide +kernel, fun _ _ _ _ _ => ⟨rfl, by show 4 < 12; decide⟩⟩
theorem fl_RX11_177 : FL RX11 177 0 5 := ⟨RX0, TX0, 12, rfl, by decide, by decide, gw1 161 (by decide +kernel) rfl, uw_0⟩
theorem fp_RX11_177 : FP RX11 177 0 5 .int := ⟨RX0, TX0, 12, tyX0, ⟨rfl, by decide, by decide, gw1 161 (by decide +kernel) rfl, uw_0⟩, tyX0_ok, nmX0, rfl, by decide +kernel, fun _ _ _ _ _ => ⟨rfl, by show 5 < 12; decide⟩⟩
theorem fl_RX11_184 : FL RX11 184 0 6 := ⟨RX0, TX0, 12, rfl, by decide, by decide, gw1 163 (by decide +kernel) rfl, uw_0⟩
theorem fp_RX11_184 : FP RX11 184 0 6 .int := ⟨RX0, TX0, 12, tyX0, ⟨rfl, by decide, by decide, gw1 163 (by decide +kernel) rfl, uw_0⟩, tyX0_ok, nmX0, rfl, by decide +kernel, fun _ _ _ _ _ => ⟨rfl, by show 6 < 12; decide⟩⟩
theorem fl_RX11_187 : FL RX11 187 0 7 := ⟨RX0, TX0, 12, rfl, by decide, by decide, gw1 166 (by decide +kernel) rfl, uw_0⟩
theorem fp_RX11_187 : FP RX11 187 0 7 .int := ⟨RX0, TX0, 12, tyX0, ⟨rfl, by decide, by decide, gw1 166 (by decide +kernel) rfl, uw_0⟩, tyX0_ok, nmX0, rfl, by decide +kernel, fun _ _ _ _ _ => ⟨rfl, by show 7 < 12; decide⟩⟩
theorem fl_RX11_190 : FL RX11 190 0 8 := ⟨RX0, TX0, 12, rfl, by decide, by decide, gw1 169 (by decide +kernel) rfl, uw_0⟩
theorem fp_RX11_190 : FP RX11 190 0 8 .int := ⟨RX0, TX0, 12, tyX0, ⟨rfl, by decide, by decide, gw1 169 (by decide +kernel) rfl, uw_0⟩, tyX0_ok, nmX0, rfl, by decide +kernel, fun _ _ _ _ _ => ⟨rfl, by show 8 < 12; decide⟩⟩
theorem fl_RX11_193 : FL RX11 193 0 9 := ⟨RX0, TX0, 12, rfl, by decide, by decide, gw1 171 (by decide +kernel) rfl, uw_0⟩
theorem fp_RX11_193 : FP RX11 193 0 9 .int := ⟨RX0, TX0, 12, tyX0, ⟨rfl, by decide, by decide, gw1 171 (by decide +kernel) rfl, uw_0⟩, tyX0_ok, nmX0, rfl, by decide +kernel, fun _ _ _ _ _ => ⟨rfl, by show 9 < 12; decide⟩⟩
theorem fl_RX11_199 : FL RX11 199 4 2 := ⟨RX5, TX5, 3, rfl, by decide, by decide, gw1 204 (by decide +kernel) rfl, uw_4⟩
theorem fp_RX11_199 : FP RX11 199 4 2 .int := ⟨RX5, TX5, 3, tyX5, ⟨rfl, by decide, by decide, gw1 204 (by decide +kernel) rfl, uw_4⟩, tyX5_ok, nmX5, rfl, by decide +kernel, fun _ _ _ _ _ => ⟨rfl, by show 2 < 3; decide⟩⟩
theorem fl_RX11_217 : FL RX11 217 0 11 := ⟨RX0, TX0, 12, rfl, by decide, by decide, gw1 175 (by decide +kernel) rfl, uw_0⟩
theorem fp_RX11_217 : FP RX11 217 0 11 .int := ⟨RX0, TX0, 12, tyX0, ⟨rfl, by decide, by decide, gw1 175 (by decide +kernel) rfl, uw_0⟩, tyX0_ok, nmX0, rfl, by decide +kernel, fun _ _ _ _ _ => ⟨rfl, by show 11 < 12; decide⟩⟩
theorem fl_RX11_220 : FL RX11 220 9 11 := ⟨RX10, TX10, 12, rfl, by decide, by decide, gw2 99 (by decide +kernel) rfl, uw_9⟩
theorem fp_RX11_220 : FP RX11 220 9 11 .int := ⟨RX10, TX10, 12, tyX10, ⟨rfl, by decide, by decide, gw2 99 (by decide +kernel) rfl, uw_9⟩, tyX10_ok, nmX10, rfl, by decide +kernel, fun _ _ _ _ _ => ⟨rfl, by show 11 < 12; decide⟩⟩
theorem fl_RX11_270 : FL RX11 270 7 2 := ⟨RX8, TX8, 5, rfl, by decide, by decide, gw2 27 (by decide +kernel) rfl, uw_7⟩
theorem fp_RX11_270 : FP RX11 270 7 2 .int := ⟨RX8, TX8, 5, tyX8, ⟨rfl, by decide, by decide, gw2 27 (by decide +kernel) rfl, uw_7⟩, tyX8_ok, nmX8, rfl, by decide +kernel, fun _ _ _ _ _ => ⟨rfl, by show 2 < 5; decide⟩⟩
theorem fl_RX11_273 : FL RX11 273 7 1 := ⟨RX8, TX8, 5, rfl, by decide, by decide, gw2 25 (by decide +kernel) rfl, uw_7⟩
theorem fl_RX11_304 : FL RX11 304 6 5 := ⟨RX7, TX7, 6, rfl, by decide, by decide, gw2 3 (by decide +kernel) rfl, uw_6⟩
theorem fp_RX11_304 : FP RX11 304 6 5 .int := ⟨RX7, TX7, 6, tyX7, ⟨rfl, by decide, by decide, gw2 3 (by decide +kernel) rfl, uw_6⟩, tyX7_ok, nmX7, rfl, by decide +kernel, fun _ _ _ _ _ => ⟨rfl, by show 5 < 6; decide⟩⟩
theorem fl_RX11_305 : FL RX11 305 6 4 := ⟨RX7, TX7, 6, rfl, by decide, by decide, gw2 1 (by decide +kernel) rfl, uw_6⟩
theorem fl_RX11_321 : FL RX11 321 0 0 := ⟨RX0, TX0, 12, rfl, by decide, by decide, gw1 146 (by decide +kernel) rfl, uw_0⟩
theorem fp_RX11_321 : FP RX11 321 0 0 .int := ⟨RX0, TX0, 12, tyX0, ⟨rfl, by decide, by decide, gw1 146 (by decide +kernel) rfl, uw_0⟩, tyX0_ok, nmX0, rfl, by decide +kernel, fun _ _ _ _ _ => ⟨rfl, by show 0 < 12; decide⟩⟩
theorem fl_RX0_9 : FL RX0 9 0 1 := ⟨RX0, TX0, 12, rfl, by decide, by decide, gw1 147 (by decide +kernel) rfl, uw_0⟩
theorem fl_RX0_15 : FL RX0 15 0 2 := ⟨RX0, TX0, 12, rfl, by decide, by decide, gw1 150 (by decide +kernel) rfl, uw_0⟩
theorem fl_RX0_18 : FL RX0 18 0 3 := ⟨RX0, TX0, 12, rfl, by decide, by decide, gw1 153 (by decide +kernel) rfl, uw_0⟩
theorem fl_RX0_21 : FL RX0 21 0 9 := ⟨RX0, TX0, 12, rfl, by decide, by decide, gw1 170 (by decide +kernel) rfl, uw_0⟩
theorem fp_RX0_21 : FP RX0 21 0 9 .int := ⟨RX0, TX0, 12, tyX0, ⟨rfl, by decide, by decide, gw1 170 (by decide +kernel) rfl, uw_0⟩, tyX0_ok, nmX0, rfl, by decide +kernel, fun _ _ _ _ _ => ⟨rfl, by show 9 < 12; decide⟩⟩
theorem fl_RX0_25 : FL RX0 25 0 11 := ⟨RX0, TX0, 12, rfl, by decide, by decide, gw1 173 (by decide +kernel) rfl, uw_0⟩
theorem fp_RX0_25 : FP RX0 25 0 11 .int := ⟨RX0, TX0, 12, tyX0, ⟨rfl, by decide, by decide, gw1 173 (by decide +kernel) rfl, uw_0⟩, tyX0_ok, nmX0, rfl, by decide +kernel, fun _ _ _ _ _ => ⟨rfl, by show 11 < 12; decide⟩⟩
theorem fl_RX0_28 : FL RX0 28 9 0 := ⟨RX10, TX10, 12, rfl, by decide, by decide, gw2 60 (by decide +kernel) rfl, uw_9⟩
theorem fp_RX0_28 : FP RX0 28 9 0 .int := ⟨RX10, TX10, 12, tyX10, ⟨rfl, by decide, by decide, gw2 60 (by decide +kernel) rfl, uw_9⟩, tyX10_ok, nmX10, rfl, by decide +kernel, fun _ _ _ _ _ => ⟨rfl, by show 0 < 12; decide⟩⟩
theorem fl_RX0_33 : FL RX0 33 0 0 := ⟨RX0, TX0, 12, rfl, by decide, by decide, gw1 144 (by decide +kernel) rfl, uw_0⟩
theorem fp_RX0_33 : FP RX0 33 0 0 .int := ⟨RX0, TX0, 12, tyX0, ⟨rfl, by decide, by decide, gw1 144 (by decide +kernel) rfl, uw_0⟩, tyX0_ok, nmX0, rfl, by decide +kernel, fun _ _ _ _ _ => ⟨rfl, by show 0 < 12; decide⟩⟩
theorem fl_RX0_40 : FL RX0 40 9 3 := ⟨RX10, TX10, 12, rfl, by decide, by decide, gw2 72 (by decide +kernel) rfl, uw_9⟩
theorem fl_RX0_49 : FL RX0 49 0 4 := ⟨RX0, TX0, 12, rfl, by decide, by decide, gw1 156 (by decide +kernel) rfl, uw_0⟩
theorem fp_RX0_49 : FP RX0 49 0 4 .int := ⟨RX0, TX0, 12, tyX0, ⟨rfl, by decide, by decide, gw1 156 (by decide +kernel) rfl, uw_0⟩, tyX0_ok, nmX0, rfl, by decide +kernel, fun _ _ _ _ _ => ⟨rfl, by show 4 < 12; decide⟩⟩
theorem fl_RX0_52 : FL RX0 52 0 5 := ⟨RX0, TX0, 12, rfl, by decide, by decide, gw1 159 (by decide +kernel) rfl, uw_0⟩
theorem fp_RX0_52 : FP RX0 52 0 5 .int := ⟨RX0, TX0, 12, tyX0, ⟨rfl, by decide, by decide, gw1 159 (by decide +kernel) rfl, uw_0⟩, tyX0_ok, nmX0, rfl, by decide +kernel, fun _ _ _ _ _ => ⟨rfl, by show 5 < 12; decide⟩⟩
theorem fl_RX0_55 : FL RX0 55 0 6 := ⟨RX0, TX0, 12, rfl, by decide, by decide, gw1 162 (by decide +kernel) rfl, uw_0⟩
theorem fp_RX0_55 : FP RX0 55 0 6 .int := ⟨RX0, TX0, 12, tyX0, ⟨rfl, by decide, by decide, gw1 162 (by decide +kernel) rfl, uw_0⟩, tyX0_ok, nmX0, rfl, by decide +kernel, fun _ _ _ _ _ => ⟨rfl, by show 6 < 12; decide⟩⟩
theorem fl_RX0_58 : FL RX0 58 0 7 := ⟨RX0, TX0, 12, rfl, by decide, by decide, gw1 164 (by decide +kernel) rfl, uw_0⟩
theorem fp_RX0_58 : FP RX0 58 0 7 .int := ⟨RX0, TX0, 12, tyX0, ⟨rfl, by decide, by decide, gw1 164 (by decide +kernel) rfl, uw_0⟩, tyX0_ok, nmX0, rfl, by decide +kernel, fun _ _ _ _ _ => ⟨rfl, by show 7 < 12; decide⟩⟩
theorem fl_RX0_61 : FL RX0 61 0 8 := ⟨RX0, TX0, 12, rfl, by decide, by decide, gw1 167 (by decide +kernel) rfl, uw_0⟩
theorem fp_RX0_61 : FP RX0 61 0 8 .int := ⟨RX0, TX0, 12, tyX0, ⟨rfl, by decide, by decide, gw1 167 (by decide +kernel) rfl, uw_0⟩, tyX0_ok, nmX0, rfl, by decide +kernel, fun _ _ _ _ _ => ⟨rfl, by show 8 < 12; decide⟩⟩
theorem fl_RX0_64 : FL RX0 64 9 4 := ⟨RX10, TX10, 12, rfl, by decide, by decide, gw2 75 (by decide +kernel) rfl, uw_9⟩
theorem fp_RX0_64 : FP RX0 64 9 4 .int := ⟨RX10, TX10, 12, tyX10, ⟨rfl, by decide, by decide, gw2 75 (by decide +kernel) rfl, uw_9⟩, tyX10_ok, nmX10, rfl, by decide +kernel, fun _ _ _ _ _ => ⟨rfl, by show 4 < 12; decide⟩⟩
theorem fl_RX0_67 : FL RX0 67 0 10 := ⟨RX0, TX0, 12, rfl, by decide, by decide, gw1 172 (by decide +kernel) rfl, uw_0⟩
theorem fp_RX0_67 : FP RX0 67 0 10 .int := ⟨RX0, TX0, 12, tyX0, ⟨rfl, by decide, by decide, gw1 172 (by decide +kernel) rfl, uw_0⟩, tyX0_ok, nmX0, rfl, by decide +kernel, fun _ _ _ _ _ => ⟨rfl, by show 10 < 12; decide⟩⟩
theorem fl_RX0_96 : FL RX0 96 9 6 := ⟨RX10, TX10, 12, rfl, by decide, by decide, gw2 85 (by decide +kernel) rfl, uw_9⟩
theorem fl_RX0_99 : FL RX0 99 9 5 := ⟨RX10, TX10, 12, rfl, by decide, by decide, gw2 81 (by decide +kernel) rfl, uw_9⟩
theorem fl_RX1_9 : FL RX1 9 1 0 := ⟨RX1, TX1, 4, rfl, by decide, by decide, gw1 113 (by decide +kernel) rfl, uw_1⟩
theorem fl_RX1_15 : FL RX1 15 1 1 := ⟨RX1, TX1, 4, rfl, by decide, by decide, gw1 115 (by decide +kernel) rfl, uw_1⟩
theorem fl_RX1_18 : FL RX1 18 1 2 := ⟨RX1, TX1, 4, rfl, by decide, by decide, gw1 116 (by decide +kernel) rfl, uw_1⟩
theorem fp_RX1_18 : FP RX1 18 1 2 .int := ⟨RX1, TX1, 4, tyX1, ⟨rfl, by decide, by decide, gw1 116 (by decide +kernel) rfl, uw_1⟩, tyX1_ok, nmX1, rfl, by decide +kernel, fun _ _ _ _ _ => ⟨rfl, by show 2 < 4; decide⟩⟩
theorem fl_RX1_22 : FL RX1 22 1 3 := ⟨RX1, TX1, 4, rfl, by decide, by decide, gw1 117 (by decide +kernel) rfl, uw_1⟩
theorem fp_RX1_22 : FP RX1 22 1 3 .boolean := ⟨RX1, TX1, 4, tyX1, ⟨rfl, by decide, by decide, gw1 117 (by decide +kernel) rfl, uw_1⟩, tyX1_ok, nmX1, rfl, by decide +kernel, fun _ _ _ _ _ => ⟨rfl, by show 3 < 4; decide⟩⟩
theorem fl_RX2_9 : FL RX2 9 2 0 := ⟨RX2, TX2, 3, rfl, by decide, by decide, gw1 218 (by decide +kernel) rfl, uw_2⟩
theorem fl_RX2_15 : FL RX2 15 2 1 := ⟨RX2, TX2, 3, rfl, by decide, by decide, gw1 219 (by decide +kernel) rfl, uw_2⟩
theorem fl_RX2_19 : FL RX2 19 2 2 := ⟨RX2, TX2, 3, rfl, by decide, by decide, gw1 220 (by decide +kernel) rfl, uw_2⟩
theorem fp_RX2_19 : FP RX2 19 2 2 .int := ⟨RX2, TX2, 3, tyX2, ⟨rfl, by decide, by decide, gw1 220 (by decide +kernel) rfl, uw_2⟩, tyX2_ok, nmX2, rfl, by decide +kernel, fun _ _ _ _ _ => ⟨rfl, by show 2 < 3; decide⟩⟩
theorem fl_RX4_12 : FL RX4 12 3 0 := ⟨RX4, TX4, 1, rfl, by decide, by decide, gw1 127 (by decide +kernel) rfl, uw_3⟩
theorem fl_RX4_42 : FL RX4 42 0 5 := ⟨RX0, TX0, 12, rfl, by decide, by decide, gw1 160 (by decide +kernel) rfl, uw_0⟩
theorem fp_RX4_42 : FP RX4 42 0 5 .int := ⟨RX0, TX0, 12, tyX0, ⟨rfl, by decide, by decide, gw1 160 (by decide +kernel) rfl, uw_0⟩, tyX0_ok, nmX0, rfl, by decide +kernel, fun _ _ _ _ _ => ⟨rfl, by show 5 < 12; decide⟩⟩
theorem fl_RX4_46 : FL RX4 46 9 10 := ⟨RX10, TX10, 12, rfl, by decide, by decide, gw2 95 (by decide +kernel) rfl, uw_9⟩
theorem fp_RX4_46 : FP RX4 46 9 10 .int := ⟨RX10, TX10, 12, tyX10, ⟨rfl, by decide, by decide, gw2 95 (by decide +kernel) rfl, uw_9⟩, tyX10_ok, nmX10, rfl, by decide +kernel, fun _ _ _ _ _ => ⟨rfl, by show 10 < 12; decide⟩⟩
theorem fl_RX4_57 : FL RX4 57 0 0 := ⟨RX0, TX0, 12, rfl, by decide, by decide, gw1 145 (by decide +kernel) rfl, uw_0⟩
theorem fp_RX4_57 : FP RX4 57 0 0 .int := ⟨RX0, TX0, 12, tyX0, ⟨rfl, by decide, by decide, gw1 145 (by decide +kernel) rfl, uw_0⟩, tyX0_ok, nmX0, rfl, by decide +kernel, fun _ _ _ _ _ => ⟨rfl, by show 0 < 12; decide⟩⟩
theorem fl_RX4_74 : FL RX4 74 0 2 := ⟨RX0, TX0, 12, rfl, by decide, by decide, gw1 151 (by decide +kernel) rfl, uw_0⟩
theorem fl_RX4_78 : FL RX4 78 0 4 := ⟨RX0, TX0, 12, rfl, by decide, by decide, gw1 157 (by decide +kernel) rfl, uw_0⟩
theorem fp_RX4_78 : FP RX4 78 0 4 .int := ⟨RX0, TX0, 12, tyX0, ⟨rfl, by decide, by decide, gw1 157 (by decide +kernel) rfl, uw_0⟩, tyX0_ok, nmX0, rfl, by decide +kernel, fun _ _ _ _ _ => ⟨rfl, by show 4 < 12; decide⟩⟩
theorem fl_RX4_81 : FL RX4 81 0 11 := ⟨RX0, TX0, 12, rfl, by decide, by decide, gw1 174 (by decide +kernel) rfl, uw_0⟩
theorem fp_RX4_81 : FP RX4 81 0 11 .int := ⟨RX0, TX0, 12, tyX0, ⟨rfl, by decide, by decide, gw1 174 (by decide +kernel) rfl, uw_0⟩, tyX0_ok, nmX0, rfl, by decide +kernel, fun _ _ _ _ _ => ⟨rfl, by show 11 < 12; decide⟩⟩
theorem fl_RX4_92 : FL RX4 92 0 8 := ⟨RX0, TX0, 12, rfl, by decide, by decide, gw1 168 (by decide +kernel) rfl, uw_0⟩
theorem fp_RX4_92 : FP RX4 92 0 8 .int := ⟨RX0, TX0, 12, tyX0, ⟨rfl, by decide, by decide, gw1 168 (by decide +kernel) rfl, uw_0⟩, tyX0_ok, nmX0, rfl, by decide +kernel, fun _ _ _ _ _ => ⟨rfl, by show 8 < 12; decide⟩⟩
theorem fl_RX4_98 : FL RX4 98 0 7 := ⟨RX0, TX0, 12, rfl, by decide, by decide, gw1 165 (by decide +kernel) rfl, uw_0⟩
theorem fp_RX4_98 : FP RX4 98 0 7 .int := ⟨RX0, TX0, 12, tyX0, ⟨rfl, by decide, by decide, gw1 165 (by decide +kernel) rfl, uw_0⟩, tyX0_ok, nmX0, rfl, by decide +kernel, fun _ _ _ _ _ => ⟨rfl, by show 7 < 12; decide⟩⟩
theorem fl_RX4_101 : FL RX4 101 0 3 := ⟨RX0, TX0, 12, rfl, by decide, by decide, gw1 154 (by decide +kernel) rfl, uw_0⟩
theorem fl_RX4_104 : FL RX4 104 0 1 := ⟨RX0, TX0, 12, rfl, by decide, by decide, gw1 148 (by decide +kernel) rfl, uw_0⟩
theorem fl_RX4_107 : FL RX4 107 1 0 := ⟨RX1, TX1, 4, rfl, by decide, by decide, gw1 114 (by decide +kernel) rfl, uw_1⟩
theorem fl_RX4_110 : FL RX4 110 9 1 := ⟨RX10, TX10, 12, rfl, by decide, by decide, gw2 64 (by decide +kernel) rfl, uw_9⟩
theorem fl_RX4_113 : FL RX4 113 9 2 := ⟨RX10, TX10, 12, rfl, by decide, by decide, gw2 68 (by decide +kernel) rfl, uw_9⟩
theorem fl_RX4_116 : FL RX4 116 9 7 := ⟨RX10, TX10, 12, rfl, by decide, by decide, gw2 87 (by decide +kernel) rfl, uw_9⟩
theorem fl_RX4_119 : FL RX4 119 9 9 := ⟨RX10, TX10, 12, rfl, by decide, by decide, gw2 92 (by decide +kernel) rfl, uw_9⟩
theorem fl_RX5_11 : FL RX5 11 4 0 := ⟨RX5, TX5, 3, rfl, by decide, by decide, gw1 201 (by decide +kernel) rfl, uw_4⟩
theorem fl_RX5_18 : FL RX5 18 4 2 := ⟨RX5, TX5, 3, rfl, by decide, by decide, gw1 203 (by decide +kernel) rfl, uw_4⟩
theorem fp_RX5_18 : FP RX5 18 4 2 .int := ⟨RX5, TX5, 3, tyX5, ⟨rfl, by decide, by decide, gw1 203 (by decide +kernel) rfl, uw_4⟩, tyX5_ok, nmX5, rfl, by decide +kernel, fun _ _ _ _ _ => ⟨rfl, by show 2 < 3; decide⟩⟩
theorem fl_RX5_22 : FL RX5 22 4 1 := ⟨RX5, TX5, 3, rfl, by decide, by decide, gw1 202 (by decide +kernel) rfl, uw_4⟩
theorem fp_RX5_22 : FP RX5 22 4 1 .int := ⟨RX5, TX5, 3, tyX5, ⟨rfl, by decide, by decide, gw1 202 (by decide +kernel) rfl, uw_4⟩, tyX5_ok, nmX5, rfl, by decide +kernel, fun _ _ _ _ _ => ⟨rfl, by show 1 < 3; decide⟩⟩
theorem fl_RX6_12 : FL RX6 12 5 0 := ⟨RX6, TX6, 10, rfl, by decide, by decide, gw1 68 (by decide +kernel) rfl, uw_5⟩
theorem fl_RX6_18 : FL RX6 18 5 1 := ⟨RX6, TX6, 10, rfl, by decide, by decide, gw1 70 (by decide +kernel) rfl, uw_5⟩
theorem fp_RX6_18 : FP RX6 18 5 1 .int := ⟨RX6, TX6, 10, tyX6, ⟨rfl, by decide, by decide, gw1 70 (by decide +kernel) rfl, uw_5⟩, tyX6_ok, nmX6, rfl, by decide +kernel, fun _ _ _ _ _ => ⟨rfl, by show 1 < 10; decide⟩⟩
theorem fl_RX6_22 : FL RX6 22 5 8 := ⟨RX6, TX6, 10, rfl, by decide, by decide, gw1 78 (by decide +kernel) rfl, uw_5⟩
theorem fl_RX6_31 : FL RX6 31 5 9 := ⟨RX6, TX6, 10, rfl, by decide, by decide, gw1 79 (by decide +kernel) rfl, uw_5⟩
theorem fp_RX6_31 : FP RX6 31 5 9 .int := ⟨RX6, TX6, 10, tyX6, ⟨rfl, by decide, by decide, gw1 79 (by decide +kernel) rfl, uw_5⟩, tyX6_ok, nmX6, rfl, by decide +kernel, fun _ _ _ _ _ => ⟨rfl, by show 9 < 10; decide⟩⟩
theorem fl_RX6_34 : FL RX6 34 5 2 := ⟨RX6, TX6, 10, rfl, by decide, by decide, gw1 72 (by decide +kernel) rfl, uw_5⟩
theorem fp_RX6_34 : FP RX6 34 5 2 .int := ⟨RX6, TX6, 10, tyX6, ⟨rfl, by decide, by decide, gw1 72 (by decide +kernel) rfl, uw_5⟩, tyX6_ok, nmX6, rfl, by decide +kernel, fun _ _ _ _ _ => ⟨rfl, by show 2 < 10; decide⟩⟩
theorem fl_RX6_37 : FL RX6 37 5 3 := ⟨RX6, TX6, 10, rfl, by decide, by decide, gw1 73 (by decide +kernel) rfl, uw_5⟩
theorem fp_RX6_37 : FP RX6 37 5 3 .int := ⟨RX6, TX6, 10, tyX6, ⟨rfl, by decide, by decide, gw1 73 (by decide +kernel) rfl, uw_5⟩, tyX6_ok, nmX6, rfl, by decide +kernel, fun _ _ _ _ _ => ⟨rfl, by show 3 < 10; decide⟩⟩
theorem fl_RX6_40 : FL RX6 40 5 4 := ⟨RX6, TX6, 10, rfl, by decide, by decide, gw1 74 (by decide +kernel) rfl, uw_5⟩
theorem fp_RX6_40 : FP RX6 40 5 4 .int := ⟨RX6, TX6, 10, tyX6, ⟨rfl, by decide, by decide, gw1 74 (by decide +kernel) rfl, uw_5⟩, tyX6_ok, nmX6, rfl, by decide +kernel, fun _ _ _ _ _ => ⟨rfl, by show 4 < 10; decide⟩⟩
theorem fl_RX6_46 : FL RX6 46 5 5 := ⟨RX6, TX6, 10, rfl, by decide, by decide, gw1 75 (by decide +kernel) rfl, uw_5⟩
theorem fp_RX6_46 : FP RX6 46 5 5 .int := ⟨RX6, TX6, 10, tyX6, ⟨rfl, by decide, by decide, gw1 75 (by decide +kernel) rfl, uw_5⟩, tyX6_ok, nmX6, rfl, by decide +kernel, fun _ _ _ _ _ => ⟨rfl, by show 5 < 10; decide⟩⟩
theorem fl_RX6_49 : FL RX6 49 8 2 := ⟨RX9, TX9, 6, rfl, by decide, by decide, gw1 47 (by decide +kernel) rfl, uw_8⟩
theorem fl_RX6_53 : FL RX6 53 5 6 := ⟨RX6, TX6, 10, rfl, by decide, by decide, gw1 76 (by decide +kernel) rfl, uw_5⟩
theorem fp_RX6_53 : FP RX6 53 5 6 .int := ⟨RX6, TX6, 10, tyX6, ⟨rfl, by decide, by decide, gw1 76 (by decide +kernel) rfl, uw_5⟩, tyX6_ok, nmX6, rfl, by decide +kernel, fun _ _ _ _ _ => ⟨rfl, by show 6 < 10; decide⟩⟩
theorem fl_RX6_64 : FL RX6 64 8 4 := ⟨RX9, TX9, 6, rfl, by decide, by decide, gw1 51 (by decide +kernel) rfl, uw_8⟩
theorem fl_RX6_67 : FL RX6 67 5 7 := ⟨RX6, TX6, 10, rfl, by decide, by decide, gw1 77 (by decide +kernel) rfl, uw_5⟩
theorem fp_RX6_67 : FP RX6 67 5 7 .int := ⟨RX6, TX6, 10, tyX6, ⟨rfl, by decide, by decide, gw1 77 (by decide +kernel) rfl, uw_5⟩, tyX6_ok, nmX6, rfl, by decide +kernel, fun _ _ _ _ _ => ⟨rfl, by show 7 < 10; decide⟩⟩
theorem fl_RX6_70 : FL RX6 70 8 3 := ⟨RX9, TX9, 6, rfl, by decide, by decide, gw1 49 (by decide +kernel) rfl, uw_8⟩
theorem fl_RX6_94 : FL RX6 94 9 10 := ⟨RX10, TX10, 12, rfl, by decide, by decide, gw2 96 (by decide +kernel) rfl, uw_9⟩
theorem fp_RX6_94 : FP RX6 94 9 10 .int := ⟨RX10, TX10, 12, tyX10, ⟨rfl, by decide, by decide, gw2 96 (by decide +kernel) rfl, uw_9⟩, tyX10_ok, nmX10, rfl, by decide +kernel, fun _ _ _ _ _ => ⟨rfl, by show 10 < 12; decide⟩⟩
theorem fl_RX6_97 : FL RX6 97 9 11 := ⟨RX10, TX10, 12, rfl, by decide, by decide, gw2 98 (by decide +kernel) rfl, uw_9⟩
theorem fp_RX6_97 : FP RX6 97 9 11 .int := ⟨RX10, TX10, 12, tyX10, ⟨rfl, by decide, by decide, gw2 98 (by decide +kernel) rfl, uw_9⟩, tyX10_ok, nmX10, rfl, by decide +kernel, fun _ _ _ _ _ => ⟨rfl, by show 11 < 12; decide⟩⟩
theorem fl_RX6_100 : FL RX6 100 9 0 := ⟨RX10, TX10, 12, rfl, by decide, by decide, gw2 61 (by decide +kernel) rfl, uw_9⟩
theorem fp_RX6_100 : FP RX6 100 9 0 .int := ⟨RX10, TX10, 12, tyX10, ⟨rfl, by decide, by decide, gw2 61 (by decide +kernel) rfl, uw_9⟩, tyX10_ok, nmX10, rfl, by decide +kernel, fun _ _ _ _ _ => ⟨rfl, by show 0 < 12; decide⟩⟩
theorem fl_RX6_107 : FL RX6 107 9 1 := ⟨RX10, TX10, 12, rfl, by decide, by decide, gw2 66 (by decide +kernel) rfl, uw_9⟩
theorem fl_RX6_110 : FL RX6 110 9 2 := ⟨RX10, TX10, 12, rfl, by decide, by decide, gw2 70 (by decide +kernel) rfl, uw_9⟩
theorem fl_RX6_113 : FL RX6 113 9 3 := ⟨RX10, TX10, 12, rfl, by decide, by decide, gw2 73 (by decide +kernel) rfl, uw_9⟩
theorem fl_RX6_116 : FL RX6 116 9 4 := ⟨RX10, TX10, 12, rfl, by decide, by decide, gw2 76 (by decide +kernel) rfl, uw_9⟩
theorem fp_RX6_116 : FP RX6 116 9 4 .int := ⟨RX10, TX10, 12, tyX10, ⟨rfl, by decide, by decide, gw2 76 (by decide +kernel) rfl, uw_9⟩, tyX10_ok, nmX10, rfl, by decide +kernel, fun _ _ _ _ _ => ⟨rfl, by show 4 < 12; decide⟩⟩
theorem fl_RX6_119 : FL RX6 119 9 5 := ⟨RX10, TX10, 12, rfl, by decide, by decide, gw2 80 (by decide +kernel) rfl, uw_9⟩
theorem fl_RX6_123 : FL RX6 123 9 6 := ⟨RX10, TX10, 12, rfl, by decide, by decide, gw2 84 (by decide +kernel) rfl, uw_9⟩
theorem fl_RX6_126 : FL RX6 126 9 9 := ⟨RX10, TX10, 12, rfl, by decide, by decide, gw2 93 (by decide +kernel) rfl, uw_9⟩
theorem fl_RX6_129 : FL RX6 129 9 8 := ⟨RX10, TX10, 12, rfl, by decide, by decide, gw2 90 (by decide +kernel) rfl, uw_9⟩
theorem fp_RX6_129 : FP RX6 129 9 8 .int := ⟨RX10, TX10, 12, tyX10, ⟨rfl, by decide, by decide, gw2 90 (by decide +kernel) rfl, uw_9⟩, tyX10_ok, nmX10, rfl, by decide +kernel, fun _ _ _ _ _ => ⟨rfl, by show 8 < 12; decide⟩⟩
theorem fl_RX6_141 : FL RX6 141 9 7 := ⟨RX10, TX10, 12, rfl, by decide, by decide, gw2 88 (by decide +kernel) rfl, uw_9⟩
theorem fl_RX7_11 : FL RX7 11 6 0 := ⟨RX7, TX7, 6, rfl, by decide, by decide, gw1 236 (by decide +kernel) rfl, uw_6⟩
theorem fl_RX7_15 : FL RX7 15 6 2 := ⟨RX7, TX7, 6, rfl, by decide, by decide, gw1 238 (by decide +kernel) rfl, uw_6⟩
theorem fl_RX7_18 : FL RX7 18 6 3 := ⟨RX7, TX7, 6, rfl, by decide, by decide, gw1 239 (by decide +kernel) rfl, uw_6⟩
theorem fl_RX7_21 : FL RX7 21 6 4 := ⟨RX7, TX7, 6, rfl, by decide, by decide, gw2 0 (by decide +kernel) rfl, uw_6⟩
theorem fl_RX7_30 : FL RX7 30 6 1 := ⟨RX7, TX7, 6, rfl, by decide, by decide, gw1 237 (by decide +kernel) rfl, uw_6⟩
theorem fp_RX7_30 : FP RX7 30 6 1 .int := ⟨RX7, TX7, 6, tyX7, ⟨rfl, by decide, by decide, gw1 237 (by decide +kernel) rfl, uw_6⟩, tyX7_ok, nmX7, rfl, by decide +kernel, fun _ _ _ _ _ => ⟨rfl, by show 1 < 6; decide⟩⟩
theorem fl_RX7_38 : FL RX7 38 6 5 := ⟨RX7, TX7, 6, rfl, by decide, by decide, gw2 2 (by decide +kernel) rfl, uw_6⟩
theorem fp_RX7_38 : FP RX7 38 6 5 .int := ⟨RX7, TX7, 6, tyX7, ⟨rfl, by decide, by decide, gw2 2 (by decide +kernel) rfl, uw_6⟩, tyX7_ok, nmX7, rfl, by decide +kernel, fun _ _ _ _ _ => ⟨rfl, by show 5 < 6; decide⟩⟩
theorem fl_RX8_9 : FL RX8 9 7 0 := ⟨RX8, TX8, 5, rfl, by decide, by decide, gw2 23 (by decide +kernel) rfl, uw_7⟩
theorem fl_RX8_13 : FL RX8 13 7 1 := ⟨RX8, TX8, 5, rfl, by decide, by decide, gw2 24 (by decide +kernel) rfl, uw_7⟩
theorem fl_RX8_25 : FL RX8 25 7 3 := ⟨RX8, TX8, 5, rfl, by decide, by decide, gw2 28 (by decide +kernel) rfl, uw_7⟩
theorem fp_RX8_25 : FP RX8 25 7 3 .int := ⟨RX8, TX8, 5, tyX8, ⟨rfl, by decide, by decide, gw2 28 (by decide +kernel) rfl, uw_7⟩, tyX8_ok, nmX8, rfl, by decide +kernel, fun _ _ _ _ _ => ⟨rfl, by show 3 < 5; decide⟩⟩
theorem fl_RX8_29 : FL RX8 29 7 4 := ⟨RX8, TX8, 5, rfl, by decide, by decide, gw2 29 (by decide +kernel) rfl, uw_7⟩
theorem fp_RX8_29 : FP RX8 29 7 4 .int := ⟨RX8, TX8, 5, tyX8, ⟨rfl, by decide, by decide, gw2 29 (by decide +kernel) rfl, uw_7⟩, tyX8_ok, nmX8, rfl, by decide +kernel, fun _ _ _ _ _ => ⟨rfl, by show 4 < 5; decide⟩⟩
theorem fl_RX8_32 : FL RX8 32 7 2 := ⟨RX8, TX8, 5, rfl, by decide, by decide, gw2 26 (by decide +kernel) rfl, uw_7⟩
theorem fp_RX8_32 : FP RX8 32 7 2 .int := ⟨RX8, TX8, 5, tyX8, ⟨rfl, by decide, by decide, gw2 26 (by decide +kernel) rfl, uw_7⟩, tyX8_ok, nmX8, rfl, by decide +kernel, fun _ _ _ _ _ => ⟨rfl, by show 2 < 5; decide⟩⟩
theorem fl_RX9_9 : FL RX9 9 8 0 := ⟨RX9, TX9, 6, rfl, by decide, by decide, gw1 43 (by decide +kernel) rfl, uw_8⟩
theorem fl_RX9_15 : FL RX9 15 8 2 := ⟨RX9, TX9, 6, rfl, by decide, by decide, gw1 46 (by decide +kernel) rfl, uw_8⟩
theorem fl_RX9_18 : FL RX9 18 8 3 := ⟨RX9, TX9, 6, rfl, by decide, by decide, gw1 48 (by decide +kernel) rfl, uw_8⟩
theorem fl_RX9_21 : FL RX9 21 8 4 := ⟨RX9, TX9, 6, rfl, by decide, by decide, gw1 50 (by decide +kernel) rfl, uw_8⟩
theorem fl_RX9_25 : FL RX9 25 8 1 := ⟨RX9, TX9, 6, rfl, by decide, by decide, gw1 45 (by decide +kernel) rfl, uw_8⟩
theorem fp_RX9_25 : FP RX9 25 8 1 .int := ⟨RX9, TX9, 6, tyX9, ⟨rfl, by decide, by decide, gw1 45 (by decide +kernel) rfl, uw_8⟩, tyX9_ok, nmX9, rfl, by decide +kernel, fun _ _ _ _ _ => ⟨rfl, by show 1 < 6; decide⟩⟩
theorem fl_RX9_29 : FL RX9 29 8 5 := ⟨RX9, TX9, 6, rfl, by decide, by decide, gw1 52 (by decide +kernel) rfl, uw_8⟩
theorem fp_RX9_29 : FP RX9 29 8 5 .int := ⟨RX9, TX9, 6, tyX9, ⟨rfl, by decide, by decide, gw1 52 (by decide +kernel) rfl, uw_8⟩, tyX9_ok, nmX9, rfl, by decide +kernel, fun _ _ _ _ _ => ⟨rfl, by show 5 < 6; decide⟩⟩
theorem fl_RX10_9 : FL RX10 9 9 1 := ⟨RX10, TX10, 12, rfl, by decide, by decide, gw2 63 (by decide +kernel) rfl, uw_9⟩
theorem fl_RX10_15 : FL RX10 15 9 2 := ⟨RX10, TX10, 12, rfl, by decide, by decide, gw2 67 (by decide +kernel) rfl, uw_9⟩
theorem fl_RX10_18 : FL RX10 18 9 3 := ⟨RX10, TX10, 12, rfl, by decide, by decide, gw2 71 (by decide +kernel) rfl, uw_9⟩
theorem fl_RX10_23 : FL RX10 23 9 5 := ⟨RX10, TX10, 12, rfl, by decide, by decide, gw2 78 (by decide +kernel) rfl, uw_9⟩
theorem fl_RX10_26 : FL RX10 26 9 6 := ⟨RX10, TX10, 12, rfl, by decide, by decide, gw2 82 (by decide +kernel) rfl, uw_9⟩
theorem fl_RX10_29 : FL RX10 29 9 7 := ⟨RX10, TX10, 12, rfl, by decide, by decide, gw2 86 (by decide +kernel) rfl, uw_9⟩
theorem fl_RX10_32 : FL RX10 32 9 9 := ⟨RX10, TX10, 12, rfl, by decide, by decide, gw2 91 (by decide +kernel) rfl, uw_9⟩
theorem fl_RX10_38 : FL RX10 38 9 0 := ⟨RX10, TX10, 12, rfl, by decide, by decide, gw2 59 (by decide +kernel) rfl, uw_9⟩
theorem fp_RX10_38 : FP RX10 38 9 0 .int := ⟨RX10, TX10, 12, tyX10, ⟨rfl, by decide, by decide, gw2 59 (by decide +kernel) rfl, uw_9⟩, tyX10_ok, nmX10, rfl, by decide +kernel, fun _ _ _ _ _ => ⟨rfl, by show 0 < 12; decide⟩⟩
theorem fl_RX10_42 : FL RX10 42 9 4 := ⟨RX10, TX10, 12, rfl, by decide, by decide, gw2 74 (by decide +kernel) rfl, uw_9⟩
theorem fp_RX10_42 : FP RX10 42 9 4 .int := ⟨RX10, TX10, 12, tyX10, ⟨rfl, by decide, by decide, gw2 74 (by decide +kernel) rfl, uw_9⟩, tyX10_ok, nmX10, rfl, by decide +kernel, fun _ _ _ _ _ => ⟨rfl, by show 4 < 12; decide⟩⟩
theorem fl_RX10_45 : FL RX10 45 9 10 := ⟨RX10, TX10, 12, rfl, by decide, by decide, gw2 94 (by decide +kernel) rfl, uw_9⟩
theorem fp_RX10_45 : FP RX10 45 9 10 .int := ⟨RX10, TX10, 12, tyX10, ⟨rfl, by decide, by decide, gw2 94 (by decide +kernel) rfl, uw_9⟩, tyX10_ok, nmX10, rfl, by decide +kernel, fun _ _ _ _ _ => ⟨rfl, by show 10 < 12; decide⟩⟩
theorem fl_RX10_48 : FL RX10 48 9 11 := ⟨RX10, TX10, 12, rfl, by decide, by decide, gw2 97 (by decide +kernel) rfl, uw_9⟩
theorem fp_RX10_48 : FP RX10 48 9 11 .int := ⟨RX10, TX10, 12, tyX10, ⟨rfl, by decide, by decide, gw2 97 (by decide +kernel) rfl, uw_9⟩, tyX10_ok, nmX10, rfl, by decide +kernel, fun _ _ _ _ _ => ⟨rfl, by show 11 < 12; decide⟩⟩
theorem fl_RX10_51 : FL RX10 51 9 8 := ⟨RX10, TX10, 12, rfl, by decide, by decide, gw2 89 (by decide +kernel) rfl, uw_9⟩
theorem fp_RX10_51 : FP RX10 51 9 8 .int := ⟨RX10, TX10, 12, tyX10, ⟨rfl, by decide, by decide, gw2 89 (by decide +kernel) rfl, uw_9⟩, tyX10_ok, nmX10, rfl, by decide +kernel, fun _ _ _ _ _ => ⟨rfl, by show 8 < 12; decide⟩⟩
theorem fl_RX12_13 : FL RX12 13 11 1 := ⟨RX12, TX12, 66, rfl, by decide, by decide, gw5 100 (by decide +kernel) rfl, uw_11⟩
theorem fl_RX12_17 : FL RX12 17 11 3 := ⟨RX12, TX12, 66, rfl, by decide, by decide, gw5 102 (by decide +kernel) rfl, uw_11⟩
theorem fl_RX12_20 : FL RX12 20 11 5 := ⟨RX12, TX12, 66, rfl, by decide, by decide, gw5 104 (by decide +kernel) rfl, uw_11⟩
theorem fl_RX12_24 : FL RX12 24 11 6 := ⟨RX12, TX12, 66, rfl, by decide, by decide, gw5 105 (by decide +kernel) rfl, uw_11⟩
theorem fl_RX12_27 : FL RX12 27 11 7 := ⟨RX12, TX12, 66, rfl, by decide, by decide, gw5 106 (by decide +kernel) rfl, uw_11⟩
theorem fl_RX12_30 : FL RX12 30 11 8 := ⟨RX12, TX12, 66, rfl, by decide, by decide, gw5 107 (by decide +kernel) rfl, uw_11⟩
theorem fl_RX12_34 : FL RX12 34 11 9 := ⟨RX12, TX12, 66, rfl, by decide, by decide, gw5 108 (by decide +kernel) rfl, uw_11⟩
theorem fl_RX12_37 : FL RX12 37 11 17 := ⟨RX12, TX12, 66, rfl, by decide, by decide, gw5 116 (by decide +kernel) rfl, uw_11⟩
theorem fp_RX12_37 : FP RX12 37 11 17 .int := ⟨RX12, TX12, 66, tyX12, ⟨rfl, by decide, by decide, gw5 116 (by decide +kernel) rfl, uw_11⟩, tyX12_ok, nmX12, rfl, by decide +kernel, fun _ _ _ _ _ => ⟨rfl, by show 17 < 66; decide⟩⟩
theorem fl_RX12_40 : FL RX12 40 11 21 := ⟨RX12, TX12, 66, rfl, by decide, by decide, gw5 120 (by decide +kernel) rfl, uw_11⟩
theorem fl_RX12_43 : FL RX12 43 11 22 := ⟨RX12, TX12, 66, rfl, by decide, by decide, gw5 121 (by decide +kernel) rfl, uw_11⟩
theorem fl_RX12_46 : FL RX12 46 11 23 := ⟨RX12, TX12, 66, rfl, by decide, by decide, gw5 122 (by decide +kernel) rfl, uw_11⟩
theorem fl_RX12_49 : FL RX12 49 11 24 := ⟨RX12, TX12, 66, rfl, by decide, by decide, gw5 123 (by decide +kernel) rfl, uw_11⟩
theorem fl_RX12_52 : FL RX12 52 11 25 := ⟨RX12, TX12, 66, rfl, by decide, by decide, gw5 124 (by decide +kernel) rfl, uw_11⟩
theorem fl_RX12_55 : FL RX12 55 11 26 := ⟨RX12, TX12, 66, rfl, by decide, by decide, gw5 125 (by decide +kernel) rfl, uw_11⟩
theorem fl_RX12_58 : FL RX12 58 11 27 := ⟨RX12, TX12, 66, rfl, by decide, by decide, gw5 126 (by decide +kernel) rfl, uw_11⟩
theorem fl_RX12_61 : FL RX12 61 11 28 := ⟨RX12, TX12, 66, rfl, by decide, by decide, gw5 127 (by decide +kernel) rfl, uw_11⟩
theorem fl_RX12_64 : FL RX12 64 11 29 := ⟨RX12, TX12, 66, rfl, by decide, by decide, gw5 128 (by decide +kernel) rfl, uw_11⟩
theorem fl_RX12_67 : FL RX12 67 11 30 := ⟨RX12, TX12, 66, rfl, by decide, by decide, gw5 129 (by decide +kernel) rfl, uw_11⟩
theorem fl_RX12_70 : FL RX12 70 11 31 := ⟨RX12, TX12, 66, rfl, by decide, by decide, gw5 130 (by decide +kernel) rfl, uw_11⟩
theorem fl_RX12_73 : FL RX12 73 11 32 := ⟨RX12, TX12, 66, rfl, by decide, by decide, gw5 131 (by decide +kernel) rfl, uw_11⟩
theorem fl_RX12_76 : FL RX12 76 11 34 := ⟨RX12, TX12, 66, rfl, by decide, by decide, gw5 133 (by decide +kernel) rfl, uw_11⟩
theorem fl_RX12_80 : FL RX12 80 11 35 := ⟨RX12, TX12, 66, rfl, by decide, by decide, gw5 134 (by decide +kernel) rfl, uw_11⟩
theorem fl_RX12_83 : FL RX12 83 11 36 := ⟨RX12, TX12, 66, rfl, by decide, by decide, gw5 135 (by decide +kernel) rfl, uw_11⟩
theorem fl_RX12_86 : FL RX12 86 11 37 := ⟨RX12, TX12, 66, rfl, by decide, by decide, gw5 136 (by decide +kernel) rfl, uw_11⟩
theorem fl_RX12_89 : FL RX12 89 11 38 := ⟨RX12, TX12, 66, rfl, by decide, by decide, gw5 137 (by decide +kernel) rfl, uw_11⟩
theorem fl_RX12_92 : FL RX12 92 11 40 := ⟨RX12, TX12, 66, rfl, by decide, by decide, gw5 139 (by decide +kernel) rfl, uw_11⟩
theorem fl_RX12_95 : FL RX12 95 11 41 := ⟨RX12, TX12, 66, rfl, by decide, by decide, gw5 140 (by decide +kernel) rfl, uw_11⟩
theorem fl_RX12_98 : FL RX12 98 11 42 := ⟨RX12, TX12, 66, rfl, by decide, by decide, gw5 141 (by decide +kernel) rfl, uw_11⟩
theorem fl_RX12_101 : FL RX12 101 11 44 := ⟨RX12, TX12, 66, rfl, by decide, by decide, gw5 143 (by decide +kernel) rfl, uw_11⟩
theorem fl_RX12_104 : FL RX12 104 11 45 := ⟨RX12, TX12, 66, rfl, by decide, by decide, gw5 144 (by decide +kernel) rfl, uw_11⟩
theorem fl_RX12_107 : FL RX12 107 11 47 := ⟨RX12, TX12, 66, rfl, by decide, by decide, gw5 146 (by decide +kernel) rfl, uw_11⟩
theorem fl_RX12_110 : FL RX12 110 11 48 := ⟨RX12, TX12, 66, rfl, by decide, by decide, gw5 147 (by decide +kernel) rfl, uw_11⟩
theorem fl_RX12_113 : FL RX12 113 11 55 := ⟨RX12, TX12, 66, rfl, by decide, by decide, gw5 154 (by decide +kernel) rfl, uw_11⟩
theorem fl_RX12_116 : FL RX12 116 11 56 := ⟨RX12, TX12, 66, rfl, by decide, by decide, gw5 155 (by decide +kernel) rfl, uw_11⟩
theorem fl_RX12_119 : FL RX12 119 11 58 := ⟨RX12, TX12, 66, rfl, by decide, by decide, gw5 157 (by decide +kernel) rfl, uw_11⟩
theorem fl_RX12_122 : FL RX12 122 11 59 := ⟨RX12, TX12, 66, rfl, by decide, by decide, gw5 158 (by decide +kernel) rfl, uw_11⟩
theorem fl_RX12_125 : FL RX12 125 11 61 := ⟨RX12, TX12, 66, rfl, by decide, by decide, gw5 160 (by decide +kernel) rfl, uw_11⟩
theorem fl_RX12_128 : FL RX12 128 11 62 := ⟨RX12, TX12, 66, rfl, by decide, by decide, gw5 161 (by decide +kernel) rfl, uw_11⟩
theorem fl_RX12_131 : FL RX12 131 11 63 := ⟨RX12, TX12, 66, rfl, by decide, by decide, gw5 162 (by decide +kernel) rfl, uw_11⟩
theorem fl_RX12_134 : FL RX12 134 11 64 := ⟨RX12, TX12, 66, rfl, by decide, by decide, gw5 163 (by decide +kernel) rfl, uw_11⟩
theorem fl_RX12_137 : FL RX12 137 11 65 := ⟨RX12, TX12, 66, rfl, by decide, by decide, gw5 164 (by decide +kernel) rfl, uw_11⟩
theorem fl_RX12_154 : FL RX12 154 11 2 := ⟨RX12, TX12, 66, rfl, by decide, by decide, gw5 101 (by decide +kernel) rfl, uw_11⟩
theorem fp_RX12_154 : FP RX12 154 11 2 .int := ⟨RX12, TX12, 66, tyX12, ⟨rfl, by decide, by decide, gw5 101 (by decide +kernel) rfl, uw_11⟩, tyX12_ok, nmX12, rfl, by decide +kernel, fun _ _ _ _ _ => ⟨rfl, by show 2 < 66; decide⟩⟩
theorem fl_RX12_160 : FL RX12 160 11 4 := ⟨RX12, TX12, 66, rfl, by decide, by decide, gw5 103 (by decide +kernel) rfl, uw_11⟩
theorem fp_RX12_160 : FP RX12 160 11 4 .int := ⟨RX12, TX12, 66, tyX12, ⟨rfl, by decide, by decide, gw5 103 (by decide +kernel) rfl, uw_11⟩, tyX12_ok, nmX12, rfl, by decide +kernel, fun _ _ _ _ _ => ⟨rfl, by show 4 < 66; decide⟩⟩
theorem fl_RX12_169 : FL RX12 169 11 10 := ⟨RX12, TX12, 66, rfl, by decide, by decide, gw5 109 (by decide +kernel) rfl, uw_11⟩
theorem fp_RX12_169 : FP RX12 169 11 10 .int := ⟨RX12, TX12, 66, tyX12, ⟨rfl, by decide, by decide, gw5 109 (by decide +kernel) rfl, uw_11⟩, tyX12_ok, nmX12, rfl, by decide +kernel, fun _ _ _ _ _ => ⟨rfl, by show 10 < 66; decide⟩⟩
theorem fl_RX12_191 : FL RX12 191 11 13 := ⟨RX12, TX12, 66, rfl, by decide, by decide, gw5 112 (by decide +kernel) rfl, uw_11⟩
theorem fp_RX12_191 : FP RX12 191 11 13 .int := ⟨RX12, TX12, 66, tyX12, ⟨rfl, by decide, by decide, gw5 112 (by decide +kernel) rfl, uw_11⟩, tyX12_ok, nmX12, rfl, by decide +kernel, fun _ _ _ _ _ => ⟨rfl, by show 13 < 66; decide⟩⟩
theorem fl_RX12_194 : FL RX12 194 11 11 := ⟨RX12, TX12, 66, rfl, by decide, by decide, gw5 110 (by decide +kernel) rfl, uw_11⟩
theorem fp_RX12_194 : FP RX12 194 11 11 .int := ⟨RX12, TX12, 66, tyX12, ⟨rfl, by decide, by decide, gw5 110 (by decide +kernel) rfl, uw_11⟩, tyX12_ok, nmX12, rfl, by decide +kernel, fun _ _ _ _ _ => ⟨rfl, by show 11 < 66; decide⟩⟩
theorem fl_RX12_197 : FL RX12 197 11 14 := ⟨RX12, TX12, 66, rfl, by decide, by decide, gw5 113 (by decide +kernel) rfl, uw_11⟩
theorem fp_RX12_197 : FP RX12 197 11 14 .int := ⟨RX12, TX12, 66, tyX12, ⟨rfl, by decide, by decide, gw5 113 (by decide +kernel) rfl, uw_11⟩, tyX12_ok, nmX12, rfl, by decide +kernel, fun _ _ _ _ _ => ⟨rfl, by show 14 < 66; decide⟩⟩
theorem fl_RX12_200 : FL RX12 200 11 15 := ⟨RX12, TX12, 66, rfl, by decide, by decide, gw5 114 (by decide +kernel) rfl, uw_11⟩
theorem fp_RX12_200 : FP RX12 200 11 15 .int := ⟨RX12, TX12, 66, tyX12, ⟨rfl, by decide, by decide, gw5 114 (by decide +kernel) rfl, uw_11⟩, tyX12_ok, nmX12, rfl, by decide +kernel, fun _ _ _ _ _ => ⟨rfl, by show 15 < 66; decide⟩⟩
theorem fl_RX12_203 : FL RX12 203 11 16 := ⟨RX12, TX12, 66, rfl, by decide, by decide, gw5 115 (by decide +kernel) rfl, uw_11⟩
theorem fp_RX12_203 : FP RX12 203 11 16 .int := ⟨RX12, TX12, 66, tyX12, ⟨rfl, by decide, by decide, gw5 115 (by decide +kernel) rfl, uw_11⟩, tyX12_ok, nmX12, rfl, by decide +kernel, fun _ _ _ _ _ => ⟨rfl, by show 16 < 66; decide⟩⟩
theorem fl_RX12_218 : FL RX12 218 11 12 := ⟨RX12, TX12, 66, rfl, by decide, by decide, gw5 111 (by decide +kernel) rfl, uw_11⟩
theorem fp_RX12_218 : FP RX12 218 11 12 .int := ⟨RX12, TX12, 66, tyX12, ⟨rfl, by decide, by decide, gw5 111 (by decide +kernel) rfl, uw_11⟩, tyX12_ok, nmX12, rfl, by decide +kernel, fun _ _ _ _ _ => ⟨rfl, by show 12 < 66; decide⟩⟩
theorem fl_RX12_221 : FL RX12 221 11 18 := ⟨RX12, TX12, 66, rfl, by decide, by decide, gw5 117 (by decide +kernel) rfl, uw_11⟩
theorem fp_RX12_221 : FP RX12 221 11 18 .int := ⟨RX12, TX12, 66, tyX12, ⟨rfl, by decide, by decide, gw5 117 (by decide +kernel) rfl, uw_11⟩, tyX12_ok, nmX12, rfl, by decide +kernel, fun _ _ _ _ _ => ⟨rfl, by show 18 < 66; decide⟩⟩
theorem fl_RX12_224 : FL RX12 224 11 19 := ⟨RX12, TX12, 66, rfl, by decide, by decide, gw5 118 (by decide +kernel) rfl, uw_11⟩
theorem fp_RX12_224 : FP RX12 224 11 19 .int := ⟨RX12, TX12, 66, tyX12, ⟨rfl, by decide, by decide, gw5 118 (by decide +kernel) rfl, uw_11⟩, tyX12_ok, nmX12, rfl, by decide +kernel, fun _ _ _ _ _ => ⟨rfl, by show 19 < 66; decide⟩⟩
theorem fl_RX12_227 : FL RX12 227 11 20 := ⟨RX12, TX12, 66, rfl, by decide, by decide, gw5 119 (by decide +kernel) rfl, uw_11⟩
theorem fp_RX12_227 : FP RX12 227 11 20 .int := ⟨RX12, TX12, 66, tyX12, ⟨rfl, by decide, by decide, gw5 119 (by decide +kernel) rfl, uw_11⟩, tyX12_ok, nmX12, rfl, by decide +kernel, fun _ _ _ _ _ => ⟨rfl, by show 20 < 66; decide⟩⟩
theorem fl_RX12_230 : FL RX12 230 11 33 := ⟨RX12, TX12, 66, rfl, by decide, by decide, gw5 132 (by decide +kernel) rfl, uw_11⟩
theorem fp_RX12_230 : FP RX12 230 11 33 .int := ⟨RX12, TX12, 66, tyX12, ⟨rfl, by decide, by decide, gw5 132 (by decide +kernel) rfl, uw_11⟩, tyX12_ok, nmX12, rfl, by decide +kernel, fun _ _ _ _ _ => ⟨rfl, by show 33 < 66; decide⟩⟩
theorem fl_RX12_233 : FL RX12 233 11 39 := ⟨RX12, TX12, 66, rfl, by decide, by decide, gw5 138 (by decide +kernel) rfl, uw_11⟩
theorem fp_RX12_233 : FP RX12 233 11 39 .int := ⟨RX12, TX12, 66, tyX12, ⟨rfl, by decide, by decide, gw5 138 (by decide +kernel) rfl, uw_11⟩, tyX12_ok, nmX12, rfl, by decide +kernel, fun _ _ _ _ _ => ⟨rfl, by show 39 < 66; decide⟩⟩
theorem fl_RX12_239 : FL RX12 239 11 54 := ⟨RX12, TX12, 66, rfl, by decide, by decide, gw5 153 (by decide +kernel) rfl, uw_11⟩
theorem fp_RX12_239 : FP RX12 239 11 54 .int := ⟨RX12, TX12, 66, tyX12, ⟨rfl, by decide, by decide, gw5 153 (by decide +kernel) rfl, uw_11⟩, tyX12_ok, nmX12, rfl, by decide +kernel, fun _ _ _ _ _ => ⟨rfl, by show 54 < 66; decide⟩⟩
theorem fl_RX12_242 : FL RX12 242 11 60 := ⟨RX12, TX12, 66, rfl, by decide, by decide, gw5 159 (by decide +kernel) rfl, uw_11⟩
theorem fp_RX12_242 : FP RX12 242 11 60 .int := ⟨RX12, TX12, 66, tyX12, ⟨rfl, by decide, by decide, gw5 159 (by decide +kernel) rfl, uw_11⟩, tyX12_ok, nmX12, rfl, by decide +kernel, fun _ _ _ _ _ => ⟨rfl, by show 60 < 66; decide⟩⟩
theorem fl_RX12_284 : FL RX12 284 11 43 := ⟨RX12, TX12, 66, rfl, by decide, by decide, gw5 142 (by decide +kernel) rfl, uw_11⟩
theorem fp_RX12_284 : FP RX12 284 11 43 .int := ⟨RX12, TX12, 66, tyX12, ⟨rfl, by decide, by decide, gw5 142 (by decide +kernel) rfl, uw_11⟩, tyX12_ok, nmX12, rfl, by decide +kernel, fun _ _ _ _ _ => ⟨rfl, by show 43 < 66; decide⟩⟩
theorem fl_RX12_297 : FL RX12 297 11 46 := ⟨RX12, TX12, 66, rfl, by decide, by decide, gw5 145 (by decide +kernel) rfl, uw_11⟩
theorem fp_RX12_297 : FP RX12 297 11 46 .boolean := ⟨RX12, TX12, 66, tyX12, ⟨rfl, by decide, by decide, gw5 145 (by decide +kernel) rfl, uw_11⟩, tyX12_ok, nmX12, rfl, by decide +kernel, fun _ _ _ _ _ => ⟨rfl, by show 46 < 66; decide⟩⟩
theorem fl_RX12_305 : FL RX12 305 11 49 := ⟨RX12, TX12, 66, rfl, by decide, by decide, gw5 148 (by decide +kernel) rfl, uw_11⟩
theorem fp_RX12_305 : FP RX12 305 11 49 .int := ⟨RX12, TX12, 66, tyX12, ⟨rfl, by decide, by decide, gw5 148 (by decide +kernel) rfl, uw_11⟩, tyX12_ok, nmX12, rfl, by decide +kernel, fun _ _ _ _ _ => ⟨rfl, by show 49 < 66; decide⟩⟩
theorem fl_RX12_308 : FL RX12 308 11 50 := ⟨RX12, TX12, 66, rfl, by decide, by decide, gw5 149 (by decide +kernel) rfl, uw_11⟩
theorem fp_RX12_308 : FP RX12 308 11 50 .boolean := ⟨RX12, TX12, 66, tyX12, ⟨rfl, by decide, by decide, gw5 149 (by decide +kernel) rfl, uw_11⟩, tyX12_ok, nmX12, rfl, by decide +kernel, fun _ _ _ _ _ => ⟨rfl, by show 50 < 66; decide⟩⟩
theorem fl_RX12_341 : FL RX12 341 11 51 := ⟨RX12, TX12, 66, rfl, by decide, by decide, gw5 150 (by decide +kernel) rfl, uw_11⟩
theorem fp_RX12_341 : FP RX12 341 11 51 .int := ⟨RX12, TX12, 66, tyX12, ⟨rfl, by decide, by decide, gw5 150 (by decide +kernel) rfl, uw_11⟩, tyX12_ok, nmX12, rfl, by decide +kernel, fun _ _ _ _ _ => ⟨rfl, by show 51 < 66; decide⟩⟩
theorem fl_RX12_344 : FL RX12 344 11 52 := ⟨RX12, TX12, 66, rfl, by decide, by decide, gw5 151 (by decide +kernel) rfl, uw_11⟩
theorem fp_RX12_344 : FP RX12 344 11 52 .boolean := ⟨RX12, TX12, 66, tyX12, ⟨rfl, by decide, by decide, gw5 151 (by decide +kernel) rfl, uw_11⟩, tyX12_ok, nmX12, rfl, by decide +kernel, fun _ _ _ _ _ => ⟨rfl, by show 52 < 66; decide⟩⟩
theorem fl_RX12_365 : FL RX12 365 11 53 := ⟨RX12, TX12, 66, rfl, by decide, by decide, gw5 152 (by decide +kernel) rfl, uw_11⟩
theorem fp_RX12_365 : FP RX12 365 11 53 .int := ⟨RX12, TX12, 66, tyX12, ⟨rfl, by decide, by decide, gw5 152 (by decide +kernel) rfl, uw_11⟩, tyX12_ok, nmX12, rfl, by decide +kernel, fun _ _ _ _ _ => ⟨rfl, by show 53 < 66; decide⟩⟩
theorem fl_RX12_408 : FL RX12 408 11 57 := ⟨RX12, TX12, 66, rfl, by decide, by decide, gw5 156 (by decide +kernel) rfl, uw_11⟩
theorem fp_RX12_408 : FP RX12 408 11 57 .int := ⟨RX12, TX12, 66, tyX12, ⟨rfl, by decide, by decide, gw5 156 (by decide +kernel) rfl, uw_11⟩, tyX12_ok, nmX12, rfl, by decide +kernel, fun _ _ _ _ _ => ⟨rfl, by show 57 < 66; decide⟩⟩
theorem mi_X11_back : MI yX11_back cX11_back 2 (some .int) 1 := ⟨gw2 180 (by decide +kernel) rfl, gw2 181 (by decide +kernel) rfl, gw1 1 (by decide +kernel) rfl, gw2 182 (by decide +kernel) rfl, ⟨by decide, by decide, by decide +kernel⟩⟩
theorem mi_X11_beats : MI yX11_beats cX11_beats 2 (some .int) 1 := ⟨gw4 46 (by decide +kernel) rfl, gw4 47 (by decide +kernel) rfl, gw1 1 (by decide +kernel) rfl, gw4 48 (by decide +kernel) rfl, ⟨by decide, by decide, by decide +kernel⟩⟩
theorem mi_X11_beginAnew : MI yX11_beginAnew cX11_beginAnew 3 none 0 := ⟨gw3 147 (by decide +kernel) rfl, gwm 17 (by decide +kernel) rfl, gw1 1 (by decide +kernel) rfl, gw3 148 (by decide +kernel) rfl, ⟨by decide, by decide, by decide +kernel⟩⟩
theorem mi_X11_busiest : MI yX11_busiest cX11_busiest 5 (some .int) 2 := ⟨gw5 0 (by decide +kernel) rfl, gw5 1 (by decide +kernel) rfl, gw1 1 (by decide +kernel) rfl, gw5 2 (by decide +kernel) rfl, ⟨by decide, by decide, by decide +kernel⟩⟩
theorem mi_X11_clash : MI yX11_clash cX11_clash 1 (some .int) 0 := ⟨gw4 193 (by decide +kernel) rfl, gw4 194 (by decide +kernel) rfl, gw1 1 (by decide +kernel) rfl, gw4 195 (by decide +kernel) rfl, ⟨by decide, by decide, by decide +kernel⟩⟩
theorem mi_X11_closes : MI yX11_closes cX11_closes 3 (some .int) 2 := ⟨gw4 104 (by decide +kernel) rfl, gw4 105 (by decide +kernel) rfl, gw1 1 (by decide +kernel) rfl, gw4 106 (by decide +kernel) rfl, ⟨by decide, by decide, by decide +kernel⟩⟩
theorem ms_X11_closingOf : MS yX11_closingOf cX11_closingOf 4 (some .int) 3 := ⟨gw4 108 (by decide +kernel) rfl, gw1 1 (by decide +kernel) rfl, gw4 109 (by decide +kernel) rfl, ⟨by decide, by decide, by decide +kernel⟩⟩
theorem mi_X11_count : MI yX11_count cX11_count 2 (some .int) 1 := ⟨gw3 236 (by decide +kernel) rfl, gw3 237 (by decide +kernel) rfl, gw1 1 (by decide +kernel) rfl, gw3 238 (by decide +kernel) rfl, ⟨by decide, by decide, by decide +kernel⟩⟩
theorem mi_X11_down : MI yX11_down cX11_down 2 (some .int) 0 := ⟨gw5 34 (by decide +kernel) rfl, gw5 35 (by decide +kernel) rfl, gw1 1 (by decide +kernel) rfl, gw5 36 (by decide +kernel) rfl, ⟨by decide, by decide, by decide +kernel⟩⟩
theorem mi_X11_feed : MI yX11_feed cX11_feed 6 (some .int) 5 := ⟨gw2 172 (by decide +kernel) rfl, gw2 173 (by decide +kernel) rfl, gw1 1 (by decide +kernel) rfl, gw2 174 (by decide +kernel) rfl, ⟨by decide, by decide, by decide +kernel⟩⟩
theorem mi_X11_findHands : MI yX11_findHands cX11_findHands 3 none 1 := ⟨gw4 185 (by decide +kernel) rfl, gwm 27 (by decide +kernel) rfl, gw1 1 (by decide +kernel) rfl, gw4 186 (by decide +kernel) rfl, ⟨by decide, by decide, by decide +kernel⟩⟩
theorem mi_X11_firstClash : MI yX11_firstClash cX11_firstClash 3 (some .int) 1 := ⟨gw4 198 (by decide +kernel) rfl, gwm 28 (by decide +kernel) rfl, gw1 1 (by decide +kernel) rfl, gw4 199 (by decide +kernel) rfl, ⟨by decide, by decide, by decide +kernel⟩⟩
theorem mi_X11_forget : MI yX11_forget cX11_forget 2 (some .int) 0 := ⟨gw5 58 (by decide +kernel) rfl, gw5 59 (by decide +kernel) rfl, gw1 1 (by decide +kernel) rfl, gw5 60 (by decide +kernel) rfl, ⟨by decide, by decide, by decide +kernel⟩⟩
theorem mi_X11_gap : MI yX11_gap cX11_gap 2 (some .int) 0 := ⟨gw4 205 (by decide +kernel) rfl, gw4 206 (by decide +kernel) rfl, gw1 1 (by decide +kernel) rfl, gw4 207 (by decide +kernel) rfl, ⟨by decide, by decide, by decide +kernel⟩⟩
theorem mi_X11_glitters : MI yX11_glitters cX11_glitters 4 (some .int) 2 := ⟨gw5 62 (by decide +kernel) rfl, gw5 63 (by decide +kernel) rfl, gw1 1 (by decide +kernel) rfl, gw5 64 (by decide +kernel) rfl, ⟨by decide, by decide, by decide +kernel⟩⟩
theorem mi_X11_handover : MI yX11_handover cX11_handover 4 (some .int) 0 := ⟨gw5 26 (by decide +kernel) rfl, gw5 27 (by decide +kernel) rfl, gw1 1 (by decide +kernel) rfl, gw5 28 (by decide +kernel) rfl, ⟨by decide, by decide, by decide +kernel⟩⟩
theorem mi_X11_hold : MI yX11_hold cX11_hold 2 (some .boolean) 1 := ⟨gw4 95 (by decide +kernel) rfl, gw4 96 (by decide +kernel) rfl, gw1 1 (by decide +kernel) rfl, gw4 97 (by decide +kernel) rfl, ⟨by decide, by decide, by decide +kernel⟩⟩
theorem mi_X11_inHand : MI yX11_inHand cX11_inHand 2 (some .int) 1 := ⟨gw4 180 (by decide +kernel) rfl, gw4 181 (by decide +kernel) rfl, gw1 1 (by decide +kernel) rfl, gw4 182 (by decide +kernel) rfl, ⟨by decide, by decide, by decide +kernel⟩⟩
theorem mi_X11_into : MI yX11_into cX11_into 6 (some .int) 2 := ⟨gw4 213 (by decide +kernel) rfl, gw4 214 (by decide +kernel) rfl, gw1 1 (by decide +kernel) rfl, gw4 215 (by decide +kernel) rfl, ⟨by decide, by decide, by decide +kernel⟩⟩
theorem ms_X11_isHeight : MS yX11_isHeight cX11_isHeight 1 (some .boolean) 1 := ⟨gw3 193 (by decide +kernel) rfl, gw1 1 (by decide +kernel) rfl, gw3 194 (by decide +kernel) rfl, ⟨by decide, by decide, by decide +kernel⟩⟩
theorem ms_X11_isSpan : MS yX11_isSpan cX11_isSpan 1 (some .boolean) 1 := ⟨gw5 4 (by decide +kernel) rfl, gw1 1 (by decide +kernel) rfl, gw5 5 (by decide +kernel) rfl, ⟨by decide, by decide, by decide +kernel⟩⟩
theorem mi_X11_joined : MI yX11_joined cX11_joined 5 (some .int) 3 := ⟨gw4 117 (by decide +kernel) rfl, gw4 118 (by decide +kernel) rfl, gw1 1 (by decide +kernel) rfl, gw4 119 (by decide +kernel) rfl, ⟨by decide, by decide, by decide +kernel⟩⟩
theorem mi_X11_lands : MI yX11_lands cX11_lands 1 (some .int) 0 := ⟨gw4 171 (by decide +kernel) rfl, gw4 172 (by decide +kernel) rfl, gw1 1 (by decide +kernel) rfl, gw4 173 (by decide +kernel) rfl, ⟨by decide, by decide, by decide +kernel⟩⟩
theorem mi_X11_light : MI yX11_light cX11_light 6 (some .int) 2 := ⟨gw5 38 (by decide +kernel) rfl, gw5 39 (by decide +kernel) rfl, gw1 1 (by decide +kernel) rfl, gw5 40 (by decide +kernel) rfl, ⟨by decide, by decide, by decide +kernel⟩⟩
theorem mi_X11_limit : MI yX11_limit cX11_limit 3 (some .int) 1 := ⟨gw5 30 (by decide +kernel) rfl, gw5 31 (by decide +kernel) rfl, gw1 1 (by decide +kernel) rfl, gw5 32 (by decide +kernel) rfl, ⟨by decide, by decide, by decide +kernel⟩⟩
theorem mi_X11_load : MI yX11_load cX11_load 4 (some .int) 1 := ⟨gw5 8 (by decide +kernel) rfl, gw5 9 (by decide +kernel) rfl, gw1 1 (by decide +kernel) rfl, gw5 10 (by decide +kernel) rfl, ⟨by decide, by decide, by decide +kernel⟩⟩
theorem mi_X11_orbits : MI yX11_orbits cX11_orbits 4 (some .int) 1 := ⟨gw4 137 (by decide +kernel) rfl, gw4 138 (by decide +kernel) rfl, gw1 1 (by decide +kernel) rfl, gw4 139 (by decide +kernel) rfl, ⟨by decide, by decide, by decide +kernel⟩⟩
theorem mi_X11_order : MI yX11_order cX11_order 5 (some .int) 1 := ⟨gw5 22 (by decide +kernel) rfl, gw5 23 (by decide +kernel) rfl, gw1 1 (by decide +kernel) rfl, gw5 24 (by decide +kernel) rfl, ⟨by decide, by decide, by decide +kernel⟩⟩
theorem mi_X11_pattern : MI yX11_pattern cX11_pattern 3 (some .int) 2 := ⟨gw3 181 (by decide +kernel) rfl, gw3 182 (by decide +kernel) rfl, gw1 1 (by decide +kernel) rfl, gw3 183 (by decide +kernel) rfl, ⟨by decide, by decide, by decide +kernel⟩⟩
theorem mi_X11_place : MI yX11_place cX11_place 1 (some .int) 0 := ⟨gw3 165 (by decide +kernel) rfl, gw3 166 (by decide +kernel) rfl, gw1 1 (by decide +kernel) rfl, gw3 167 (by decide +kernel) rfl, ⟨by decide, by decide, by decide +kernel⟩⟩
theorem mi_X11_read : MI yX11_read cX11_read 2 (some .int) 0 := ⟨gw2 184 (by decide +kernel) rfl, gw2 185 (by decide +kernel) rfl, gw1 1 (by decide +kernel) rfl, gw2 186 (by decide +kernel) rfl, ⟨by decide, by decide, by decide +kernel⟩⟩
theorem mi_X11_restore : MI yX11_restore cX11_restore 2 (some .boolean) 1 := ⟨gw4 100 (by decide +kernel) rfl, gw4 101 (by decide +kernel) rfl, gw1 1 (by decide +kernel) rfl, gw4 102 (by decide +kernel) rfl, ⟨by decide, by decide, by decide +kernel⟩⟩
theorem mi_X11_room : MI yX11_room cX11_room 3 (some .int) 1 := ⟨gw4 209 (by decide +kernel) rfl, gw4 210 (by decide +kernel) rfl, gw1 1 (by decide +kernel) rfl, gw4 211 (by decide +kernel) rfl, ⟨by decide, by decide, by decide +kernel⟩⟩
theorem mi_X11_rule : MI yX11_rule cX11_rule 4 (some .int) 1 := ⟨gw5 12 (by decide +kernel) rfl, gw5 13 (by decide +kernel) rfl, gw1 1 (by decide +kernel) rfl, gw5 14 (by decide +kernel) rfl, ⟨by decide, by decide, by decide +kernel⟩⟩
theorem mi_X11_set : MI yX11_set cX11_set 2 (some .boolean) 1 := ⟨gw4 42 (by decide +kernel) rfl, gw4 43 (by decide +kernel) rfl, gw1 1 (by decide +kernel) rfl, gw4 44 (by decide +kernel) rfl, ⟨by decide, by decide, by decide +kernel⟩⟩
theorem mi_X11_slotsHeld : MI yX11_slotsHeld cX11_slotsHeld 3 (some .int) 0 := ⟨gw4 10 (by decide +kernel) rfl, gwm 21 (by decide +kernel) rfl, gw1 1 (by decide +kernel) rfl, gw4 11 (by decide +kernel) rfl, ⟨by decide, by decide, by decide +kernel⟩⟩
theorem mi_X11_span : MI yX11_span cX11_span 2 (some .int) 1 := ⟨gw4 129 (by decide +kernel) rfl, gw4 130 (by decide +kernel) rfl, gw1 1 (by decide +kernel) rfl, gw4 131 (by decide +kernel) rfl, ⟨by decide, by decide, by decide +kernel⟩⟩
theorem mi_X11_swaps : MI yX11_swaps cX11_swaps 2 (some .int) 1 := ⟨gw4 144 (by decide +kernel) rfl, gw4 145 (by decide +kernel) rfl, gw1 1 (by decide +kernel) rfl, gw4 146 (by decide +kernel) rfl, ⟨by decide, by decide, by decide +kernel⟩⟩
theorem mi_X11_tell : MI yX11_tell cX11_tell 3 (some .int) 2 := ⟨gw5 50 (by decide +kernel) rfl, gw5 51 (by decide +kernel) rfl, gw1 1 (by decide +kernel) rfl, gw5 52 (by decide +kernel) rfl, ⟨by decide, by decide, by decide +kernel⟩⟩
theorem mi_X11_tells : MI yX11_tells cX11_tells 5 (some .int) 3 := ⟨gw3 189 (by decide +kernel) rfl, gw3 190 (by decide +kernel) rfl, gw1 1 (by decide +kernel) rfl, gw3 191 (by decide +kernel) rfl, ⟨by decide, by decide, by decide +kernel⟩⟩
theorem mi_X11_then : MI yX11_then cX11_then 3 (some .int) 2 := ⟨gw5 42 (by decide +kernel) rfl, gw5 43 (by decide +kernel) rfl, gw1 1 (by decide +kernel) rfl, gw5 44 (by decide +kernel) rfl, ⟨by decide, by decide, by decide +kernel⟩⟩
theorem mi_X11_thing : MI yX11_thing cX11_thing 3 (some .int) 2 := ⟨gw3 169 (by decide +kernel) rfl, gw3 170 (by decide +kernel) rfl, gw1 1 (by decide +kernel) rfl, gw3 171 (by decide +kernel) rfl, ⟨by decide, by decide, by decide +kernel⟩⟩
theorem mi_X11_throwIn : MI yX11_throwIn cX11_throwIn 3 (some .boolean) 2 := ⟨gw4 17 (by decide +kernel) rfl, gw4 18 (by decide +kernel) rfl, gw1 1 (by decide +kernel) rfl, gw4 19 (by decide +kernel) rfl, ⟨by decide, by decide, by decide +kernel⟩⟩
theorem mi_X11_turned : MI yX11_turned cX11_turned 4 (some .int) 2 := ⟨gw4 122 (by decide +kernel) rfl, gw4 123 (by decide +kernel) rfl, gw1 1 (by decide +kernel) rfl, gw4 124 (by decide +kernel) rfl, ⟨by decide, by decide, by decide +kernel⟩⟩
theorem mi_X11_undo : MI yX11_undo cX11_undo 1 (some .boolean) 0 := ⟨gw4 87 (by decide +kernel) rfl, gw4 88 (by decide +kernel) rfl, gw1 1 (by decide +kernel) rfl, gw4 89 (by decide +kernel) rfl, ⟨by decide, by decide, by decide +kernel⟩⟩
theorem mi_X11_use : MI yX11_use cX11_use 2 (some .boolean) 1 := ⟨gw4 34 (by decide +kernel) rfl, gw4 35 (by decide +kernel) rfl, gw1 1 (by decide +kernel) rfl, gw4 36 (by decide +kernel) rfl, ⟨by decide, by decide, by decide +kernel⟩⟩
theorem mi_X11_watch : MI yX11_watch cX11_watch 8 (some .int) 1 := ⟨gw5 71 (by decide +kernel) rfl, gw5 72 (by decide +kernel) rfl, gw1 1 (by decide +kernel) rfl, gw5 73 (by decide +kernel) rfl, ⟨by decide, by decide, by decide +kernel⟩⟩
theorem mi_X11_ways : MI yX11_ways cX11_ways 5 (some .int) 4 := ⟨gw4 152 (by decide +kernel) rfl, gw4 153 (by decide +kernel) rfl, gw1 1 (by decide +kernel) rfl, gw4 154 (by decide +kernel) rfl, ⟨by decide, by decide, by decide +kernel⟩⟩
theorem mi_X11_weightsOf : MI yX11_weightsOf cX11_weightsOf 4 (some .int) 1 := ⟨gw4 14 (by decide +kernel) rfl, gwm 22 (by decide +kernel) rfl, gw1 1 (by decide +kernel) rfl, gw4 15 (by decide +kernel) rfl, ⟨by decide, by decide, by decide +kernel⟩⟩
theorem mi_X11_year : MI yX11_year cX11_year 5 (some .int) 2 := ⟨gw5 46 (by decide +kernel) rfl, gw5 47 (by decide +kernel) rfl, gw1 1 (by decide +kernel) rfl, gw5 48 (by decide +kernel) rfl, ⟨by decide, by decide, by decide +kernel⟩⟩
theorem mi_X0_begin : MI yX0_begin cX0_begin 2 none 1 := ⟨gw3 150 (by decide +kernel) rfl, gw3 151 (by decide +kernel) rfl, gw1 7 (by decide +kernel) rfl, gw3 152 (by decide +kernel) rfl, ⟨by decide, by decide, by decide +kernel⟩⟩
theorem mi_X0_bitsOf : MI yX0_bitsOf cX0_bitsOf 4 (some .int) 1 := ⟨gw3 200 (by decide +kernel) rfl, gw3 201 (by decide +kernel) rfl, gw1 7 (by decide +kernel) rfl, gw3 202 (by decide +kernel) rfl, ⟨by decide, by decide, by decide +kernel⟩⟩
theorem mi_X0_copy : MI yX0_copy cX0_copy 2 none 1 := ⟨gw4 25 (by decide +kernel) rfl, gw4 26 (by decide +kernel) rfl, gw1 7 (by decide +kernel) rfl, gw4 27 (by decide +kernel) rfl, ⟨by decide, by decide, by decide +kernel⟩⟩
theorem mi_X0_drop : MI yX0_drop cX0_drop 2 none 1 := ⟨gw4 67 (by decide +kernel) rfl, gw4 68 (by decide +kernel) rfl, gw1 7 (by decide +kernel) rfl, gw4 69 (by decide +kernel) rfl, ⟨by decide, by decide, by decide +kernel⟩⟩
theorem mi_X0_firstLanding : MI yX0_firstLanding cX0_firstLanding 2 (some .int) 0 := ⟨gw4 58 (by decide +kernel) rfl, gw4 59 (by decide +kernel) rfl, gw1 7 (by decide +kernel) rfl, gw4 60 (by decide +kernel) rfl, ⟨by decide, by decide, by decide +kernel⟩⟩
theorem mi_X0_heightBy : MI yX0_heightBy cX0_heightBy 2 (some .int) 1 := ⟨gw4 1 (by decide +kernel) rfl, gw4 2 (by decide +kernel) rfl, gw1 7 (by decide +kernel) rfl, gw4 3 (by decide +kernel) rfl, ⟨by decide, by decide, by decide +kernel⟩⟩
theorem mi_X0_howManyLand : MI yX0_howManyLand cX0_howManyLand 3 (some .int) 0 := ⟨gw4 201 (by decide +kernel) rfl, gw4 202 (by decide +kernel) rfl, gw1 7 (by decide +kernel) rfl, gw4 203 (by decide +kernel) rfl, ⟨by decide, by decide, by decide +kernel⟩⟩
theorem mi_X0_howManyUp : MI yX0_howManyUp cX0_howManyUp 1 (some .int) 0 := ⟨gw3 196 (by decide +kernel) rfl, gw3 197 (by decide +kernel) rfl, gw1 7 (by decide +kernel) rfl, gw3 198 (by decide +kernel) rfl, ⟨by decide, by decide, by decide +kernel⟩⟩
theorem mi_X0_isUp : MI yX0_isUp cX0_isUp 2 (some .boolean) 1 := ⟨gw3 177 (by decide +kernel) rfl, gw3 178 (by decide +kernel) rfl, gw1 7 (by decide +kernel) rfl, gw3 179 (by decide +kernel) rfl, ⟨by decide, by decide, by decide +kernel⟩⟩
theorem mi_X0_landingBits : MI yX0_landingBits cX0_landingBits 3 (some .int) 0 := ⟨gw4 175 (by decide +kernel) rfl, gw4 176 (by decide +kernel) rfl, gw1 7 (by decide +kernel) rfl, gw4 177 (by decide +kernel) rfl, ⟨by decide, by decide, by decide +kernel⟩⟩
theorem mi_X0_landsNow : MI yX0_landsNow cX0_landsNow 2 (some .boolean) 1 := ⟨gw4 62 (by decide +kernel) rfl, gw4 63 (by decide +kernel) rfl, gw1 7 (by decide +kernel) rfl, gw4 64 (by decide +kernel) rfl, ⟨by decide, by decide, by decide +kernel⟩⟩
theorem mi_X0_putUp : MI yX0_putUp cX0_putUp 3 none 2 := ⟨gw4 30 (by decide +kernel) rfl, gw4 31 (by decide +kernel) rfl, gw1 7 (by decide +kernel) rfl, gw4 32 (by decide +kernel) rfl, ⟨by decide, by decide, by decide +kernel⟩⟩
theorem mi_X0_takeUp : MI yX0_takeUp cX0_takeUp 2 none 1 := ⟨gw4 38 (by decide +kernel) rfl, gw4 39 (by decide +kernel) rfl, gw1 7 (by decide +kernel) rfl, gw4 40 (by decide +kernel) rfl, ⟨by decide, by decide, by decide +kernel⟩⟩
theorem mi_X0_twoLandAlike : MI yX0_twoLandAlike cX0_twoLandAlike 1 (some .boolean) 0 := ⟨gw4 217 (by decide +kernel) rfl, gw4 218 (by decide +kernel) rfl, gw1 7 (by decide +kernel) rfl, gw4 219 (by decide +kernel) rfl, ⟨by decide, by decide, by decide +kernel⟩⟩
theorem mi_X1_answer : MI yX1_answer cX1_answer 8 (some .int) 2 := ⟨gw3 218 (by decide +kernel) rfl, gw3 219 (by decide +kernel) rfl, gw1 5 (by decide +kernel) rfl, gw3 220 (by decide +kernel) rfl, ⟨by decide, by decide, by decide +kernel⟩⟩
theorem mi_X1_pop : MI yX1_pop cX1_pop 1 (some .int) 0 := ⟨gw3 227 (by decide +kernel) rfl, gwm 19 (by decide +kernel) rfl, gw1 5 (by decide +kernel) rfl, gw3 228 (by decide +kernel) rfl, ⟨by decide, by decide, by decide +kernel⟩⟩
theorem mi_X1_push : MI yX1_push cX1_push 2 none 1 := ⟨gw3 223 (by decide +kernel) rfl, gwm 18 (by decide +kernel) rfl, gw1 5 (by decide +kernel) rfl, gw3 224 (by decide +kernel) rfl, ⟨by decide, by decide, by decide +kernel⟩⟩
theorem mi_X1_reckon : MI yX1_reckon cX1_reckon 4 (some .int) 3 := ⟨gw3 231 (by decide +kernel) rfl, gwm 20 (by decide +kernel) rfl, gw1 5 (by decide +kernel) rfl, gw3 232 (by decide +kernel) rfl, ⟨by decide, by decide, by decide +kernel⟩⟩
theorem mi_X2_add : MI yX2_add cX2_add 3 (some .int) 2 := ⟨gw5 54 (by decide +kernel) rfl, gw5 55 (by decide +kernel) rfl, gw1 8 (by decide +kernel) rfl, gw5 56 (by decide +kernel) rfl, ⟨by decide, by decide, by decide +kernel⟩⟩
theorem mi_X2_agreeing : MI yX2_agreeing cX2_agreeing 8 (some .int) 3 := ⟨gw5 66 (by decide +kernel) rfl, gw5 67 (by decide +kernel) rfl, gw1 8 (by decide +kernel) rfl, gw5 68 (by decide +kernel) rfl, ⟨by decide, by decide, by decide +kernel⟩⟩
theorem ms_X3_close : MS yX3_close cX3_close 5 (some .boolean) 2 := ⟨gw4 111 (by decide +kernel) rfl, gw1 22 (by decide +kernel) rfl, gw4 112 (by decide +kernel) rfl, ⟨by decide, by decide, by decide +kernel⟩⟩
theorem ms_X3_highest : MS yX3_highest cX3_highest 4 (some .int) 2 := ⟨gw4 133 (by decide +kernel) rfl, gw1 22 (by decide +kernel) rfl, gw4 134 (by decide +kernel) rfl, ⟨by decide, by decide, by decide +kernel⟩⟩
theorem ms_X3_kept : MS yX3_kept cX3_kept 4 (some .int) 2 := ⟨gw4 114 (by decide +kernel) rfl, gw1 22 (by decide +kernel) rfl, gw4 115 (by decide +kernel) rfl, ⟨by decide, by decide, by decide +kernel⟩⟩
theorem ms_X3_landingBits : MS yX3_landingBits cX3_landingBits 5 (some .int) 2 := ⟨gw4 223 (by decide +kernel) rfl, gw1 22 (by decide +kernel) rfl, gw4 224 (by decide +kernel) rfl, ⟨by decide, by decide, by decide +kernel⟩⟩
theorem ms_X3_pairsToSwap : MS yX3_pairsToSwap cX3_pairsToSwap 5 (some .int) 2 := ⟨gw4 148 (by decide +kernel) rfl, gw1 22 (by decide +kernel) rfl, gw4 149 (by decide +kernel) rfl, ⟨by decide, by decide, by decide +kernel⟩⟩
theorem ms_X3_rounds : MS yX3_rounds cX3_rounds 7 (some .int) 2 := ⟨gw4 141 (by decide +kernel) rfl, gw1 22 (by decide +kernel) rfl, gw4 142 (by decide +kernel) rfl, ⟨by decide, by decide, by decide +kernel⟩⟩
theorem ms_X3_turns : MS yX3_turns cX3_turns 6 (some .int) 3 := ⟨gw4 126 (by decide +kernel) rfl, gw1 22 (by decide +kernel) rfl, gw4 127 (by decide +kernel) rfl, ⟨by decide, by decide, by decide +kernel⟩⟩
theorem mi_X4_asks : MI yX4_asks cX4_asks 5 (some .int) 3 := ⟨gw3 214 (by decide +kernel) rfl, gw3 215 (by decide +kernel) rfl, gw1 4 (by decide +kernel) rfl, gw3 216 (by decide +kernel) rfl, ⟨by decide, by decide, by decide +kernel⟩⟩
theorem mi_X4_catchOne : MI yX4_catchOne cX4_catchOne 6 none 4 := ⟨gw4 74 (by decide +kernel) rfl, gwm 24 (by decide +kernel) rfl, gw1 4 (by decide +kernel) rfl, gw4 75 (by decide +kernel) rfl, ⟨by decide, by decide, by decide +kernel⟩⟩
theorem mi_X4_goOn : MI yX4_goOn cX4_goOn 6 none 4 := ⟨gw4 50 (by decide +kernel) rfl, gw4 51 (by decide +kernel) rfl, gw1 4 (by decide +kernel) rfl, gw4 52 (by decide +kernel) rfl, ⟨by decide, by decide, by decide +kernel⟩⟩
theorem mi_X4_goOnSafely : MI yX4_goOnSafely cX4_goOnSafely 3 none 2 := ⟨gw4 189 (by decide +kernel) rfl, gw4 190 (by decide +kernel) rfl, gw1 4 (by decide +kernel) rfl, gw4 191 (by decide +kernel) rfl, ⟨by decide, by decide, by decide +kernel⟩⟩
theorem mi_X4_inForce : MI yX4_inForce cX4_inForce 4 (some .int) 2 := ⟨gw5 17 (by decide +kernel) rfl, gw5 18 (by decide +kernel) rfl, gw1 4 (by decide +kernel) rfl, gw5 19 (by decide +kernel) rfl, ⟨by decide, by decide, by decide +kernel⟩⟩
theorem mi_X4_lookAt : MI yX4_lookAt cX4_lookAt 5 none 4 := ⟨gw3 210 (by decide +kernel) rfl, gw3 211 (by decide +kernel) rfl, gw1 4 (by decide +kernel) rfl, gw3 212 (by decide +kernel) rfl, ⟨by decide, by decide, by decide +kernel⟩⟩
theorem ms_X4_lot : MS yX4_lot cX4_lot 4 (some .int) 3 := ⟨gw4 78 (by decide +kernel) rfl, gw1 4 (by decide +kernel) rfl, gw4 79 (by decide +kernel) rfl, ⟨by decide, by decide, by decide +kernel⟩⟩
theorem mi_X4_oneBeat : MI yX4_oneBeat cX4_oneBeat 6 none 3 := ⟨gw4 55 (by decide +kernel) rfl, gwm 23 (by decide +kernel) rfl, gw1 4 (by decide +kernel) rfl, gw4 56 (by decide +kernel) rfl, ⟨by decide, by decide, by decide +kernel⟩⟩
theorem ms_X4_stir : MS yX4_stir cX4_stir 3 (some .int) 2 := ⟨gw4 81 (by decide +kernel) rfl, gw1 4 (by decide +kernel) rfl, gw4 82 (by decide +kernel) rfl, ⟨by decide, by decide, by decide +kernel⟩⟩
theorem mi_X5_clear : MI yX5_clear cX5_clear 1 none 0 := ⟨gw3 160 (by decide +kernel) rfl, gw3 161 (by decide +kernel) rfl, gw1 6 (by decide +kernel) rfl, gw3 162 (by decide +kernel) rfl, ⟨by decide, by decide, by decide +kernel⟩⟩
theorem mi_X5_giveBack : MI yX5_giveBack cX5_giveBack 2 (some .boolean) 1 := ⟨gw4 91 (by decide +kernel) rfl, gw4 92 (by decide +kernel) rfl, gw1 6 (by decide +kernel) rfl, gw4 93 (by decide +kernel) rfl, ⟨by decide, by decide, by decide +kernel⟩⟩
theorem mi_X5_keep : MI yX5_keep cX5_keep 2 none 1 := ⟨gw4 21 (by decide +kernel) rfl, gw4 22 (by decide +kernel) rfl, gw1 6 (by decide +kernel) rfl, gw4 23 (by decide +kernel) rfl, ⟨by decide, by decide, by decide +kernel⟩⟩
theorem mi_X6_condition : MI yX6_condition cX6_condition 3 (some .boolean) 1 := ⟨gw3 130 (by decide +kernel) rfl, gwm 13 (by decide +kernel) rfl, gw1 2 (by decide +kernel) rfl, gw3 131 (by decide +kernel) rfl, ⟨by decide, by decide, by decide +kernel⟩⟩
theorem mi_X6_expression : MI yX6_expression cX6_expression 6 (some .boolean) 2 := ⟨gw3 134 (by decide +kernel) rfl, gwm 14 (by decide +kernel) rfl, gw1 2 (by decide +kernel) rfl, gw3 135 (by decide +kernel) rfl, ⟨by decide, by decide, by decide +kernel⟩⟩
theorem mi_X6_noteLater : MI yX6_noteLater cX6_noteLater 2 none 1 := ⟨gw3 114 (by decide +kernel) rfl, gwm 9 (by decide +kernel) rfl, gw1 2 (by decide +kernel) rfl, gw3 115 (by decide +kernel) rfl, ⟨by decide, by decide, by decide +kernel⟩⟩
theorem mi_X6_product : MI yX6_product cX6_product 6 (some .boolean) 2 := ⟨gw3 138 (by decide +kernel) rfl, gwm 15 (by decide +kernel) rfl, gw1 2 (by decide +kernel) rfl, gw3 139 (by decide +kernel) rfl, ⟨by decide, by decide, by decide +kernel⟩⟩
theorem mi_X6_readInto : MI yX6_readInto cX6_readInto 4 (some .int) 1 := ⟨gw2 188 (by decide +kernel) rfl, gw2 189 (by decide +kernel) rfl, gw1 2 (by decide +kernel) rfl, gw2 190 (by decide +kernel) rfl, ⟨by decide, by decide, by decide +kernel⟩⟩
theorem mi_X6_refuse : MI yX6_refuse cX6_refuse 2 (some .boolean) 1 := ⟨gw3 102 (by decide +kernel) rfl, gwm 6 (by decide +kernel) rfl, gw1 2 (by decide +kernel) rfl, gw3 103 (by decide +kernel) rfl, ⟨by decide, by decide, by decide +kernel⟩⟩
theorem mi_X6_take : MI yX6_take cX6_take 2 (some .boolean) 1 := ⟨gw3 106 (by decide +kernel) rfl, gwm 7 (by decide +kernel) rfl, gw1 2 (by decide +kernel) rfl, gw3 107 (by decide +kernel) rfl, ⟨by decide, by decide, by decide +kernel⟩⟩
theorem mi_X6_takeName : MI yX6_takeName cX6_takeName 4 (some .boolean) 0 := ⟨gw3 110 (by decide +kernel) rfl, gwm 8 (by decide +kernel) rfl, gw1 2 (by decide +kernel) rfl, gw3 111 (by decide +kernel) rfl, ⟨by decide, by decide, by decide +kernel⟩⟩
theorem mi_X6_takeNumber : MI yX6_takeNumber cX6_takeNumber 5 (some .boolean) 2 := ⟨gw3 118 (by decide +kernel) rfl, gwm 10 (by decide +kernel) rfl, gw1 2 (by decide +kernel) rfl, gw3 119 (by decide +kernel) rfl, ⟨by decide, by decide, by decide +kernel⟩⟩
theorem mi_X6_telling : MI yX6_telling cX6_telling 3 (some .boolean) 1 := ⟨gw3 94 (by decide +kernel) rfl, gwm 4 (by decide +kernel) rfl, gw1 2 (by decide +kernel) rfl, gw3 95 (by decide +kernel) rfl, ⟨by decide, by decide, by decide +kernel⟩⟩
theorem mi_X6_tellingLaw : MI yX6_tellingLaw cX6_tellingLaw 4 (some .boolean) 2 := ⟨gw3 126 (by decide +kernel) rfl, gwm 12 (by decide +kernel) rfl, gw1 2 (by decide +kernel) rfl, gw3 127 (by decide +kernel) rfl, ⟨by decide, by decide, by decide +kernel⟩⟩
theorem mi_X6_tellingPattern : MI yX6_tellingPattern cX6_tellingPattern 4 (some .boolean) 1 := ⟨gw3 122 (by decide +kernel) rfl, gwm 11 (by decide +kernel) rfl, gw1 2 (by decide +kernel) rfl, gw3 123 (by decide +kernel) rfl, ⟨by decide, by decide, by decide +kernel⟩⟩
theorem mi_X6_tellingThing : MI yX6_tellingThing cX6_tellingThing 3 (some .boolean) 1 := ⟨gw3 98 (by decide +kernel) rfl, gwm 5 (by decide +kernel) rfl, gw1 2 (by decide +kernel) rfl, gw3 99 (by decide +kernel) rfl, ⟨by decide, by decide, by decide +kernel⟩⟩
theorem mi_X6_unit : MI yX6_unit cX6_unit 4 (some .boolean) 2 := ⟨gw3 142 (by decide +kernel) rfl, gwm 16 (by decide +kernel) rfl, gw1 2 (by decide +kernel) rfl, gw3 143 (by decide +kernel) rfl, ⟨by decide, by decide, by decide +kernel⟩⟩
theorem mi_X7_find : MI yX7_find cX7_find 6 (some .boolean) 2 := ⟨gw4 227 (by decide +kernel) rfl, gw4 228 (by decide +kernel) rfl, gw1 9 (by decide +kernel) rfl, gw4 229 (by decide +kernel) rfl, ⟨by decide, by decide, by decide +kernel⟩⟩
theorem mi_X7_goOnFrom : MI yX7_goOnFrom cX7_goOnFrom 5 none 1 := ⟨gw4 237 (by decide +kernel) rfl, gwm 30 (by decide +kernel) rfl, gw1 9 (by decide +kernel) rfl, gw4 238 (by decide +kernel) rfl, ⟨by decide, by decide, by decide +kernel⟩⟩
theorem mi_X7_meet : MI yX7_meet cX7_meet 4 none 3 := ⟨gw4 233 (by decide +kernel) rfl, gwm 29 (by decide +kernel) rfl, gw1 9 (by decide +kernel) rfl, gw4 234 (by decide +kernel) rfl, ⟨by decide, by decide, by decide +kernel⟩⟩
theorem mi_X8_fill : MI yX8_fill cX8_fill 6 none 3 := ⟨gw4 163 (by decide +kernel) rfl, gwm 25 (by decide +kernel) rfl, gw1 10 (by decide +kernel) rfl, gw4 164 (by decide +kernel) rfl, ⟨by decide, by decide, by decide +kernel⟩⟩
theorem mi_X8_find : MI yX8_find cX8_find 4 none 3 := ⟨gw4 156 (by decide +kernel) rfl, gw4 157 (by decide +kernel) rfl, gw1 10 (by decide +kernel) rfl, gw4 158 (by decide +kernel) rfl, ⟨by decide, by decide, by decide +kernel⟩⟩
theorem mi_X8_finish : MI yX8_finish cX8_finish 1 none 0 := ⟨gw4 167 (by decide +kernel) rfl, gwm 26 (by decide +kernel) rfl, gw1 10 (by decide +kernel) rfl, gw4 168 (by decide +kernel) rfl, ⟨by decide, by decide, by decide +kernel⟩⟩
theorem mi_X9_append : MI yX9_append cX9_append 3 none 1 := ⟨gw2 176 (by decide +kernel) rfl, gw2 177 (by decide +kernel) rfl, gw1 3 (by decide +kernel) rfl, gw2 178 (by decide +kernel) rfl, ⟨by decide, by decide, by decide +kernel⟩⟩
theorem mi_X9_cut : MI yX9_cut cX9_cut 3 none 0 := ⟨gw2 193 (by decide +kernel) rfl, gw2 194 (by decide +kernel) rfl, gw1 3 (by decide +kernel) rfl, gw2 195 (by decide +kernel) rfl, ⟨by decide, by decide, by decide +kernel⟩⟩
theorem mi_X9_cutInt : MI yX9_cutInt cX9_cutInt 5 (some .int) 1 := ⟨gw3 29 (by decide +kernel) rfl, gwm 3 (by decide +kernel) rfl, gw1 3 (by decide +kernel) rfl, gw3 30 (by decide +kernel) rfl, ⟨by decide, by decide, by decide +kernel⟩⟩
theorem mi_X9_cutOne : MI yX9_cutOne cX9_cutOne 3 (some .int) 1 := ⟨gw2 201 (by decide +kernel) rfl, gwm 0 (by decide +kernel) rfl, gw1 3 (by decide +kernel) rfl, gw2 202 (by decide +kernel) rfl, ⟨by decide, by decide, by decide +kernel⟩⟩
theorem mi_X9_cutWord : MI yX9_cutWord cX9_cutWord 6 (some .int) 1 := ⟨gw2 208 (by decide +kernel) rfl, gwm 1 (by decide +kernel) rfl, gw1 3 (by decide +kernel) rfl, gw2 209 (by decide +kernel) rfl, ⟨by decide, by decide, by decide +kernel⟩⟩
theorem ms_X9_isBlank : MS yX9_isBlank cX9_isBlank 1 (some .boolean) 1 := ⟨gw2 197 (by decide +kernel) rfl, gw1 3 (by decide +kernel) rfl, gw2 198 (by decide +kernel) rfl, ⟨by decide, by decide, by decide +kernel⟩⟩
theorem ms_X9_isDigit : MS yX9_isDigit cX9_isDigit 1 (some .boolean) 1 := ⟨gw3 25 (by decide +kernel) rfl, gw1 3 (by decide +kernel) rfl, gw3 26 (by decide +kernel) rfl, ⟨by decide, by decide, by decide +kernel⟩⟩
theorem ms_X9_isLetter : MS yX9_isLetter cX9_isLetter 1 (some .boolean) 1 := ⟨gw2 204 (by decide +kernel) rfl, gw1 3 (by decide +kernel) rfl, gw2 205 (by decide +kernel) rfl, ⟨by decide, by decide, by decide +kernel⟩⟩
theorem mi_X9_wordAt : MI yX9_wordAt cX9_wordAt 7 (some .int) 2 := ⟨gw2 213 (by decide +kernel) rfl, gwm 2 (by decide +kernel) rfl, gw1 3 (by decide +kernel) rfl, gw2 214 (by decide +kernel) rfl, ⟨by decide, by decide, by decide +kernel⟩⟩
theorem mi_X10_clear : MI yX10_clear cX10_clear 2 none 0 := ⟨gw2 52 (by decide +kernel) rfl, gw2 53 (by decide +kernel) rfl, gw1 11 (by decide +kernel) rfl, gw2 54 (by decide +kernel) rfl, ⟨by decide, by decide, by decide +kernel⟩⟩
theorem mi_X10_emit : MI yX10_emit cX10_emit 2 none 1 := ⟨gw2 56 (by decide +kernel) rfl, gw2 57 (by decide +kernel) rfl, gw1 11 (by decide +kernel) rfl, gw2 58 (by decide +kernel) rfl, ⟨by decide, by decide, by decide +kernel⟩⟩
theorem mi_X10_hasPattern : MI yX10_hasPattern cX10_hasPattern 2 (some .boolean) 1 := ⟨gw3 185 (by decide +kernel) rfl, gw3 186 (by decide +kernel) rfl, gw1 11 (by decide +kernel) rfl, gw3 187 (by decide +kernel) rfl, ⟨by decide, by decide, by decide +kernel⟩⟩
theorem mi_X10_hasThing : MI yX10_hasThing cX10_hasThing 2 (some .boolean) 1 := ⟨gw3 173 (by decide +kernel) rfl, gw3 174 (by decide +kernel) rfl, gw1 11 (by decide +kernel) rfl, gw3 175 (by decide +kernel) rfl, ⟨by decide, by decide, by decide +kernel⟩⟩
theorem mi_X12_aimOf : MI yX12_aimOf cX12_aimOf 6 (some .int) 1 := ⟨gw7 150 (by decide +kernel) rfl, gwm 88 (by decide +kernel) rfl, gw1 12 (by decide +kernel) rfl, gw7 151 (by decide +kernel) rfl, ⟨by decide, by decide, by decide +kernel⟩⟩
theorem ms_X12_appends : MS yX12_appends cX12_appends 3 (some .long) 2 := ⟨gw5 89 (by decide +kernel) rfl, gw1 12 (by decide +kernel) rfl, gw5 90 (by decide +kernel) rfl, ⟨by decide, by decide, by decide +kernel⟩⟩
theorem mi_X12_areTwoSoon : MI yX12_areTwoSoon cX12_areTwoSoon 2 (some .boolean) 0 := ⟨gw7 161 (by decide +kernel) rfl, gwm 90 (by decide +kernel) rfl, gw1 12 (by decide +kernel) rfl, gw7 162 (by decide +kernel) rfl, ⟨by decide, by decide, by decide +kernel⟩⟩
theorem mi_X12_back : MI yX12_back cX12_back 2 (some .int) 1 := ⟨gw6 67 (by decide +kernel) rfl, gw6 68 (by decide +kernel) rfl, gw1 12 (by decide +kernel) rfl, gw6 69 (by decide +kernel) rfl, ⟨by decide, by decide, by decide +kernel⟩⟩
theorem mi_X12_beatGoes : MI yX12_beatGoes cX12_beatGoes 2 none 0 := ⟨gw7 42 (by decide +kernel) rfl, gwm 74 (by decide +kernel) rfl, gw1 12 (by decide +kernel) rfl, gw7 43 (by decide +kernel) rfl, ⟨by decide, by decide, by decide +kernel⟩⟩
theorem mi_X12_beats : MI yX12_beats cX12_beats 2 (some .int) 1 := ⟨gw7 30 (by decide +kernel) rfl, gw7 31 (by decide +kernel) rfl, gw1 12 (by decide +kernel) rfl, gw7 32 (by decide +kernel) rfl, ⟨by decide, by decide, by decide +kernel⟩⟩
theorem mi_X12_begins : MI yX12_begins cX12_begins 2 none 0 := ⟨gw5 94 (by decide +kernel) rfl, gwm 32 (by decide +kernel) rfl, gw1 12 (by decide +kernel) rfl, gw5 95 (by decide +kernel) rfl, ⟨by decide, by decide, by decide +kernel⟩⟩
theorem ms_X12_bits : MS yX12_bits cX12_bits 3 (some .int) 1 := ⟨gw6 216 (by decide +kernel) rfl, gw1 12 (by decide +kernel) rfl, gw6 217 (by decide +kernel) rfl, ⟨by decide, by decide, by decide +kernel⟩⟩
theorem mi_X12_bounded : MI yX12_bounded cX12_bounded 4 (some .int) 2 := ⟨gw6 134 (by decide +kernel) rfl, gwm 48 (by decide +kernel) rfl, gw1 12 (by decide +kernel) rfl, gw6 135 (by decide +kernel) rfl, ⟨by decide, by decide, by decide +kernel⟩⟩
theorem mi_X12_busiest : MI yX12_busiest cX12_busiest 5 (some .int) 2 := ⟨gw7 184 (by decide +kernel) rfl, gw7 185 (by decide +kernel) rfl, gw1 12 (by decide +kernel) rfl, gw7 186 (by decide +kernel) rfl, ⟨by decide, by decide, by decide +kernel⟩⟩
theorem mi_X12_byteAt : MI yX12_byteAt cX12_byteAt 2 (some .int) 1 := ⟨gw6 80 (by decide +kernel) rfl, gwm 36 (by decide +kernel) rfl, gw1 12 (by decide +kernel) rfl, gw6 81 (by decide +kernel) rfl, ⟨by decide, by decide, by decide +kernel⟩⟩
theorem mi_X12_catches : MI yX12_catches cX12_catches 6 none 1 := ⟨gw7 58 (by decide +kernel) rfl, gwm 78 (by decide +kernel) rfl, gw1 12 (by decide +kernel) rfl, gw7 59 (by decide +kernel) rfl, ⟨by decide, by decide, by decide +kernel⟩⟩
theorem mi_X12_catchesNow : MI yX12_catchesNow cX12_catchesNow 2 (some .int) 0 := ⟨gw7 46 (by decide +kernel) rfl, gwm 75 (by decide +kernel) rfl, gw1 12 (by decide +kernel) rfl, gw7 47 (by decide +kernel) rfl, ⟨by decide, by decide, by decide +kernel⟩⟩
theorem mi_X12_clash : MI yX12_clash cX12_clash 2 (some .int) 0 := ⟨gw7 140 (by decide +kernel) rfl, gw7 141 (by decide +kernel) rfl, gw1 12 (by decide +kernel) rfl, gw7 142 (by decide +kernel) rfl, ⟨by decide, by decide, by decide +kernel⟩⟩
theorem mi_X12_closes : MI yX12_closes cX12_closes 3 (some .int) 2 := ⟨gw7 81 (by decide +kernel) rfl, gw7 82 (by decide +kernel) rfl, gw1 12 (by decide +kernel) rfl, gw7 83 (by decide +kernel) rfl, ⟨by decide, by decide, by decide +kernel⟩⟩
theorem mi_X12_comesOut : MI yX12_comesOut cX12_comesOut 3 none 1 := ⟨gw6 166 (by decide +kernel) rfl, gwm 56 (by decide +kernel) rfl, gw1 12 (by decide +kernel) rfl, gw6 167 (by decide +kernel) rfl, ⟨by decide, by decide, by decide +kernel⟩⟩
theorem mi_X12_copies : MI yX12_copies cX12_copies 2 none 0 := ⟨gw6 209 (by decide +kernel) rfl, gwm 62 (by decide +kernel) rfl, gw1 12 (by decide +kernel) rfl, gw6 210 (by decide +kernel) rfl, ⟨by decide, by decide, by decide +kernel⟩⟩
theorem mi_X12_copiesStill : MI yX12_copiesStill cX12_copiesStill 1 none 0 := ⟨gw7 137 (by decide +kernel) rfl, gwm 87 (by decide +kernel) rfl, gw1 12 (by decide +kernel) rfl, gw7 138 (by decide +kernel) rfl, ⟨by decide, by decide, by decide +kernel⟩⟩
theorem mi_X12_count : MI yX12_count cX12_count 2 (some .int) 1 := ⟨gw8 16 (by decide +kernel) rfl, gw8 17 (by decide +kernel) rfl, gw1 12 (by decide +kernel) rfl, gw8 18 (by decide +kernel) rfl, ⟨by decide, by decide, by decide +kernel⟩⟩
theorem mi_X12_cut : MI yX12_cut cX12_cut 8 none 0 := ⟨gw6 76 (by decide +kernel) rfl, gwm 35 (by decide +kernel) rfl, gw1 12 (by decide +kernel) rfl, gw6 77 (by decide +kernel) rfl, ⟨by decide, by decide, by decide +kernel⟩⟩
theorem mi_X12_doesLand : MI yX12_doesLand cX12_doesLand 3 (some .boolean) 2 := ⟨gw7 50 (by decide +kernel) rfl, gwm 76 (by decide +kernel) rfl, gw1 12 (by decide +kernel) rfl, gw7 51 (by decide +kernel) rfl, ⟨by decide, by decide, by decide +kernel⟩⟩
theorem mi_X12_down : MI yX12_down cX12_down 2 (some .int) 0 := ⟨gw7 216 (by decide +kernel) rfl, gw7 217 (by decide +kernel) rfl, gw1 12 (by decide +kernel) rfl, gw7 218 (by decide +kernel) rfl, ⟨by decide, by decide, by decide +kernel⟩⟩
theorem mi_X12_dropsBy : MI yX12_dropsBy cX12_dropsBy 4 (some .int) 3 := ⟨gw6 239 (by decide +kernel) rfl, gwm 68 (by decide +kernel) rfl, gw1 12 (by decide +kernel) rfl, gw7 0 (by decide +kernel) rfl, ⟨by decide, by decide, by decide +kernel⟩⟩
theorem mi_X12_dropsOthers : MI yX12_dropsOthers cX12_dropsOthers 2 none 0 := ⟨gw7 54 (by decide +kernel) rfl, gwm 77 (by decide +kernel) rfl, gw1 12 (by decide +kernel) rfl, gw7 55 (by decide +kernel) rfl, ⟨by decide, by decide, by decide +kernel⟩⟩
theorem mi_X12_emit : MI yX12_emit cX12_emit 3 none 2 := ⟨gw6 162 (by decide +kernel) rfl, gwm 55 (by decide +kernel) rfl, gw1 12 (by decide +kernel) rfl, gw6 163 (by decide +kernel) rfl, ⟨by decide, by decide, by decide +kernel⟩⟩
theorem mi_X12_ends : MI yX12_ends cX12_ends 2 none 1 := ⟨gw6 138 (by decide +kernel) rfl, gwm 49 (by decide +kernel) rfl, gw1 12 (by decide +kernel) rfl, gw6 139 (by decide +kernel) rfl, ⟨by decide, by decide, by decide +kernel⟩⟩
theorem mi_X12_expression : MI yX12_expression cX12_expression 3 none 0 := ⟨gw6 154 (by decide +kernel) rfl, gwm 53 (by decide +kernel) rfl, gw1 12 (by decide +kernel) rfl, gw6 155 (by decide +kernel) rfl, ⟨by decide, by decide, by decide +kernel⟩⟩
theorem mi_X12_fail : MI yX12_fail cX12_fail 2 none 1 := ⟨gw6 110 (by decide +kernel) rfl, gwm 42 (by decide +kernel) rfl, gw1 12 (by decide +kernel) rfl, gw6 111 (by decide +kernel) rfl, ⟨by decide, by decide, by decide +kernel⟩⟩
theorem mi_X12_feed : MI yX12_feed cX12_feed 6 (some .int) 5 := ⟨gw6 59 (by decide +kernel) rfl, gw6 60 (by decide +kernel) rfl, gw1 12 (by decide +kernel) rfl, gw6 61 (by decide +kernel) rfl, ⟨by decide, by decide, by decide +kernel⟩⟩
theorem mi_X12_fillsFar : MI yX12_fillsFar cX12_fillsFar 6 none 1 := ⟨gw7 154 (by decide +kernel) rfl, gwm 89 (by decide +kernel) rfl, gw1 12 (by decide +kernel) rfl, gw7 155 (by decide +kernel) rfl, ⟨by decide, by decide, by decide +kernel⟩⟩
theorem mi_X12_firstOf : MI yX12_firstOf cX12_firstOf 3 (some .int) 1 := ⟨gw7 165 (by decide +kernel) rfl, gwm 91 (by decide +kernel) rfl, gw1 12 (by decide +kernel) rfl, gw7 166 (by decide +kernel) rfl, ⟨by decide, by decide, by decide +kernel⟩⟩
theorem mi_X12_forceOf : MI yX12_forceOf cX12_forceOf 3 (some .int) 2 := ⟨gw7 3 (by decide +kernel) rfl, gwm 69 (by decide +kernel) rfl, gw1 12 (by decide +kernel) rfl, gw7 4 (by decide +kernel) rfl, ⟨by decide, by decide, by decide +kernel⟩⟩
theorem mi_X12_forget : MI yX12_forget cX12_forget 2 (some .int) 0 := ⟨gw7 232 (by decide +kernel) rfl, gw7 233 (by decide +kernel) rfl, gw1 12 (by decide +kernel) rfl, gw7 234 (by decide +kernel) rfl, ⟨by decide, by decide, by decide +kernel⟩⟩
theorem mi_X12_gap : MI yX12_gap cX12_gap 2 (some .int) 0 := ⟨gw7 195 (by decide +kernel) rfl, gw7 196 (by decide +kernel) rfl, gw1 12 (by decide +kernel) rfl, gw7 197 (by decide +kernel) rfl, ⟨by decide, by decide, by decide +kernel⟩⟩
theorem mi_X12_glitterBits : MI yX12_glitterBits cX12_glitterBits 5 (some .int) 1 := ⟨gw8 1 (by decide +kernel) rfl, gwm 93 (by decide +kernel) rfl, gw1 12 (by decide +kernel) rfl, gw8 2 (by decide +kernel) rfl, ⟨by decide, by decide, by decide +kernel⟩⟩
theorem mi_X12_glitters : MI yX12_glitters cX12_glitters 4 (some .int) 2 := ⟨gw7 236 (by decide +kernel) rfl, gw7 237 (by decide +kernel) rfl, gw1 12 (by decide +kernel) rfl, gw7 238 (by decide +kernel) rfl, ⟨by decide, by decide, by decide +kernel⟩⟩
theorem mi_X12_goes : MI yX12_goes cX12_goes 3 none 1 := ⟨gw7 38 (by decide +kernel) rfl, gwm 73 (by decide +kernel) rfl, gw1 12 (by decide +kernel) rfl, gw7 39 (by decide +kernel) rfl, ⟨by decide, by decide, by decide +kernel⟩⟩
theorem mi_X12_goesOn : MI yX12_goesOn cX12_goesOn 1 none 0 := ⟨gw6 114 (by decide +kernel) rfl, gwm 43 (by decide +kernel) rfl, gw1 12 (by decide +kernel) rfl, gw6 115 (by decide +kernel) rfl, ⟨by decide, by decide, by decide +kernel⟩⟩
theorem mi_X12_handover : MI yX12_handover cX12_handover 3 (some .int) 0 := ⟨gw7 176 (by decide +kernel) rfl, gw7 177 (by decide +kernel) rfl, gw1 12 (by decide +kernel) rfl, gw7 178 (by decide +kernel) rfl, ⟨by decide, by decide, by decide +kernel⟩⟩
theorem mi_X12_hasRoom : MI yX12_hasRoom cX12_hasRoom 4 (some .boolean) 2 := ⟨gw7 173 (by decide +kernel) rfl, gwm 92 (by decide +kernel) rfl, gw1 12 (by decide +kernel) rfl, gw7 174 (by decide +kernel) rfl, ⟨by decide, by decide, by decide +kernel⟩⟩
theorem mi_X12_heightAt : MI yX12_heightAt cX12_heightAt 3 (some .int) 2 := ⟨gw6 201 (by decide +kernel) rfl, gwm 61 (by decide +kernel) rfl, gw1 12 (by decide +kernel) rfl, gw6 202 (by decide +kernel) rfl, ⟨by decide, by decide, by decide +kernel⟩⟩
theorem mi_X12_heightNow : MI yX12_heightNow cX12_heightNow 1 (some .int) 0 := ⟨gw7 62 (by decide +kernel) rfl, gwm 79 (by decide +kernel) rfl, gw1 12 (by decide +kernel) rfl, gw7 63 (by decide +kernel) rfl, ⟨by decide, by decide, by decide +kernel⟩⟩
theorem ms_X12_held : MS yX12_held cX12_held 3 (some .int) 3 := ⟨gw6 235 (by decide +kernel) rfl, gw1 12 (by decide +kernel) rfl, gw6 236 (by decide +kernel) rfl, ⟨by decide, by decide, by decide +kernel⟩⟩
theorem mi_X12_hold : MI yX12_hold cX12_hold 3 (some .boolean) 1 := ⟨gw8 8 (by decide +kernel) rfl, gw8 9 (by decide +kernel) rfl, gw1 12 (by decide +kernel) rfl, gw8 10 (by decide +kernel) rfl, ⟨by decide, by decide, by decide +kernel⟩⟩
theorem ms_X12_in : MS yX12_in cX12_in 3 (some .boolean) 3 := ⟨gw6 185 (by decide +kernel) rfl, gw1 12 (by decide +kernel) rfl, gw6 186 (by decide +kernel) rfl, ⟨by decide, by decide, by decide +kernel⟩⟩
theorem mi_X12_inHand : MI yX12_inHand cX12_inHand 2 (some .int) 1 := ⟨gw7 132 (by decide +kernel) rfl, gw7 133 (by decide +kernel) rfl, gw1 12 (by decide +kernel) rfl, gw7 134 (by decide +kernel) rfl, ⟨by decide, by decide, by decide +kernel⟩⟩
theorem mi_X12_into : MI yX12_into cX12_into 5 (some .int) 2 := ⟨gw7 144 (by decide +kernel) rfl, gw7 145 (by decide +kernel) rfl, gw1 12 (by decide +kernel) rfl, gw7 146 (by decide +kernel) rfl, ⟨by decide, by decide, by decide +kernel⟩⟩
theorem mi_X12_is : MI yX12_is cX12_is 2 (some .boolean) 1 := ⟨gw6 98 (by decide +kernel) rfl, gwm 39 (by decide +kernel) rfl, gw1 12 (by decide +kernel) rfl, gw6 99 (by decide +kernel) rfl, ⟨by decide, by decide, by decide +kernel⟩⟩
theorem ms_X12_isDigit : MS yX12_isDigit cX12_isDigit 1 (some .boolean) 1 := ⟨gw6 90 (by decide +kernel) rfl, gw1 12 (by decide +kernel) rfl, gw6 91 (by decide +kernel) rfl, ⟨by decide, by decide, by decide +kernel⟩⟩
theorem ms_X12_isLetter : MS yX12_isLetter cX12_isLetter 1 (some .boolean) 1 := ⟨gw6 87 (by decide +kernel) rfl, gw1 12 (by decide +kernel) rfl, gw6 88 (by decide +kernel) rfl, ⟨by decide, by decide, by decide +kernel⟩⟩
theorem ms_X12_isLong : MS yX12_isLong cX12_isLong 1 (some .boolean) 1 := ⟨gw7 34 (by decide +kernel) rfl, gw1 12 (by decide +kernel) rfl, gw7 35 (by decide +kernel) rfl, ⟨by decide, by decide, by decide +kernel⟩⟩
theorem mi_X12_isPattern : MI yX12_isPattern cX12_isPattern 2 (some .boolean) 1 := ⟨gw6 193 (by decide +kernel) rfl, gwm 59 (by decide +kernel) rfl, gw1 12 (by decide +kernel) rfl, gw6 194 (by decide +kernel) rfl, ⟨by decide, by decide, by decide +kernel⟩⟩
theorem ms_X12_isSome : MS yX12_isSome cX12_isSome 1 (some .boolean) 1 := ⟨gw7 188 (by decide +kernel) rfl, gw1 12 (by decide +kernel) rfl, gw7 189 (by decide +kernel) rfl, ⟨by decide, by decide, by decide +kernel⟩⟩
theorem mi_X12_isThing : MI yX12_isThing cX12_isThing 2 (some .boolean) 1 := ⟨gw6 182 (by decide +kernel) rfl, gwm 58 (by decide +kernel) rfl, gw1 12 (by decide +kernel) rfl, gw6 183 (by decide +kernel) rfl, ⟨by decide, by decide, by decide +kernel⟩⟩
theorem mi_X12_isThrown : MI yX12_isThrown cX12_isThrown 5 none 4 := ⟨gw7 74 (by decide +kernel) rfl, gwm 81 (by decide +kernel) rfl, gw1 12 (by decide +kernel) rfl, gw7 75 (by decide +kernel) rfl, ⟨by decide, by decide, by decide +kernel⟩⟩
theorem mi_X12_isTurned : MI yX12_isTurned cX12_isTurned 5 (some .boolean) 3 := ⟨gw7 109 (by decide +kernel) rfl, gwm 85 (by decide +kernel) rfl, gw1 12 (by decide +kernel) rfl, gw7 110 (by decide +kernel) rfl, ⟨by decide, by decide, by decide +kernel⟩⟩
theorem mi_X12_joined : MI yX12_joined cX12_joined 4 (some .int) 3 := ⟨gw7 100 (by decide +kernel) rfl, gw7 101 (by decide +kernel) rfl, gw1 12 (by decide +kernel) rfl, gw7 102 (by decide +kernel) rfl, ⟨by decide, by decide, by decide +kernel⟩⟩
theorem mi_X12_keeps : MI yX12_keeps cX12_keeps 5 (some .int) 0 := ⟨gw7 94 (by decide +kernel) rfl, gwm 84 (by decide +kernel) rfl, gw1 12 (by decide +kernel) rfl, gw7 95 (by decide +kernel) rfl, ⟨by decide, by decide, by decide +kernel⟩⟩
theorem mi_X12_keepsOf : MI yX12_keepsOf cX12_keepsOf 2 (some .int) 1 := ⟨gw7 86 (by decide +kernel) rfl, gwm 82 (by decide +kernel) rfl, gw1 12 (by decide +kernel) rfl, gw7 87 (by decide +kernel) rfl, ⟨by decide, by decide, by decide +kernel⟩⟩
theorem mi_X12_keepsRow : MI yX12_keepsRow cX12_keepsRow 2 none 0 := ⟨gw5 98 (by decide +kernel) rfl, gwm 33 (by decide +kernel) rfl, gw1 12 (by decide +kernel) rfl, gw5 99 (by decide +kernel) rfl, ⟨by decide, by decide, by decide +kernel⟩⟩
theorem mi_X12_lands : MI yX12_lands cX12_lands 3 (some .int) 0 := ⟨gw7 124 (by decide +kernel) rfl, gw7 125 (by decide +kernel) rfl, gw1 12 (by decide +kernel) rfl, gw7 126 (by decide +kernel) rfl, ⟨by decide, by decide, by decide +kernel⟩⟩
theorem mi_X12_landsAt : MI yX12_landsAt cX12_landsAt 4 (some .int) 1 := ⟨gw7 129 (by decide +kernel) rfl, gwm 86 (by decide +kernel) rfl, gw1 12 (by decide +kernel) rfl, gw7 130 (by decide +kernel) rfl, ⟨by decide, by decide, by decide +kernel⟩⟩
theorem mi_X12_lawTells : MI yX12_lawTells cX12_lawTells 7 (some .int) 2 := ⟨gw6 228 (by decide +kernel) rfl, gwm 66 (by decide +kernel) rfl, gw1 12 (by decide +kernel) rfl, gw6 229 (by decide +kernel) rfl, ⟨by decide, by decide, by decide +kernel⟩⟩
theorem mi_X12_lengthOf : MI yX12_lengthOf cX12_lengthOf 2 (some .int) 1 := ⟨gw6 197 (by decide +kernel) rfl, gwm 60 (by decide +kernel) rfl, gw1 12 (by decide +kernel) rfl, gw6 198 (by decide +kernel) rfl, ⟨by decide, by decide, by decide +kernel⟩⟩
theorem mi_X12_light : MI yX12_light cX12_light 6 (some .int) 2 := ⟨gw7 207 (by decide +kernel) rfl, gw7 208 (by decide +kernel) rfl, gw1 12 (by decide +kernel) rfl, gw7 209 (by decide +kernel) rfl, ⟨by decide, by decide, by decide +kernel⟩⟩
theorem mi_X12_limit : MI yX12_limit cX12_limit 3 (some .int) 1 := ⟨gw7 180 (by decide +kernel) rfl, gw7 181 (by decide +kernel) rfl, gw1 12 (by decide +kernel) rfl, gw7 182 (by decide +kernel) rfl, ⟨by decide, by decide, by decide +kernel⟩⟩
theorem mi_X12_load : MI yX12_load cX12_load 4 (some .int) 1 := ⟨gw7 191 (by decide +kernel) rfl, gw7 192 (by decide +kernel) rfl, gw1 12 (by decide +kernel) rfl, gw7 193 (by decide +kernel) rfl, ⟨by decide, by decide, by decide +kernel⟩⟩
theorem mi_X12_looksAt : MI yX12_looksAt cX12_looksAt 4 none 3 := ⟨gw6 224 (by decide +kernel) rfl, gwm 65 (by decide +kernel) rfl, gw1 12 (by decide +kernel) rfl, gw6 225 (by decide +kernel) rfl, ⟨by decide, by decide, by decide +kernel⟩⟩
theorem mi_X12_lotNow : MI yX12_lotNow cX12_lotNow 1 (some .int) 0 := ⟨gw7 66 (by decide +kernel) rfl, gwm 80 (by decide +kernel) rfl, gw1 12 (by decide +kernel) rfl, gw7 67 (by decide +kernel) rfl, ⟨by decide, by decide, by decide +kernel⟩⟩
theorem ms_X12_mixed : MS yX12_mixed cX12_mixed 3 (some .int) 2 := ⟨gw7 69 (by decide +kernel) rfl, gw1 12 (by decide +kernel) rfl, gw7 70 (by decide +kernel) rfl, ⟨by decide, by decide, by decide +kernel⟩⟩
theorem mi_X12_must : MI yX12_must cX12_must 2 none 1 := ⟨gw6 126 (by decide +kernel) rfl, gwm 46 (by decide +kernel) rfl, gw1 12 (by decide +kernel) rfl, gw6 127 (by decide +kernel) rfl, ⟨by decide, by decide, by decide +kernel⟩⟩
theorem mi_X12_named : MI yX12_named cX12_named 3 (some .int) 0 := ⟨gw6 122 (by decide +kernel) rfl, gwm 45 (by decide +kernel) rfl, gw1 12 (by decide +kernel) rfl, gw6 123 (by decide +kernel) rfl, ⟨by decide, by decide, by decide +kernel⟩⟩
theorem ms_X12_nextOf : MS yX12_nextOf cX12_nextOf 2 (some .int) 2 := ⟨gw7 157 (by decide +kernel) rfl, gw1 12 (by decide +kernel) rfl, gw7 158 (by decide +kernel) rfl, ⟨by decide, by decide, by decide +kernel⟩⟩
theorem mi_X12_orbits : MI yX12_orbits cX12_orbits 6 (some .int) 1 := ⟨gw7 116 (by decide +kernel) rfl, gw7 117 (by decide +kernel) rfl, gw1 12 (by decide +kernel) rfl, gw7 118 (by decide +kernel) rfl, ⟨by decide, by decide, by decide +kernel⟩⟩
theorem mi_X12_order : MI yX12_order cX12_order 4 (some .int) 1 := ⟨gw7 199 (by decide +kernel) rfl, gw7 200 (by decide +kernel) rfl, gw1 12 (by decide +kernel) rfl, gw7 201 (by decide +kernel) rfl, ⟨by decide, by decide, by decide +kernel⟩⟩
theorem mi_X12_pattern : MI yX12_pattern cX12_pattern 3 (some .int) 2 := ⟨gw6 188 (by decide +kernel) rfl, gw6 189 (by decide +kernel) rfl, gw1 12 (by decide +kernel) rfl, gw6 190 (by decide +kernel) rfl, ⟨by decide, by decide, by decide +kernel⟩⟩
theorem mi_X12_paysOf : MI yX12_paysOf cX12_paysOf 3 (some .int) 2 := ⟨gw7 7 (by decide +kernel) rfl, gwm 70 (by decide +kernel) rfl, gw1 12 (by decide +kernel) rfl, gw7 8 (by decide +kernel) rfl, ⟨by decide, by decide, by decide +kernel⟩⟩
theorem mi_X12_place : MI yX12_place cX12_place 1 (some .int) 0 := ⟨gw6 173 (by decide +kernel) rfl, gw6 174 (by decide +kernel) rfl, gw1 12 (by decide +kernel) rfl, gw6 175 (by decide +kernel) rfl, ⟨by decide, by decide, by decide +kernel⟩⟩
theorem mi_X12_plain : MI yX12_plain cX12_plain 3 none 1 := ⟨gw5 83 (by decide +kernel) rfl, gwm 31 (by decide +kernel) rfl, gw1 12 (by decide +kernel) rfl, gw5 84 (by decide +kernel) rfl, ⟨by decide, by decide, by decide +kernel⟩⟩
theorem mi_X12_put : MI yX12_put cX12_put 3 none 1 := ⟨gw6 64 (by decide +kernel) rfl, gwm 34 (by decide +kernel) rfl, gw1 12 (by decide +kernel) rfl, gw6 65 (by decide +kernel) rfl, ⟨by decide, by decide, by decide +kernel⟩⟩
theorem mi_X12_read : MI yX12_read cX12_read 2 (some .int) 0 := ⟨gw6 71 (by decide +kernel) rfl, gw6 72 (by decide +kernel) rfl, gw1 12 (by decide +kernel) rfl, gw6 73 (by decide +kernel) rfl, ⟨by decide, by decide, by decide +kernel⟩⟩
theorem mi_X12_records : MI yX12_records cX12_records 2 none 0 := ⟨gw7 15 (by decide +kernel) rfl, gwm 71 (by decide +kernel) rfl, gw1 12 (by decide +kernel) rfl, gw7 16 (by decide +kernel) rfl, ⟨by decide, by decide, by decide +kernel⟩⟩
theorem mi_X12_restore : MI yX12_restore cX12_restore 3 (some .boolean) 1 := ⟨gw8 12 (by decide +kernel) rfl, gw8 13 (by decide +kernel) rfl, gw1 12 (by decide +kernel) rfl, gw8 14 (by decide +kernel) rfl, ⟨by decide, by decide, by decide +kernel⟩⟩
theorem mi_X12_room : MI yX12_room cX12_room 3 (some .int) 1 := ⟨gw7 168 (by decide +kernel) rfl, gw7 169 (by decide +kernel) rfl, gw1 12 (by decide +kernel) rfl, gw7 170 (by decide +kernel) rfl, ⟨by decide, by decide, by decide +kernel⟩⟩
theorem mi_X12_roomFor : MI yX12_roomFor cX12_roomFor 3 none 2 := ⟨gw6 106 (by decide +kernel) rfl, gwm 41 (by decide +kernel) rfl, gw1 12 (by decide +kernel) rfl, gw6 107 (by decide +kernel) rfl, ⟨by decide, by decide, by decide +kernel⟩⟩
theorem mi_X12_rule : MI yX12_rule cX12_rule 4 (some .int) 1 := ⟨gw7 211 (by decide +kernel) rfl, gw7 212 (by decide +kernel) rfl, gw1 12 (by decide +kernel) rfl, gw7 213 (by decide +kernel) rfl, ⟨by decide, by decide, by decide +kernel⟩⟩
theorem mi_X12_set : MI yX12_set cX12_set 2 (some .boolean) 1 := ⟨gw7 26 (by decide +kernel) rfl, gw7 27 (by decide +kernel) rfl, gw1 12 (by decide +kernel) rfl, gw7 28 (by decide +kernel) rfl, ⟨by decide, by decide, by decide +kernel⟩⟩
theorem mi_X12_sign : MI yX12_sign cX12_sign 5 (some .int) 3 := ⟨gw6 94 (by decide +kernel) rfl, gwm 38 (by decide +kernel) rfl, gw1 12 (by decide +kernel) rfl, gw6 95 (by decide +kernel) rfl, ⟨by decide, by decide, by decide +kernel⟩⟩
theorem mi_X12_span : MI yX12_span cX12_span 4 (some .int) 1 := ⟨gw7 112 (by decide +kernel) rfl, gw7 113 (by decide +kernel) rfl, gw1 12 (by decide +kernel) rfl, gw7 114 (by decide +kernel) rfl, ⟨by decide, by decide, by decide +kernel⟩⟩
theorem mi_X12_swaps : MI yX12_swaps cX12_swaps 5 (some .int) 1 := ⟨gw7 120 (by decide +kernel) rfl, gw7 121 (by decide +kernel) rfl, gw1 12 (by decide +kernel) rfl, gw7 122 (by decide +kernel) rfl, ⟨by decide, by decide, by decide +kernel⟩⟩
theorem mi_X12_takesPattern : MI yX12_takesPattern cX12_takesPattern 4 none 2 := ⟨gw7 90 (by decide +kernel) rfl, gwm 83 (by decide +kernel) rfl, gw1 12 (by decide +kernel) rfl, gw7 91 (by decide +kernel) rfl, ⟨by decide, by decide, by decide +kernel⟩⟩
theorem mi_X12_tell : MI yX12_tell cX12_tell 3 (some .int) 2 := ⟨gw7 228 (by decide +kernel) rfl, gw7 229 (by decide +kernel) rfl, gw1 12 (by decide +kernel) rfl, gw7 230 (by decide +kernel) rfl, ⟨by decide, by decide, by decide +kernel⟩⟩
theorem mi_X12_tellLaw : MI yX12_tellLaw cX12_tellLaw 4 none 1 := ⟨gw6 150 (by decide +kernel) rfl, gwm 52 (by decide +kernel) rfl, gw1 12 (by decide +kernel) rfl, gw6 151 (by decide +kernel) rfl, ⟨by decide, by decide, by decide +kernel⟩⟩
theorem mi_X12_tellOne : MI yX12_tellOne cX12_tellOne 2 none 0 := ⟨gw6 102 (by decide +kernel) rfl, gwm 40 (by decide +kernel) rfl, gw1 12 (by decide +kernel) rfl, gw6 103 (by decide +kernel) rfl, ⟨by decide, by decide, by decide +kernel⟩⟩
theorem mi_X12_tellPattern : MI yX12_tellPattern cX12_tellPattern 3 none 0 := ⟨gw6 142 (by decide +kernel) rfl, gwm 50 (by decide +kernel) rfl, gw1 12 (by decide +kernel) rfl, gw6 143 (by decide +kernel) rfl, ⟨by decide, by decide, by decide +kernel⟩⟩
theorem mi_X12_tellThing : MI yX12_tellThing cX12_tellThing 3 none 0 := ⟨gw6 118 (by decide +kernel) rfl, gwm 44 (by decide +kernel) rfl, gw1 12 (by decide +kernel) rfl, gw6 119 (by decide +kernel) rfl, ⟨by decide, by decide, by decide +kernel⟩⟩
theorem mi_X12_tells : MI yX12_tells cX12_tells 5 (some .int) 3 := ⟨gw6 204 (by decide +kernel) rfl, gw6 205 (by decide +kernel) rfl, gw1 12 (by decide +kernel) rfl, gw6 206 (by decide +kernel) rfl, ⟨by decide, by decide, by decide +kernel⟩⟩
theorem mi_X12_term : MI yX12_term cX12_term 1 none 0 := ⟨gw6 170 (by decide +kernel) rfl, gwm 57 (by decide +kernel) rfl, gw1 12 (by decide +kernel) rfl, gw6 171 (by decide +kernel) rfl, ⟨by decide, by decide, by decide +kernel⟩⟩
theorem mi_X12_termOf : MI yX12_termOf cX12_termOf 8 (some .int) 2 := ⟨gw6 232 (by decide +kernel) rfl, gwm 67 (by decide +kernel) rfl, gw1 12 (by decide +kernel) rfl, gw6 233 (by decide +kernel) rfl, ⟨by decide, by decide, by decide +kernel⟩⟩
theorem mi_X12_then : MI yX12_then cX12_then 3 (some .int) 2 := ⟨gw7 220 (by decide +kernel) rfl, gw7 221 (by decide +kernel) rfl, gw1 12 (by decide +kernel) rfl, gw7 222 (by decide +kernel) rfl, ⟨by decide, by decide, by decide +kernel⟩⟩
theorem mi_X12_thing : MI yX12_thing cX12_thing 3 (some .int) 2 := ⟨gw6 177 (by decide +kernel) rfl, gw6 178 (by decide +kernel) rfl, gw1 12 (by decide +kernel) rfl, gw6 179 (by decide +kernel) rfl, ⟨by decide, by decide, by decide +kernel⟩⟩
theorem mi_X12_thingsSo : MI yX12_thingsSo cX12_thingsSo 4 (some .int) 1 := ⟨gw6 213 (by decide +kernel) rfl, gwm 63 (by decide +kernel) rfl, gw1 12 (by decide +kernel) rfl, gw6 214 (by decide +kernel) rfl, ⟨by decide, by decide, by decide +kernel⟩⟩
theorem mi_X12_throwIn : MI yX12_throwIn cX12_throwIn 3 (some .boolean) 2 := ⟨gw7 10 (by decide +kernel) rfl, gw7 11 (by decide +kernel) rfl, gw1 12 (by decide +kernel) rfl, gw7 12 (by decide +kernel) rfl, ⟨by decide, by decide, by decide +kernel⟩⟩
theorem mi_X12_tiresBy : MI yX12_tiresBy cX12_tiresBy 4 (some .int) 3 := ⟨gw6 220 (by decide +kernel) rfl, gwm 64 (by decide +kernel) rfl, gw1 12 (by decide +kernel) rfl, gw6 221 (by decide +kernel) rfl, ⟨by decide, by decide, by decide +kernel⟩⟩
theorem mi_X12_token : MI yX12_token cX12_token 6 none 4 := ⟨gw6 84 (by decide +kernel) rfl, gwm 37 (by decide +kernel) rfl, gw1 12 (by decide +kernel) rfl, gw6 85 (by decide +kernel) rfl, ⟨by decide, by decide, by decide +kernel⟩⟩
theorem ms_X12_told : MS yX12_told cX12_told 2 (some .int) 2 := ⟨gw7 97 (by decide +kernel) rfl, gw1 12 (by decide +kernel) rfl, gw7 98 (by decide +kernel) rfl, ⟨by decide, by decide, by decide +kernel⟩⟩
theorem mi_X12_toldInt : MI yX12_toldInt cX12_toldInt 4 (some .int) 2 := ⟨gw6 146 (by decide +kernel) rfl, gwm 51 (by decide +kernel) rfl, gw1 12 (by decide +kernel) rfl, gw6 147 (by decide +kernel) rfl, ⟨by decide, by decide, by decide +kernel⟩⟩
theorem mi_X12_turned : MI yX12_turned cX12_turned 4 (some .int) 2 := ⟨gw7 104 (by decide +kernel) rfl, gw7 105 (by decide +kernel) rfl, gw1 12 (by decide +kernel) rfl, gw7 106 (by decide +kernel) rfl, ⟨by decide, by decide, by decide +kernel⟩⟩
theorem mi_X12_undo : MI yX12_undo cX12_undo 2 (some .boolean) 0 := ⟨gw7 77 (by decide +kernel) rfl, gw7 78 (by decide +kernel) rfl, gw1 12 (by decide +kernel) rfl, gw7 79 (by decide +kernel) rfl, ⟨by decide, by decide, by decide +kernel⟩⟩
theorem mi_X12_unit : MI yX12_unit cX12_unit 1 none 0 := ⟨gw6 158 (by decide +kernel) rfl, gwm 54 (by decide +kernel) rfl, gw1 12 (by decide +kernel) rfl, gw6 159 (by decide +kernel) rfl, ⟨by decide, by decide, by decide +kernel⟩⟩
theorem mi_X12_use : MI yX12_use cX12_use 2 (some .boolean) 1 := ⟨gw7 18 (by decide +kernel) rfl, gw7 19 (by decide +kernel) rfl, gw1 12 (by decide +kernel) rfl, gw7 20 (by decide +kernel) rfl, ⟨by decide, by decide, by decide +kernel⟩⟩
theorem mi_X12_uses : MI yX12_uses cX12_uses 2 none 1 := ⟨gw7 23 (by decide +kernel) rfl, gwm 72 (by decide +kernel) rfl, gw1 12 (by decide +kernel) rfl, gw7 24 (by decide +kernel) rfl, ⟨by decide, by decide, by decide +kernel⟩⟩
theorem mi_X12_watch : MI yX12_watch cX12_watch 9 (some .int) 1 := ⟨gw8 4 (by decide +kernel) rfl, gw8 5 (by decide +kernel) rfl, gw1 12 (by decide +kernel) rfl, gw8 6 (by decide +kernel) rfl, ⟨by decide, by decide, by decide +kernel⟩⟩
theorem mi_X12_ways : MI yX12_ways cX12_ways 10 (some .int) 4 := ⟨gw7 203 (by decide +kernel) rfl, gw7 204 (by decide +kernel) rfl, gw1 12 (by decide +kernel) rfl, gw7 205 (by decide +kernel) rfl, ⟨by decide, by decide, by decide +kernel⟩⟩
theorem mi_X12_weightsOf : MI yX12_weightsOf cX12_weightsOf 4 (some .int) 1 := ⟨gw8 21 (by decide +kernel) rfl, gwm 94 (by decide +kernel) rfl, gw1 12 (by decide +kernel) rfl, gw8 22 (by decide +kernel) rfl, ⟨by decide, by decide, by decide +kernel⟩⟩
theorem ms_X12_word : MS yX12_word cX12_word 7 (some .long) 7 := ⟨gw5 86 (by decide +kernel) rfl, gw1 12 (by decide +kernel) rfl, gw5 87 (by decide +kernel) rfl, ⟨by decide, by decide, by decide +kernel⟩⟩
theorem mi_X12_wrong : MI yX12_wrong cX12_wrong 4 none 2 := ⟨gw6 130 (by decide +kernel) rfl, gwm 47 (by decide +kernel) rfl, gw1 12 (by decide +kernel) rfl, gw6 131 (by decide +kernel) rfl, ⟨by decide, by decide, by decide +kernel⟩⟩
theorem mi_X12_year : MI yX12_year cX12_year 5 (some .int) 2 := ⟨gw7 224 (by decide +kernel) rfl, gw7 225 (by decide +kernel) rfl, gw1 12 (by decide +kernel) rfl, gw7 226 (by decide +kernel) rfl, ⟨by decide, by decide, by decide +kernel⟩⟩
theorem ms_J11_highSurrogate_5068e : MS yJ11_highSurrogate_5068e cJ11_highSurrogate_5068e 1 (some .char) 1 := ⟨gw3 85 (by decide +kernel) rfl, gw1 18 (by decide +kernel) rfl, gw3 86 (by decide +kernel) rfl, ⟨by decide, by decide, by decide +kernel⟩⟩
theorem ms_J11_isValidCodePoint_9a6ad : MS yJ11_isValidCodePoint_9a6ad cJ11_isValidCodePoint_9a6ad 2 (some .boolean) 1 := ⟨gw3 82 (by decide +kernel) rfl, gw1 18 (by decide +kernel) rfl, gw3 83 (by decide +kernel) rfl, ⟨by decide, by decide, by decide +kernel⟩⟩
theorem ms_J11_lowSurrogate_5068e : MS yJ11_lowSurrogate_5068e cJ11_lowSurrogate_5068e 1 (some .char) 1 := ⟨gw3 89 (by decide +kernel) rfl, gw1 18 (by decide +kernel) rfl, gw3 90 (by decide +kernel) rfl, ⟨by decide, by decide, by decide +kernel⟩⟩
theorem ms_J6_bitCount_0f7a4 : MS yJ6_bitCount_0f7a4 cJ6_bitCount_0f7a4 1 (some .int) 1 := ⟨gw3 204 (by decide +kernel) rfl, gw1 21 (by decide +kernel) rfl, gw3 205 (by decide +kernel) rfl, ⟨by decide, by decide, by decide +kernel⟩⟩
theorem ms_J9_floorMod_7cf53 : MS yJ9_floorMod_7cf53 cJ9_floorMod_7cf53 3 (some .int) 2 := ⟨gw4 6 (by decide +kernel) rfl, gw1 17 (by decide +kernel) rfl, gw4 7 (by decide +kernel) rfl, ⟨by decide, by decide, by decide +kernel⟩⟩
theorem ms_J9_max_7cf53 : MS yJ9_max_7cf53 cJ9_max_7cf53 2 (some .int) 2 := ⟨gw3 49 (by decide +kernel) rfl, gw1 17 (by decide +kernel) rfl, gw3 50 (by decide +kernel) rfl, ⟨by decide, by decide, by decide +kernel⟩⟩
theorem ms_J9_min_7cf53 : MS yJ9_min_7cf53 cJ9_min_7cf53 2 (some .int) 2 := ⟨gw3 52 (by decide +kernel) rfl, gw1 17 (by decide +kernel) rfl, gw3 53 (by decide +kernel) rfl, ⟨by decide, by decide, by decide +kernel⟩⟩
theorem mi_J0_charAt_5068e : MI yJ0_charAt_5068e cJ0_charAt_5068e 2 (some .char) 1 := ⟨gw2 227 (by decide +kernel) rfl, gw2 228 (by decide +kernel) rfl, gw1 13 (by decide +kernel) rfl, gw2 229 (by decide +kernel) rfl, ⟨by decide, by decide, by decide +kernel⟩⟩
theorem ms_J0_checkBoundsBeginEnd_23922 : MS yJ0_checkBoundsBeginEnd_23922 cJ0_checkBoundsBeginEnd_23922 3 none 3 := ⟨gw3 70 (by decide +kernel) rfl, gw1 13 (by decide +kernel) rfl, gw3 71 (by decide +kernel) rfl, ⟨by decide, by decide, by decide +kernel⟩⟩
theorem ms_J0_checkIndex_df160 : MS yJ0_checkIndex_df160 cJ0_checkIndex_df160 2 none 2 := ⟨gw2 238 (by decide +kernel) rfl, gw1 13 (by decide +kernel) rfl, gw2 239 (by decide +kernel) rfl, ⟨by decide, by decide, by decide +kernel⟩⟩
theorem mi_J0_coder_7d493 : MI yJ0_coder_7d493 cJ0_coder_7d493 1 (some .byte) 0 := ⟨gw2 221 (by decide +kernel) rfl, gw2 222 (by decide +kernel) rfl, gw1 13 (by decide +kernel) rfl, gw2 223 (by decide +kernel) rfl, ⟨by decide, by decide, by decide +kernel⟩⟩
theorem mi_J0_indexOf_0f7a4 : MI yJ0_indexOf_0f7a4 cJ0_indexOf_0f7a4 2 (some .int) 1 := ⟨gw3 34 (by decide +kernel) rfl, gw3 35 (by decide +kernel) rfl, gw1 13 (by decide +kernel) rfl, gw3 36 (by decide +kernel) rfl, ⟨by decide, by decide, by decide +kernel⟩⟩
theorem mi_J0_indexOf_7cf53 : MI yJ0_indexOf_7cf53 cJ0_indexOf_7cf53 3 (some .int) 2 := ⟨gw3 38 (by decide +kernel) rfl, gw3 39 (by decide +kernel) rfl, gw1 13 (by decide +kernel) rfl, gw3 40 (by decide +kernel) rfl, ⟨by decide, by decide, by decide +kernel⟩⟩
theorem mi_J0_isLatin1_aae02 : MI yJ0_isLatin1_aae02 cJ0_isLatin1_aae02 1 (some .boolean) 0 := ⟨gw2 231 (by decide +kernel) rfl, gw2 232 (by decide +kernel) rfl, gw1 13 (by decide +kernel) rfl, gw2 233 (by decide +kernel) rfl, ⟨by decide, by decide, by decide +kernel⟩⟩
theorem mi_J0_length_8abf5 : MI yJ0_length_8abf5 cJ0_length_8abf5 1 (some .int) 0 := ⟨gw2 217 (by decide +kernel) rfl, gw2 218 (by decide +kernel) rfl, gw1 13 (by decide +kernel) rfl, gw2 219 (by decide +kernel) rfl, ⟨by decide, by decide, by decide +kernel⟩⟩
theorem ms_J1_canEncode_9a6ad : MS yJ1_canEncode_9a6ad cJ1_canEncode_9a6ad 1 (some .boolean) 1 := ⟨gw3 46 (by decide +kernel) rfl, gw1 14 (by decide +kernel) rfl, gw3 47 (by decide +kernel) rfl, ⟨by decide, by decide, by decide +kernel⟩⟩
theorem ms_J1_charAt_3b067 : MS yJ1_charAt_3b067 cJ1_charAt_3b067 2 (some .char) 2 := ⟨gw2 235 (by decide +kernel) rfl, gw1 14 (by decide +kernel) rfl, gw2 236 (by decide +kernel) rfl, ⟨by decide, by decide, by decide +kernel⟩⟩
theorem ms_J1_indexOf_4cfef : MS yJ1_indexOf_4cfef cJ1_indexOf_4cfef 4 (some .int) 4 := ⟨gw3 43 (by decide +kernel) rfl, gw1 14 (by decide +kernel) rfl, gw3 44 (by decide +kernel) rfl, ⟨by decide, by decide, by decide +kernel⟩⟩
theorem ms_J1_indexOfChar_4cfef : MS yJ1_indexOfChar_4cfef cJ1_indexOfChar_4cfef 6 (some .int) 4 := ⟨gw3 55 (by decide +kernel) rfl, gw1 14 (by decide +kernel) rfl, gw3 56 (by decide +kernel) rfl, ⟨by decide, by decide, by decide +kernel⟩⟩
theorem ms_J2_charAt_3b067 : MS yJ2_charAt_3b067 cJ2_charAt_3b067 2 (some .char) 2 := ⟨gw3 6 (by decide +kernel) rfl, gw1 16 (by decide +kernel) rfl, gw3 7 (by decide +kernel) rfl, ⟨by decide, by decide, by decide +kernel⟩⟩
theorem ms_J2_checkBoundsBeginEnd_d044e : MS yJ2_checkBoundsBeginEnd_d044e cJ2_checkBoundsBeginEnd_d044e 3 none 3 := ⟨gw3 67 (by decide +kernel) rfl, gw1 16 (by decide +kernel) rfl, gw3 68 (by decide +kernel) rfl, ⟨by decide, by decide, by decide +kernel⟩⟩
theorem ms_J2_checkIndex_2214a : MS yJ2_checkIndex_2214a cJ2_checkIndex_2214a 2 none 2 := ⟨gw3 9 (by decide +kernel) rfl, gw1 16 (by decide +kernel) rfl, gw3 10 (by decide +kernel) rfl, ⟨by decide, by decide, by decide +kernel⟩⟩
theorem ms_J2_getChar_3b067 : MS yJ2_getChar_3b067 cJ2_getChar_3b067 2 (some .char) 2 := ⟨gw3 16 (by decide +kernel) rfl, gw1 16 (by decide +kernel) rfl, gw3 17 (by decide +kernel) rfl, ⟨by decide, by decide, by decide +kernel⟩⟩
theorem ms_J2_indexOf_4cfef : MS yJ2_indexOf_4cfef cJ2_indexOf_4cfef 4 (some .int) 4 := ⟨gw3 58 (by decide +kernel) rfl, gw1 16 (by decide +kernel) rfl, gw3 59 (by decide +kernel) rfl, ⟨by decide, by decide, by decide +kernel⟩⟩
theorem ms_J2_indexOfChar_4cfef : MS yJ2_indexOfChar_4cfef cJ2_indexOfChar_4cfef 4 (some .int) 4 := ⟨gw3 64 (by decide +kernel) rfl, gw1 16 (by decide +kernel) rfl, gw3 65 (by decide +kernel) rfl, ⟨by decide, by decide, by decide +kernel⟩⟩
theorem ms_J2_indexOfCharUnsafe_4cfef : MS yJ2_indexOfCharUnsafe_4cfef cJ2_indexOfCharUnsafe_4cfef 5 (some .int) 4 := ⟨gw3 76 (by decide +kernel) rfl, gw1 16 (by decide +kernel) rfl, gw3 77 (by decide +kernel) rfl, ⟨by decide, by decide, by decide +kernel⟩⟩
theorem ms_J2_indexOfSupplementary_4cfef : MS yJ2_indexOfSupplementary_4cfef cJ2_indexOfSupplementary_4cfef 7 (some .int) 4 := ⟨gw3 79 (by decide +kernel) rfl, gw1 16 (by decide +kernel) rfl, gw3 80 (by decide +kernel) rfl, ⟨by decide, by decide, by decide +kernel⟩⟩
theorem ms_J2_length_9d52b : MS yJ2_length_9d52b cJ2_length_9d52b 1 (some .int) 1 := ⟨gw3 12 (by decide +kernel) rfl, gw1 16 (by decide +kernel) rfl, gw3 13 (by decide +kernel) rfl, ⟨by decide, by decide, by decide +kernel⟩⟩
theorem ms_J7_fill_53178 : MS yJ7_fill_53178 cJ7_fill_53178 4 none 2 := ⟨gw3 154 (by decide +kernel) rfl, gw1 19 (by decide +kernel) rfl, gw3 155 (by decide +kernel) rfl, ⟨by decide, by decide, by decide +kernel⟩⟩
theorem ms_J3_checkFromToIndex_8c36e : MS yJ3_checkFromToIndex_8c36e cJ3_checkFromToIndex_8c36e 4 (some .int) 4 := ⟨gw3 73 (by decide +kernel) rfl, gw1 15 (by decide +kernel) rfl, gw3 74 (by decide +kernel) rfl, ⟨by decide, by decide, by decide +kernel⟩⟩
theorem ms_J3_checkIndex_8e157 : MS yJ3_checkIndex_8e157 cJ3_checkIndex_8e157 3 (some .int) 3 := ⟨gw3 3 (by decide +kernel) rfl, gw1 15 (by decide +kernel) rfl, gw3 4 (by decide +kernel) rfl, ⟨by decide, by decide, by decide +kernel⟩⟩
theorem ml_RX11_25 : Cond.methodLink RX11 25 yX5_init ∈ gw_tbl := gw1 133 (by decide +kernel) rfl
theorem ml_RX11_81 : Cond.methodLink RX11 81 yX10_init ∈ gw_tbl := gw2 45 (by decide +kernel) rfl
theorem ml_RX11_99 : Cond.methodLink RX11 99 yX9_append ∈ gw_tbl := gw2 175 (by decide +kernel) rfl
theorem ml_RX11_103 : Cond.methodLink RX11 103 yX6_readInto ∈ gw_tbl := gw2 187 (by decide +kernel) rfl
theorem ml_RX11_107 : Cond.methodLink RX11 107 yX11_beginAnew ∈ gw_tbl := gw3 145 (by decide +kernel) rfl
theorem ml_RX11_110 : Cond.methodLink RX11 110 yX0_begin ∈ gw_tbl := gw3 149 (by decide +kernel) rfl
theorem ml_RX11_114 : Cond.methodLink RX11 114 yX5_clear ∈ gw_tbl := gw3 159 (by decide +kernel) rfl
theorem ml_RX11_121 : Cond.methodLink RX11 121 yX10_hasThing ∈ gw_tbl := gw3 172 (by decide +kernel) rfl
theorem ml_RX11_134 : Cond.methodLink RX11 134 yX0_isUp ∈ gw_tbl := gw3 176 (by decide +kernel) rfl
theorem ml_RX11_143 : Cond.methodLink RX11 143 yX10_hasPattern ∈ gw_tbl := gw3 184 (by decide +kernel) rfl
theorem ml_RX11_153 : Cond.methodLink RX11 153 yX11_isHeight ∈ gw_tbl := gw3 192 (by decide +kernel) rfl
theorem ml_RX11_156 : Cond.methodLink RX11 156 yX0_howManyUp ∈ gw_tbl := gw3 195 (by decide +kernel) rfl
theorem ml_RX11_160 : Cond.methodLink RX11 160 yX4_lookAt ∈ gw_tbl := gw3 209 (by decide +kernel) rfl
theorem ml_RX11_164 : Cond.methodLink RX11 164 yX4_asks ∈ gw_tbl := gw3 213 (by decide +kernel) rfl
theorem ml_RX11_180 : Cond.methodLink RX11 180 yX0_bitsOf ∈ gw_tbl := gw3 239 (by decide +kernel) rfl
theorem ml_RX11_196 : Cond.methodLink RX11 196 yX0_heightBy ∈ gw_tbl := gw4 0 (by decide +kernel) rfl
theorem ml_RX11_200 : Cond.methodLink RX11 200 yX11_slotsHeld ∈ gw_tbl := gw4 8 (by decide +kernel) rfl
theorem ml_RX11_203 : Cond.methodLink RX11 203 yX11_weightsOf ∈ gw_tbl := gw4 12 (by decide +kernel) rfl
theorem ml_RX11_206 : Cond.methodLink RX11 206 yX5_keep ∈ gw_tbl := gw4 20 (by decide +kernel) rfl
theorem ml_RX11_210 : Cond.methodLink RX11 210 yX0_putUp ∈ gw_tbl := gw4 29 (by decide +kernel) rfl
theorem ml_RX11_214 : Cond.methodLink RX11 214 yX0_takeUp ∈ gw_tbl := gw4 37 (by decide +kernel) rfl
theorem ml_RX11_223 : Cond.methodLink RX11 223 yX4_goOn ∈ gw_tbl := gw4 49 (by decide +kernel) rfl
theorem ml_RX11_226 : Cond.methodLink RX11 226 yX5_giveBack ∈ gw_tbl := gw4 90 (by decide +kernel) rfl
theorem ml_RX11_230 : Cond.methodLink RX11 230 yX0_copy ∈ gw_tbl := gw4 98 (by decide +kernel) rfl
theorem ml_RX11_233 : Cond.methodLink RX11 233 yX11_closingOf ∈ gw_tbl := gw4 107 (by decide +kernel) rfl
theorem ml_RX11_243 : Cond.methodLink RX11 243 yX3_close ∈ gw_tbl := gw4 110 (by decide +kernel) rfl
theorem ml_RX11_249 : Cond.methodLink RX11 249 yX3_kept ∈ gw_tbl := gw4 113 (by decide +kernel) rfl
theorem ml_RX11_253 : Cond.methodLink RX11 253 yX3_turns ∈ gw_tbl := gw4 125 (by decide +kernel) rfl
theorem ml_RX11_257 : Cond.methodLink RX11 257 yX3_highest ∈ gw_tbl := gw4 132 (by decide +kernel) rfl
theorem ml_RX11_260 : Cond.methodLink RX11 260 yX3_rounds ∈ gw_tbl := gw4 140 (by decide +kernel) rfl
theorem ml_RX11_263 : Cond.methodLink RX11 263 yX3_pairsToSwap ∈ gw_tbl := gw4 147 (by decide +kernel) rfl
theorem ml_RX11_266 : Cond.methodLink RX11 266 yX8_find ∈ gw_tbl := gw4 155 (by decide +kernel) rfl
theorem ml_RX11_276 : Cond.methodLink RX11 276 yX0_landingBits ∈ gw_tbl := gw4 174 (by decide +kernel) rfl
theorem ml_RX11_279 : Cond.methodLink RX11 279 yX11_findHands ∈ gw_tbl := gw4 183 (by decide +kernel) rfl
theorem ml_RX11_282 : Cond.methodLink RX11 282 yX0_firstLanding ∈ gw_tbl := gw4 187 (by decide +kernel) rfl
theorem ml_RX11_285 : Cond.methodLink RX11 285 yX4_goOnSafely ∈ gw_tbl := gw4 188 (by decide +kernel) rfl
theorem ml_RX11_289 : Cond.methodLink RX11 289 yX11_firstClash ∈ gw_tbl := gw4 196 (by decide +kernel) rfl
theorem ml_RX11_292 : Cond.methodLink RX11 292 yX0_howManyLand ∈ gw_tbl := gw4 200 (by decide +kernel) rfl
theorem ml_RX11_295 : Cond.methodLink RX11 295 yX0_twoLandAlike ∈ gw_tbl := gw4 216 (by decide +kernel) rfl
theorem ml_RX11_299 : Cond.methodLink RX11 299 yX3_landingBits ∈ gw_tbl := gw4 222 (by decide +kernel) rfl
theorem ml_RX11_301 : Cond.methodLink RX11 301 yX7_find ∈ gw_tbl := gw4 226 (by decide +kernel) rfl
theorem ml_RX11_307 : Cond.methodLink RX11 307 yX11_isSpan ∈ gw_tbl := gw5 3 (by decide +kernel) rfl
theorem ml_RX11_310 : Cond.methodLink RX11 310 yJ7_fill_53178 ∈ gw_tbl := gw5 6 (by decide +kernel) rfl
theorem ml_RX11_317 : Cond.methodLink RX11 317 yX4_inForce ∈ gw_tbl := gw5 16 (by decide +kernel) rfl
theorem ml_RX11_322 : Cond.methodLink RX11 322 yX2_add ∈ gw_tbl := gw5 53 (by decide +kernel) rfl
theorem ml_RX11_326 : Cond.methodLink RX11 326 yX2_agreeing ∈ gw_tbl := gw5 65 (by decide +kernel) rfl
theorem ml_RX11_330 : Cond.methodLink RX11 330 yJ6_bitCount_0f7a4 ∈ gw_tbl := gw5 69 (by decide +kernel) rfl
theorem ml_RX11_335 : Cond.methodLink RX11 335 yJ9_max_7cf53 ∈ gw_tbl := gw5 74 (by decide +kernel) rfl
theorem ml_RX0_34 : Cond.methodLink RX0 34 yJ7_fill_53178 ∈ gw_tbl := gw3 153 (by decide +kernel) rfl
theorem ml_RX0_70 : Cond.methodLink RX0 70 yX0_bitsOf ∈ gw_tbl := gw3 199 (by decide +kernel) rfl
theorem ml_RX0_74 : Cond.methodLink RX0 74 yJ6_bitCount_0f7a4 ∈ gw_tbl := gw3 203 (by decide +kernel) rfl
theorem ml_RX0_79 : Cond.methodLink RX0 79 yX0_landsNow ∈ gw_tbl := gw4 61 (by decide +kernel) rfl
theorem ml_RX0_83 : Cond.methodLink RX0 83 yX0_isUp ∈ gw_tbl := gw4 178 (by decide +kernel) rfl
theorem ml_RX0_86 : Cond.methodLink RX0 86 yX0_landingBits ∈ gw_tbl := gw4 220 (by decide +kernel) rfl
theorem ml_RX0_90 : Cond.methodLink RX0 90 yX0_howManyUp ∈ gw_tbl := gw4 221 (by decide +kernel) rfl
theorem ml_RX0_93 : Cond.methodLink RX0 93 yX10_hasPattern ∈ gw_tbl := gw4 4 (by decide +kernel) rfl
theorem ml_RX0_103 : Cond.methodLink RX0 103 yJ9_floorMod_7cf53 ∈ gw_tbl := gw4 5 (by decide +kernel) rfl
theorem ml_RX1_26 : Cond.methodLink RX1 26 yX1_push ∈ gw_tbl := gw3 221 (by decide +kernel) rfl
theorem ml_RX1_30 : Cond.methodLink RX1 30 yX1_pop ∈ gw_tbl := gw3 225 (by decide +kernel) rfl
theorem ml_RX1_34 : Cond.methodLink RX1 34 yX1_reckon ∈ gw_tbl := gw3 229 (by decide +kernel) rfl
theorem ml_RX3_9 : Cond.methodLink RX3 9 yJ9_max_7cf53 ∈ gw_tbl := gw4 135 (by decide +kernel) rfl
theorem ml_RX3_19 : Cond.methodLink RX3 19 yJ9_floorMod_7cf53 ∈ gw_tbl := gw4 225 (by decide +kernel) rfl
theorem ml_RX4_18 : Cond.methodLink RX4 18 yX4_oneBeat ∈ gw_tbl := gw4 53 (by decide +kernel) rfl
theorem ml_RX4_22 : Cond.methodLink RX4 22 yX0_firstLanding ∈ gw_tbl := gw4 57 (by decide +kernel) rfl
theorem ml_RX4_28 : Cond.methodLink RX4 28 yX0_howManyUp ∈ gw_tbl := gw4 70 (by decide +kernel) rfl
theorem ml_RX4_31 : Cond.methodLink RX4 31 yX0_howManyLand ∈ gw_tbl := gw5 20 (by decide +kernel) rfl
theorem ml_RX4_34 : Cond.methodLink RX4 34 yX4_lookAt ∈ gw_tbl := gw4 71 (by decide +kernel) rfl
theorem ml_RX4_38 : Cond.methodLink RX4 38 yX4_asks ∈ gw_tbl := gw4 84 (by decide +kernel) rfl
theorem ml_RX4_51 : Cond.methodLink RX4 51 yJ9_max_7cf53 ∈ gw_tbl := gw3 234 (by decide +kernel) rfl
theorem ml_RX4_60 : Cond.methodLink RX4 60 yX0_landsNow ∈ gw_tbl := gw4 65 (by decide +kernel) rfl
theorem ml_RX4_64 : Cond.methodLink RX4 64 yX0_drop ∈ gw_tbl := gw4 66 (by decide +kernel) rfl
theorem ml_RX4_68 : Cond.methodLink RX4 68 yX4_catchOne ∈ gw_tbl := gw4 72 (by decide +kernel) rfl
theorem ml_RX4_71 : Cond.methodLink RX4 71 yX0_isUp ∈ gw_tbl := gw4 85 (by decide +kernel) rfl
theorem ml_RX4_84 : Cond.methodLink RX4 84 yX0_heightBy ∈ gw_tbl := gw4 76 (by decide +kernel) rfl
theorem ml_RX4_88 : Cond.methodLink RX4 88 yX4_lot ∈ gw_tbl := gw4 77 (by decide +kernel) rfl
theorem ml_RX4_95 : Cond.methodLink RX4 95 yJ9_min_7cf53 ∈ gw_tbl := gw3 233 (by decide +kernel) rfl
theorem ml_RX4_122 : Cond.methodLink RX4 122 yX1_answer ∈ gw_tbl := gw3 217 (by decide +kernel) rfl
theorem ml_RX4_126 : Cond.methodLink RX4 126 yX4_stir ∈ gw_tbl := gw4 80 (by decide +kernel) rfl
theorem ml_RX5_25 : Cond.methodLink RX5 25 yX0_copy ∈ gw_tbl := gw4 24 (by decide +kernel) rfl
theorem ml_RX5_29 : Cond.methodLink RX5 29 yJ9_min_7cf53 ∈ gw_tbl := gw4 28 (by decide +kernel) rfl
theorem ml_RX6_26 : Cond.methodLink RX6 26 yX10_clear ∈ gw_tbl := gw2 191 (by decide +kernel) rfl
theorem ml_RX6_43 : Cond.methodLink RX6 43 yX9_cut ∈ gw_tbl := gw2 192 (by decide +kernel) rfl
theorem ml_RX6_56 : Cond.methodLink RX6 56 yX6_telling ∈ gw_tbl := gw3 92 (by decide +kernel) rfl
theorem ml_RX6_60 : Cond.methodLink RX6 60 yX6_refuse ∈ gw_tbl := gw3 100 (by decide +kernel) rfl
theorem ml_RX6_73 : Cond.methodLink RX6 73 yX6_noteLater ∈ gw_tbl := gw3 112 (by decide +kernel) rfl
theorem ml_RX6_77 : Cond.methodLink RX6 77 yX6_take ∈ gw_tbl := gw3 104 (by decide +kernel) rfl
theorem ml_RX6_80 : Cond.methodLink RX6 80 yX6_tellingThing ∈ gw_tbl := gw3 96 (by decide +kernel) rfl
theorem ml_RX6_83 : Cond.methodLink RX6 83 yX6_tellingPattern ∈ gw_tbl := gw3 120 (by decide +kernel) rfl
theorem ml_RX6_86 : Cond.methodLink RX6 86 yX6_tellingLaw ∈ gw_tbl := gw3 124 (by decide +kernel) rfl
theorem ml_RX6_90 : Cond.methodLink RX6 90 yX6_takeNumber ∈ gw_tbl := gw3 116 (by decide +kernel) rfl
theorem ml_RX6_103 : Cond.methodLink RX6 103 yX6_takeName ∈ gw_tbl := gw3 108 (by decide +kernel) rfl
theorem ml_RX6_132 : Cond.methodLink RX6 132 yX6_condition ∈ gw_tbl := gw3 128 (by decide +kernel) rfl
theorem ml_RX6_135 : Cond.methodLink RX6 135 yX6_expression ∈ gw_tbl := gw3 132 (by decide +kernel) rfl
theorem ml_RX6_138 : Cond.methodLink RX6 138 yX10_emit ∈ gw_tbl := gw3 144 (by decide +kernel) rfl
theorem ml_RX6_144 : Cond.methodLink RX6 144 yX6_product ∈ gw_tbl := gw3 136 (by decide +kernel) rfl
theorem ml_RX6_147 : Cond.methodLink RX6 147 yX6_unit ∈ gw_tbl := gw3 140 (by decide +kernel) rfl
theorem ml_RX7_24 : Cond.methodLink RX7 24 yJ7_fill_53178 ∈ gw_tbl := gw4 230 (by decide +kernel) rfl
theorem ml_RX7_34 : Cond.methodLink RX7 34 yX7_meet ∈ gw_tbl := gw4 231 (by decide +kernel) rfl
theorem ml_RX7_41 : Cond.methodLink RX7 41 yX7_goOnFrom ∈ gw_tbl := gw4 235 (by decide +kernel) rfl
theorem ml_RX8_16 : Cond.methodLink RX8 16 yJ9_min_7cf53 ∈ gw_tbl := gw4 159 (by decide +kernel) rfl
theorem ml_RX8_22 : Cond.methodLink RX8 22 yJ9_max_7cf53 ∈ gw_tbl := gw4 160 (by decide +kernel) rfl
theorem ml_RX8_35 : Cond.methodLink RX8 35 yX8_fill ∈ gw_tbl := gw4 161 (by decide +kernel) rfl
theorem ml_RX8_39 : Cond.methodLink RX8 39 yX8_finish ∈ gw_tbl := gw4 165 (by decide +kernel) rfl
theorem ml_RX9_32 : Cond.methodLink RX9 32 yX9_isBlank ∈ gw_tbl := gw2 196 (by decide +kernel) rfl
theorem ml_RX9_36 : Cond.methodLink RX9 36 yX9_cutOne ∈ gw_tbl := gw2 199 (by decide +kernel) rfl
theorem ml_RX9_40 : Cond.methodLink RX9 40 yX9_isLetter ∈ gw_tbl := gw2 203 (by decide +kernel) rfl
theorem ml_RX9_43 : Cond.methodLink RX9 43 yX9_cutWord ∈ gw_tbl := gw2 206 (by decide +kernel) rfl
theorem ml_RX9_46 : Cond.methodLink RX9 46 yX9_isDigit ∈ gw_tbl := gw3 24 (by decide +kernel) rfl
theorem ml_RX9_49 : Cond.methodLink RX9 49 yX9_cutInt ∈ gw_tbl := gw3 27 (by decide +kernel) rfl
theorem ml_RX9_54 : Cond.methodLink RX9 54 yJ0_indexOf_0f7a4 ∈ gw_tbl := gw3 33 (by decide +kernel) rfl
theorem ml_RX9_61 : Cond.methodLink RX9 61 yX9_wordAt ∈ gw_tbl := gw2 211 (by decide +kernel) rfl
theorem ml_RX9_69 : Cond.methodLink RX9 69 yJ0_length_8abf5 ∈ gw_tbl := gw2 216 (by decide +kernel) rfl
theorem ml_RX9_73 : Cond.methodLink RX9 73 yJ0_charAt_5068e ∈ gw_tbl := gw2 226 (by decide +kernel) rfl
theorem ml_RX10_35 : Cond.methodLink RX10 35 yX10_clear ∈ gw_tbl := gw2 51 (by decide +kernel) rfl
theorem ml_RX10_54 : Cond.methodLink RX10 54 yX10_emit ∈ gw_tbl := gw2 55 (by decide +kernel) rfl
theorem ml_RL_9 : Cond.methodLink RL 9 yX11_init ∈ gw_tbl := gw1 25 (by decide +kernel) rfl
theorem ml_RL_12 : Cond.methodLink RL 12 yX12_init ∈ gw_tbl := gw5 77 (by decide +kernel) rfl
theorem ml_RL_13 : Cond.methodLink RL 13 yX11_feed ∈ gw_tbl := gw2 171 (by decide +kernel) rfl
theorem ml_RL_17 : Cond.methodLink RL 17 yX12_feed ∈ gw_tbl := gw6 58 (by decide +kernel) rfl
theorem ml_RL_18 : Cond.methodLink RL 18 yX11_back ∈ gw_tbl := gw2 179 (by decide +kernel) rfl
theorem ml_RL_22 : Cond.methodLink RL 22 yX12_back ∈ gw_tbl := gw6 66 (by decide +kernel) rfl
theorem ml_RL_23 : Cond.methodLink RL 23 yX11_read ∈ gw_tbl := gw2 183 (by decide +kernel) rfl
theorem ml_RL_27 : Cond.methodLink RL 27 yX12_read ∈ gw_tbl := gw6 70 (by decide +kernel) rfl
theorem ml_RL_28 : Cond.methodLink RL 28 yX11_place ∈ gw_tbl := gw3 164 (by decide +kernel) rfl
theorem ml_RL_31 : Cond.methodLink RL 31 yX12_place ∈ gw_tbl := gw6 172 (by decide +kernel) rfl
theorem ml_RL_32 : Cond.methodLink RL 32 yX11_thing ∈ gw_tbl := gw3 168 (by decide +kernel) rfl
theorem ml_RL_36 : Cond.methodLink RL 36 yX12_thing ∈ gw_tbl := gw6 176 (by decide +kernel) rfl
theorem ml_RL_37 : Cond.methodLink RL 37 yX11_pattern ∈ gw_tbl := gw3 180 (by decide +kernel) rfl
theorem ml_RL_40 : Cond.methodLink RL 40 yX12_pattern ∈ gw_tbl := gw6 187 (by decide +kernel) rfl
theorem ml_RL_41 : Cond.methodLink RL 41 yX11_tells ∈ gw_tbl := gw3 188 (by decide +kernel) rfl
theorem ml_RL_45 : Cond.methodLink RL 45 yX12_tells ∈ gw_tbl := gw6 203 (by decide +kernel) rfl
theorem ml_RL_46 : Cond.methodLink RL 46 yX11_throwIn ∈ gw_tbl := gw4 16 (by decide +kernel) rfl
theorem ml_RL_50 : Cond.methodLink RL 50 yX12_throwIn ∈ gw_tbl := gw7 9 (by decide +kernel) rfl
theorem ml_RL_51 : Cond.methodLink RL 51 yX11_use ∈ gw_tbl := gw4 33 (by decide +kernel) rfl
theorem ml_RL_55 : Cond.methodLink RL 55 yX12_use ∈ gw_tbl := gw7 17 (by decide +kernel) rfl
theorem ml_RL_56 : Cond.methodLink RL 56 yX11_set ∈ gw_tbl := gw4 41 (by decide +kernel) rfl
theorem ml_RL_59 : Cond.methodLink RL 59 yX12_set ∈ gw_tbl := gw7 25 (by decide +kernel) rfl
theorem ml_RL_60 : Cond.methodLink RL 60 yX11_beats ∈ gw_tbl := gw4 45 (by decide +kernel) rfl
theorem ml_RL_63 : Cond.methodLink RL 63 yX12_beats ∈ gw_tbl := gw7 29 (by decide +kernel) rfl
theorem ml_RL_64 : Cond.methodLink RL 64 yX11_undo ∈ gw_tbl := gw4 86 (by decide +kernel) rfl
theorem ml_RL_68 : Cond.methodLink RL 68 yX12_undo ∈ gw_tbl := gw7 76 (by decide +kernel) rfl
theorem ml_RL_69 : Cond.methodLink RL 69 yX11_closes ∈ gw_tbl := gw4 103 (by decide +kernel) rfl
theorem ml_RL_72 : Cond.methodLink RL 72 yX12_closes ∈ gw_tbl := gw7 80 (by decide +kernel) rfl
theorem ml_RL_73 : Cond.methodLink RL 73 yX11_lands ∈ gw_tbl := gw4 170 (by decide +kernel) rfl
theorem ml_RL_76 : Cond.methodLink RL 76 yX12_lands ∈ gw_tbl := gw7 123 (by decide +kernel) rfl
theorem ml_RL_77 : Cond.methodLink RL 77 yX11_inHand ∈ gw_tbl := gw4 179 (by decide +kernel) rfl
theorem ml_RL_80 : Cond.methodLink RL 80 yX12_inHand ∈ gw_tbl := gw7 131 (by decide +kernel) rfl
theorem ml_RL_81 : Cond.methodLink RL 81 yX11_clash ∈ gw_tbl := gw4 192 (by decide +kernel) rfl
theorem ml_RL_84 : Cond.methodLink RL 84 yX12_clash ∈ gw_tbl := gw7 139 (by decide +kernel) rfl
theorem ml_RL_85 : Cond.methodLink RL 85 yX11_into ∈ gw_tbl := gw4 212 (by decide +kernel) rfl
theorem ml_RL_88 : Cond.methodLink RL 88 yX12_into ∈ gw_tbl := gw7 143 (by decide +kernel) rfl
theorem ml_RL_89 : Cond.methodLink RL 89 yX11_joined ∈ gw_tbl := gw4 116 (by decide +kernel) rfl
theorem ml_RL_92 : Cond.methodLink RL 92 yX12_joined ∈ gw_tbl := gw7 99 (by decide +kernel) rfl
theorem ml_RL_93 : Cond.methodLink RL 93 yX11_turned ∈ gw_tbl := gw4 121 (by decide +kernel) rfl
theorem ml_RL_96 : Cond.methodLink RL 96 yX12_turned ∈ gw_tbl := gw7 103 (by decide +kernel) rfl
theorem ml_RL_97 : Cond.methodLink RL 97 yX11_span ∈ gw_tbl := gw4 128 (by decide +kernel) rfl
theorem ml_RL_100 : Cond.methodLink RL 100 yX12_span ∈ gw_tbl := gw7 111 (by decide +kernel) rfl
theorem ml_RL_101 : Cond.methodLink RL 101 yX11_orbits ∈ gw_tbl := gw4 136 (by decide +kernel) rfl
theorem ml_RL_104 : Cond.methodLink RL 104 yX12_orbits ∈ gw_tbl := gw7 115 (by decide +kernel) rfl
theorem ml_RL_105 : Cond.methodLink RL 105 yX11_swaps ∈ gw_tbl := gw4 143 (by decide +kernel) rfl
theorem ml_RL_108 : Cond.methodLink RL 108 yX12_swaps ∈ gw_tbl := gw7 119 (by decide +kernel) rfl
theorem ml_RL_109 : Cond.methodLink RL 109 yX11_room ∈ gw_tbl := gw4 208 (by decide +kernel) rfl
theorem ml_RL_112 : Cond.methodLink RL 112 yX12_room ∈ gw_tbl := gw7 167 (by decide +kernel) rfl
theorem ml_RL_113 : Cond.methodLink RL 113 yX11_handover ∈ gw_tbl := gw5 25 (by decide +kernel) rfl
theorem ml_RL_116 : Cond.methodLink RL 116 yX12_handover ∈ gw_tbl := gw7 175 (by decide +kernel) rfl
theorem ml_RL_117 : Cond.methodLink RL 117 yX11_limit ∈ gw_tbl := gw5 29 (by decide +kernel) rfl
theorem ml_RL_120 : Cond.methodLink RL 120 yX12_limit ∈ gw_tbl := gw7 179 (by decide +kernel) rfl
theorem ml_RL_121 : Cond.methodLink RL 121 yX11_busiest ∈ gw_tbl := gw4 239 (by decide +kernel) rfl
theorem ml_RL_124 : Cond.methodLink RL 124 yX12_busiest ∈ gw_tbl := gw7 183 (by decide +kernel) rfl
theorem ml_RL_125 : Cond.methodLink RL 125 yX11_load ∈ gw_tbl := gw5 7 (by decide +kernel) rfl
theorem ml_RL_128 : Cond.methodLink RL 128 yX12_load ∈ gw_tbl := gw7 190 (by decide +kernel) rfl
theorem ml_RL_129 : Cond.methodLink RL 129 yX11_gap ∈ gw_tbl := gw4 204 (by decide +kernel) rfl
theorem ml_RL_132 : Cond.methodLink RL 132 yX12_gap ∈ gw_tbl := gw7 194 (by decide +kernel) rfl
theorem ml_RL_133 : Cond.methodLink RL 133 yX11_order ∈ gw_tbl := gw5 21 (by decide +kernel) rfl
theorem ml_RL_136 : Cond.methodLink RL 136 yX12_order ∈ gw_tbl := gw7 198 (by decide +kernel) rfl
theorem ml_RL_137 : Cond.methodLink RL 137 yX11_ways ∈ gw_tbl := gw4 151 (by decide +kernel) rfl
theorem ml_RL_141 : Cond.methodLink RL 141 yX12_ways ∈ gw_tbl := gw7 202 (by decide +kernel) rfl
theorem ml_RL_142 : Cond.methodLink RL 142 yX11_light ∈ gw_tbl := gw5 37 (by decide +kernel) rfl
theorem ml_RL_145 : Cond.methodLink RL 145 yX12_light ∈ gw_tbl := gw7 206 (by decide +kernel) rfl
theorem ml_RL_146 : Cond.methodLink RL 146 yX11_rule ∈ gw_tbl := gw5 11 (by decide +kernel) rfl
theorem ml_RL_149 : Cond.methodLink RL 149 yX12_rule ∈ gw_tbl := gw7 210 (by decide +kernel) rfl
theorem ml_RL_150 : Cond.methodLink RL 150 yX11_down ∈ gw_tbl := gw5 33 (by decide +kernel) rfl
theorem ml_RL_153 : Cond.methodLink RL 153 yX12_down ∈ gw_tbl := gw7 215 (by decide +kernel) rfl
theorem ml_RL_154 : Cond.methodLink RL 154 yX11_then ∈ gw_tbl := gw5 41 (by decide +kernel) rfl
theorem ml_RL_157 : Cond.methodLink RL 157 yX12_then ∈ gw_tbl := gw7 219 (by decide +kernel) rfl
theorem ml_RL_158 : Cond.methodLink RL 158 yX11_year ∈ gw_tbl := gw5 45 (by decide +kernel) rfl
theorem ml_RL_161 : Cond.methodLink RL 161 yX12_year ∈ gw_tbl := gw7 223 (by decide +kernel) rfl
theorem ml_RL_162 : Cond.methodLink RL 162 yX11_tell ∈ gw_tbl := gw5 49 (by decide +kernel) rfl
theorem ml_RL_166 : Cond.methodLink RL 166 yX12_tell ∈ gw_tbl := gw7 227 (by decide +kernel) rfl
theorem ml_RL_167 : Cond.methodLink RL 167 yX11_forget ∈ gw_tbl := gw5 57 (by decide +kernel) rfl
theorem ml_RL_170 : Cond.methodLink RL 170 yX12_forget ∈ gw_tbl := gw7 231 (by decide +kernel) rfl
theorem ml_RL_171 : Cond.methodLink RL 171 yX11_glitters ∈ gw_tbl := gw5 61 (by decide +kernel) rfl
theorem ml_RL_174 : Cond.methodLink RL 174 yX12_glitters ∈ gw_tbl := gw7 235 (by decide +kernel) rfl
theorem ml_RL_175 : Cond.methodLink RL 175 yX11_watch ∈ gw_tbl := gw5 70 (by decide +kernel) rfl
theorem ml_RL_178 : Cond.methodLink RL 178 yX12_watch ∈ gw_tbl := gw8 3 (by decide +kernel) rfl
theorem ml_RL_179 : Cond.methodLink RL 179 yX11_hold ∈ gw_tbl := gw4 94 (by decide +kernel) rfl
theorem ml_RL_182 : Cond.methodLink RL 182 yX12_hold ∈ gw_tbl := gw8 7 (by decide +kernel) rfl
theorem ml_RL_183 : Cond.methodLink RL 183 yX11_restore ∈ gw_tbl := gw4 99 (by decide +kernel) rfl
theorem ml_RL_186 : Cond.methodLink RL 186 yX12_restore ∈ gw_tbl := gw8 11 (by decide +kernel) rfl
theorem ml_RL_187 : Cond.methodLink RL 187 yX11_count ∈ gw_tbl := gw3 235 (by decide +kernel) rfl
theorem ml_RL_190 : Cond.methodLink RL 190 yX12_count ∈ gw_tbl := gw8 15 (by decide +kernel) rfl
theorem ml_RX12_140 : Cond.methodLink RX12 140 yX12_plain ∈ gw_tbl := gw5 81 (by decide +kernel) rfl
theorem ml_RX12_144 : Cond.methodLink RX12 144 yX12_word ∈ gw_tbl := gw5 85 (by decide +kernel) rfl
theorem ml_RX12_148 : Cond.methodLink RX12 148 yX12_begins ∈ gw_tbl := gw5 92 (by decide +kernel) rfl
theorem ml_RX12_151 : Cond.methodLink RX12 151 yX12_keepsRow ∈ gw_tbl := gw5 96 (by decide +kernel) rfl
theorem ml_RX12_157 : Cond.methodLink RX12 157 yX12_put ∈ gw_tbl := gw6 62 (by decide +kernel) rfl
theorem ml_RX12_165 : Cond.methodLink RX12 165 yX12_appends ∈ gw_tbl := gw5 88 (by decide +kernel) rfl
theorem ml_RX12_172 : Cond.methodLink RX12 172 yX12_byteAt ∈ gw_tbl := gw6 78 (by decide +kernel) rfl
theorem ml_RX12_176 : Cond.methodLink RX12 176 yX12_token ∈ gw_tbl := gw6 82 (by decide +kernel) rfl
theorem ml_RX12_180 : Cond.methodLink RX12 180 yX12_isLetter ∈ gw_tbl := gw6 86 (by decide +kernel) rfl
theorem ml_RX12_184 : Cond.methodLink RX12 184 yX12_isDigit ∈ gw_tbl := gw6 89 (by decide +kernel) rfl
theorem ml_RX12_187 : Cond.methodLink RX12 187 yX12_sign ∈ gw_tbl := gw6 92 (by decide +kernel) rfl
theorem ml_RX12_206 : Cond.methodLink RX12 206 yX12_fail ∈ gw_tbl := gw6 108 (by decide +kernel) rfl
theorem ml_RX12_209 : Cond.methodLink RX12 209 yX12_is ∈ gw_tbl := gw6 96 (by decide +kernel) rfl
theorem ml_RX12_212 : Cond.methodLink RX12 212 yX12_goesOn ∈ gw_tbl := gw6 112 (by decide +kernel) rfl
theorem ml_RX12_215 : Cond.methodLink RX12 215 yX12_cut ∈ gw_tbl := gw6 74 (by decide +kernel) rfl
theorem ml_RX12_236 : Cond.methodLink RX12 236 yX12_tellOne ∈ gw_tbl := gw6 100 (by decide +kernel) rfl
theorem ml_RX12_245 : Cond.methodLink RX12 245 yX12_bounded ∈ gw_tbl := gw6 132 (by decide +kernel) rfl
theorem ml_RX12_249 : Cond.methodLink RX12 249 yX12_must ∈ gw_tbl := gw6 124 (by decide +kernel) rfl
theorem ml_RX12_252 : Cond.methodLink RX12 252 yX12_roomFor ∈ gw_tbl := gw6 104 (by decide +kernel) rfl
theorem ml_RX12_256 : Cond.methodLink RX12 256 yX12_tellThing ∈ gw_tbl := gw6 116 (by decide +kernel) rfl
theorem ml_RX12_259 : Cond.methodLink RX12 259 yX12_tellPattern ∈ gw_tbl := gw6 140 (by decide +kernel) rfl
theorem ml_RX12_262 : Cond.methodLink RX12 262 yX12_toldInt ∈ gw_tbl := gw6 144 (by decide +kernel) rfl
theorem ml_RX12_265 : Cond.methodLink RX12 265 yX12_tellLaw ∈ gw_tbl := gw6 148 (by decide +kernel) rfl
theorem ml_RX12_268 : Cond.methodLink RX12 268 yX12_wrong ∈ gw_tbl := gw6 128 (by decide +kernel) rfl
theorem ml_RX12_271 : Cond.methodLink RX12 271 yX12_named ∈ gw_tbl := gw6 120 (by decide +kernel) rfl
theorem ml_RX12_275 : Cond.methodLink RX12 275 yX12_ends ∈ gw_tbl := gw6 136 (by decide +kernel) rfl
theorem ml_RX12_278 : Cond.methodLink RX12 278 yX12_expression ∈ gw_tbl := gw6 152 (by decide +kernel) rfl
theorem ml_RX12_281 : Cond.methodLink RX12 281 yX12_term ∈ gw_tbl := gw6 168 (by decide +kernel) rfl
theorem ml_RX12_287 : Cond.methodLink RX12 287 yX12_emit ∈ gw_tbl := gw6 160 (by decide +kernel) rfl
theorem ml_RX12_290 : Cond.methodLink RX12 290 yX12_unit ∈ gw_tbl := gw6 156 (by decide +kernel) rfl
theorem ml_RX12_293 : Cond.methodLink RX12 293 yX12_comesOut ∈ gw_tbl := gw6 164 (by decide +kernel) rfl
theorem ml_RX12_301 : Cond.methodLink RX12 301 yX12_in ∈ gw_tbl := gw6 184 (by decide +kernel) rfl
theorem ml_RX12_311 : Cond.methodLink RX12 311 yX12_copies ∈ gw_tbl := gw6 207 (by decide +kernel) rfl
theorem ml_RX12_315 : Cond.methodLink RX12 315 yX12_mixed ∈ gw_tbl := gw7 68 (by decide +kernel) rfl
theorem ml_RX12_318 : Cond.methodLink RX12 318 yX12_lengthOf ∈ gw_tbl := gw6 195 (by decide +kernel) rfl
theorem ml_RX12_321 : Cond.methodLink RX12 321 yX12_heightAt ∈ gw_tbl := gw6 199 (by decide +kernel) rfl
theorem ml_RX12_324 : Cond.methodLink RX12 324 yX12_doesLand ∈ gw_tbl := gw7 48 (by decide +kernel) rfl
theorem ml_RX12_328 : Cond.methodLink RX12 328 yX12_termOf ∈ gw_tbl := gw6 230 (by decide +kernel) rfl
theorem ml_RX12_331 : Cond.methodLink RX12 331 yX12_looksAt ∈ gw_tbl := gw6 222 (by decide +kernel) rfl
theorem ml_RX12_335 : Cond.methodLink RX12 335 yX12_lawTells ∈ gw_tbl := gw6 226 (by decide +kernel) rfl
theorem ml_RX12_338 : Cond.methodLink RX12 338 yX12_held ∈ gw_tbl := gw6 234 (by decide +kernel) rfl
theorem ml_RX12_347 : Cond.methodLink RX12 347 yX12_heightNow ∈ gw_tbl := gw7 60 (by decide +kernel) rfl
theorem ml_RX12_350 : Cond.methodLink RX12 350 yX12_thingsSo ∈ gw_tbl := gw6 211 (by decide +kernel) rfl
theorem ml_RX12_353 : Cond.methodLink RX12 353 yX12_bits ∈ gw_tbl := gw6 215 (by decide +kernel) rfl
theorem ml_RX12_356 : Cond.methodLink RX12 356 yX12_tiresBy ∈ gw_tbl := gw6 218 (by decide +kernel) rfl
theorem ml_RX12_359 : Cond.methodLink RX12 359 yX12_paysOf ∈ gw_tbl := gw7 5 (by decide +kernel) rfl
theorem ml_RX12_362 : Cond.methodLink RX12 362 yX12_forceOf ∈ gw_tbl := gw7 1 (by decide +kernel) rfl
theorem ml_RX12_368 : Cond.methodLink RX12 368 yX12_lotNow ∈ gw_tbl := gw7 64 (by decide +kernel) rfl
theorem ml_RX12_371 : Cond.methodLink RX12 371 yX12_dropsBy ∈ gw_tbl := gw6 237 (by decide +kernel) rfl
theorem ml_RX12_374 : Cond.methodLink RX12 374 yX12_isThrown ∈ gw_tbl := gw7 72 (by decide +kernel) rfl
theorem ml_RX12_378 : Cond.methodLink RX12 378 yX12_catchesNow ∈ gw_tbl := gw7 44 (by decide +kernel) rfl
theorem ml_RX12_381 : Cond.methodLink RX12 381 yX12_dropsOthers ∈ gw_tbl := gw7 52 (by decide +kernel) rfl
theorem ml_RX12_384 : Cond.methodLink RX12 384 yX12_catches ∈ gw_tbl := gw7 56 (by decide +kernel) rfl
theorem ml_RX12_387 : Cond.methodLink RX12 387 yX12_beatGoes ∈ gw_tbl := gw7 40 (by decide +kernel) rfl
theorem ml_RX12_390 : Cond.methodLink RX12 390 yX12_isThing ∈ gw_tbl := gw6 180 (by decide +kernel) rfl
theorem ml_RX12_393 : Cond.methodLink RX12 393 yX12_isPattern ∈ gw_tbl := gw6 191 (by decide +kernel) rfl
theorem ml_RX12_396 : Cond.methodLink RX12 396 yX12_records ∈ gw_tbl := gw7 13 (by decide +kernel) rfl
theorem ml_RX12_399 : Cond.methodLink RX12 399 yX12_uses ∈ gw_tbl := gw7 21 (by decide +kernel) rfl
theorem ml_RX12_402 : Cond.methodLink RX12 402 yX12_isLong ∈ gw_tbl := gw7 33 (by decide +kernel) rfl
theorem ml_RX12_405 : Cond.methodLink RX12 405 yX12_goes ∈ gw_tbl := gw7 36 (by decide +kernel) rfl
theorem ml_RX12_411 : Cond.methodLink RX12 411 yX12_takesPattern ∈ gw_tbl := gw7 88 (by decide +kernel) rfl
theorem ml_RX12_414 : Cond.methodLink RX12 414 yX12_keeps ∈ gw_tbl := gw7 92 (by decide +kernel) rfl
theorem ml_RX12_417 : Cond.methodLink RX12 417 yX12_keepsOf ∈ gw_tbl := gw7 84 (by decide +kernel) rfl
theorem ml_RX12_420 : Cond.methodLink RX12 420 yX12_told ∈ gw_tbl := gw7 96 (by decide +kernel) rfl
theorem ml_RX12_423 : Cond.methodLink RX12 423 yX12_isTurned ∈ gw_tbl := gw7 107 (by decide +kernel) rfl
theorem ml_RX12_426 : Cond.methodLink RX12 426 yX12_landsAt ∈ gw_tbl := gw7 127 (by decide +kernel) rfl
theorem ml_RX12_429 : Cond.methodLink RX12 429 yX12_copiesStill ∈ gw_tbl := gw7 135 (by decide +kernel) rfl
theorem ml_RX12_432 : Cond.methodLink RX12 432 yX12_nextOf ∈ gw_tbl := gw7 156 (by decide +kernel) rfl
theorem ml_RX12_435 : Cond.methodLink RX12 435 yX12_lands ∈ gw_tbl := gw7 147 (by decide +kernel) rfl
theorem ml_RX12_438 : Cond.methodLink RX12 438 yX12_aimOf ∈ gw_tbl := gw7 148 (by decide +kernel) rfl
theorem ml_RX12_441 : Cond.methodLink RX12 441 yX12_fillsFar ∈ gw_tbl := gw7 152 (by decide +kernel) rfl
theorem ml_RX12_444 : Cond.methodLink RX12 444 yX12_areTwoSoon ∈ gw_tbl := gw7 159 (by decide +kernel) rfl
theorem ml_RX12_448 : Cond.methodLink RX12 448 yX12_firstOf ∈ gw_tbl := gw7 163 (by decide +kernel) rfl
theorem ml_RX12_451 : Cond.methodLink RX12 451 yX12_hasRoom ∈ gw_tbl := gw7 171 (by decide +kernel) rfl
theorem ml_RX12_454 : Cond.methodLink RX12 454 yX12_isSome ∈ gw_tbl := gw7 187 (by decide +kernel) rfl
theorem ml_RX12_458 : Cond.methodLink RX12 458 yX12_glitterBits ∈ gw_tbl := gw7 239 (by decide +kernel) rfl
theorem ml_RX12_461 : Cond.methodLink RX12 461 yX12_weightsOf ∈ gw_tbl := gw8 19 (by decide +kernel) rfl
theorem ml_RJ0_335 : Cond.methodLink RJ0 335 yJ0_coder_7d493 ∈ gw_tbl := gw2 220 (by decide +kernel) rfl
theorem ml_RJ0_492 : Cond.methodLink RJ0 492 yJ0_isLatin1_aae02 ∈ gw_tbl := gw2 230 (by decide +kernel) rfl
theorem ml_RJ0_495 : Cond.methodLink RJ0 495 yJ1_charAt_3b067 ∈ gw_tbl := gw2 234 (by decide +kernel) rfl
theorem ml_RJ0_498 : Cond.methodLink RJ0 498 yJ2_charAt_3b067 ∈ gw_tbl := gw3 5 (by decide +kernel) rfl
theorem ml_RJ0_505 : Cond.methodLink RJ0 505 yJ0_length_8abf5 ∈ gw_tbl := gw3 41 (by decide +kernel) rfl
theorem ml_RJ0_633 : Cond.methodLink RJ0 633 yJ0_indexOf_7cf53 ∈ gw_tbl := gw3 37 (by decide +kernel) rfl
theorem ml_RJ0_637 : Cond.methodLink RJ0 637 yJ1_indexOf_4cfef ∈ gw_tbl := gw3 42 (by decide +kernel) rfl
theorem ml_RJ0_640 : Cond.methodLink RJ0 640 yJ2_indexOf_4cfef ∈ gw_tbl := gw3 57 (by decide +kernel) rfl
theorem ml_RJ0_1059 : Cond.methodLink RJ0 1059 yJ3_checkIndex_8e157 ∈ gw_tbl := gw3 2 (by decide +kernel) rfl
theorem ml_RJ0_1062 : Cond.methodLink RJ0 1062 yJ3_checkFromToIndex_8c36e ∈ gw_tbl := gw3 72 (by decide +kernel) rfl
theorem ml_RJ1_9 : Cond.methodLink RJ1 9 yJ0_checkIndex_df160 ∈ gw_tbl := gw2 237 (by decide +kernel) rfl
theorem ml_RJ1_38 : Cond.methodLink RJ1 38 yJ9_min_7cf53 ∈ gw_tbl := gw3 51 (by decide +kernel) rfl
theorem ml_RJ1_88 : Cond.methodLink RJ1 88 yJ1_canEncode_9a6ad ∈ gw_tbl := gw3 45 (by decide +kernel) rfl
theorem ml_RJ1_92 : Cond.methodLink RJ1 92 yJ9_max_7cf53 ∈ gw_tbl := gw3 48 (by decide +kernel) rfl
theorem ml_RJ1_95 : Cond.methodLink RJ1 95 yJ1_indexOfChar_4cfef ∈ gw_tbl := gw3 54 (by decide +kernel) rfl
theorem ml_RJ2_48 : Cond.methodLink RJ2 48 yJ2_length_9d52b ∈ gw_tbl := gw3 11 (by decide +kernel) rfl
theorem ml_RJ2_67 : Cond.methodLink RJ2 67 yJ2_checkIndex_2214a ∈ gw_tbl := gw3 8 (by decide +kernel) rfl
theorem ml_RJ2_71 : Cond.methodLink RJ2 71 yJ2_getChar_3b067 ∈ gw_tbl := gw3 15 (by decide +kernel) rfl
theorem ml_RJ2_96 : Cond.methodLink RJ2 96 yJ2_checkBoundsBeginEnd_d044e ∈ gw_tbl := gw3 66 (by decide +kernel) rfl
theorem ml_RJ2_157 : Cond.methodLink RJ2 157 yJ11_highSurrogate_5068e ∈ gw_tbl := gw3 84 (by decide +kernel) rfl
theorem ml_RJ2_161 : Cond.methodLink RJ2 161 yJ11_lowSurrogate_5068e ∈ gw_tbl := gw3 88 (by decide +kernel) rfl
theorem ml_RJ2_164 : Cond.methodLink RJ2 164 yJ11_isValidCodePoint_9a6ad ∈ gw_tbl := gw3 81 (by decide +kernel) rfl
theorem ml_RJ2_183 : Cond.methodLink RJ2 183 yJ9_min_7cf53 ∈ gw_tbl := gw3 61 (by decide +kernel) rfl
theorem ml_RJ2_224 : Cond.methodLink RJ2 224 yJ9_max_7cf53 ∈ gw_tbl := gw3 60 (by decide +kernel) rfl
theorem ml_RJ2_228 : Cond.methodLink RJ2 228 yJ2_indexOfChar_4cfef ∈ gw_tbl := gw3 63 (by decide +kernel) rfl
theorem ml_RJ2_232 : Cond.methodLink RJ2 232 yJ2_indexOfSupplementary_4cfef ∈ gw_tbl := gw3 78 (by decide +kernel) rfl
theorem ml_RJ2_241 : Cond.methodLink RJ2 241 yJ0_checkBoundsBeginEnd_23922 ∈ gw_tbl := gw3 69 (by decide +kernel) rfl
theorem ml_RJ2_244 : Cond.methodLink RJ2 244 yJ2_indexOfCharUnsafe_4cfef ∈ gw_tbl := gw3 75 (by decide +kernel) rfl
theorem ml_RJ2_414 : Cond.methodLink RJ2 414 yJ0_checkIndex_df160 ∈ gw_tbl := gw3 14 (by decide +kernel) rfl
theorem ko_RX11_316 : Cond.constant RX11 316 (-100000) ∈ gw_tbl := gw5 15 (by decide +kernel) rfl
theorem ko_RX4_129 : Cond.constant RX4 129 (1103515245) ∈ gw_tbl := gw4 83 (by decide +kernel) rfl
theorem ko_RX9_59 : Cond.constantLong RX9 59 (27) ∈ gw_tbl := gw2 210 (by decide +kernel) rfl
theorem ko_RX9_65 : Cond.constantLong RX9 65 (10) ∈ gw_tbl := gw3 31 (by decide +kernel) rfl
theorem ko_RX12_163 : Cond.constantLong RX12 163 (27) ∈ gw_tbl := gw5 91 (by decide +kernel) rfl
theorem ko_RX12_314 : Cond.constant RX12 314 (1103515245) ∈ gw_tbl := gw7 71 (by decide +kernel) rfl
theorem ko_RX12_457 : Cond.constant RX12 457 (-100000) ∈ gw_tbl := gw7 214 (by decide +kernel) rfl
theorem ko_RJ11_76 : Cond.constant RJ11 76 (56320) ∈ gw_tbl := gw3 91 (by decide +kernel) rfl
theorem ko_RJ11_110 : Cond.constant RJ11 110 (55232) ∈ gw_tbl := gw3 87 (by decide +kernel) rfl
theorem ko_RJ6_265 : Cond.constant RJ6 265 (1431655765) ∈ gw_tbl := gw3 206 (by decide +kernel) rfl
theorem ko_RJ6_266 : Cond.constant RJ6 266 (858993459) ∈ gw_tbl := gw3 207 (by decide +kernel) rfl
theorem ko_RJ6_267 : Cond.constant RJ6 267 (252645135) ∈ gw_tbl := gw3 208 (by decide +kernel) rfl
theorem ko_RJ2_227 : Cond.constant RJ2 227 (65536) ∈ gw_tbl := gw3 62 (by decide +kernel) rfl
theorem mm_max : Cond.static Lib.Math.max.name ∈ gw_tbl ∧ Cond.initialized "java/lang/Math" ∈ gw_tbl ∧ Cond.code Lib.Math.max.name Lib.Math.max.code 2 (some .int) ∈ gw_tbl := ⟨gw3 49 (by decide +kernel) rfl, gw1 17 (by decide +kernel) rfl, gw3 50 (by decide +kernel) rfl⟩
theorem mm_min : Cond.static Lib.Math.min.name ∈ gw_tbl ∧ Cond.initialized "java/lang/Math" ∈ gw_tbl ∧ Cond.code Lib.Math.min.name Lib.Math.min.code 2 (some .int) ∈ gw_tbl := ⟨gw3 52 (by decide +kernel) rfl, gw1 17 (by decide +kernel) rfl, gw3 53 (by decide +kernel) rfl⟩
theorem ac_w : Cond.native arraycopyName ∈ gw_tbl ∧ Cond.static arraycopyName ∈ gw_tbl ∧ Cond.initialized "java/lang/System" ∈ gw_tbl := ⟨gw3 158 (by decide +kernel) rfl, gw3 157 (by decide +kernel) rfl, gw1 20 (by decide +kernel) rfl⟩
theorem ml_RX11_237 : Cond.methodLink RX11 237 arraycopyName ∈ gw_tbl := gw4 120 (by decide +kernel) rfl
theorem mm_RX11_335 : Cond.methodLink RX11 335 Lib.Math.max.name ∈ gw_tbl := gw5 74 (by decide +kernel) rfl
theorem ml_RX0_43 : Cond.methodLink RX0 43 arraycopyName ∈ gw_tbl := gw3 156 (by decide +kernel) rfl
theorem mm_RX3_9 : Cond.methodLink RX3 9 Lib.Math.max.name ∈ gw_tbl := gw4 135 (by decide +kernel) rfl
theorem mm_RX4_51 : Cond.methodLink RX4 51 Lib.Math.max.name ∈ gw_tbl := gw3 234 (by decide +kernel) rfl
theorem mm_RX4_95 : Cond.methodLink RX4 95 Lib.Math.min.name ∈ gw_tbl := gw3 233 (by decide +kernel) rfl
theorem mm_RX5_29 : Cond.methodLink RX5 29 Lib.Math.min.name ∈ gw_tbl := gw4 28 (by decide +kernel) rfl
theorem mm_RX8_16 : Cond.methodLink RX8 16 Lib.Math.min.name ∈ gw_tbl := gw4 159 (by decide +kernel) rfl
theorem mm_RX8_22 : Cond.methodLink RX8 22 Lib.Math.max.name ∈ gw_tbl := gw4 160 (by decide +kernel) rfl
theorem ml_RX8_42 : Cond.methodLink RX8 42 arraycopyName ∈ gw_tbl := gw4 169 (by decide +kernel) rfl
theorem mm_RJ1_38 : Cond.methodLink RJ1 38 Lib.Math.min.name ∈ gw_tbl := gw3 51 (by decide +kernel) rfl
theorem mm_RJ1_92 : Cond.methodLink RJ1 92 Lib.Math.max.name ∈ gw_tbl := gw3 48 (by decide +kernel) rfl
theorem mm_RJ2_183 : Cond.methodLink RJ2 183 Lib.Math.min.name ∈ gw_tbl := gw3 61 (by decide +kernel) rfl
theorem mm_RJ2_224 : Cond.methodLink RJ2 224 Lib.Math.max.name ∈ gw_tbl := gw3 60 (by decide +kernel) rfl
end
section
/-! the world as a list: what stands at a number, and what a store makes of it -/
theorem mw_get {ad : Nat → Nat} {ca : Nat → ClassId} {σ : HS} {i : Nat} (h : i < NN) : (mw ad ca σ)[i]? = some (ad i, ceK ad ca (kd i) i (σ.1 i) (σ.2.1 i) σ.2.2) := by
  unfold mw
  rw [List.getElem?_map, List.getElem?_range h]
  rfl
theorem mw_len {ad : Nat → Nat} {ca : Nat → ClassId} {σ : HS} : (mw ad ca σ).length = NN := by
  unfold mw
  rw [List.length_map, List.length_range]
theorem mw_at {ad : Nat → Nat} {ca : Nat → ClassId} {σ : HS} {k : Nat} {q : Nat × va_E} (h : (mw ad ca σ)[k]? = some q) : k < NN ∧ q = (ad k, ceK ad ca (kd k) k (σ.1 k) (σ.2.1 k) σ.2.2) := by
  have hk : k < NN := by
    have := (List.getElem?_eq_some_iff.mp h).1
    rwa [mw_len] at this
  rw [mw_get hk] at h
  exact ⟨hk, (Option.some.inj h).symm⟩
theorem mw_set {ad : Nat → Nat} {ca : Nat → ClassId} {σ σ' : HS} {i : Nat} {X : va_E} (hi : i < NN) (hX : ceK ad ca (kd i) i (σ'.1 i) (σ'.2.1 i) σ'.2.2 = X)
    (ho : ∀ j, j ≠ i → ceK ad ca (kd j) j (σ'.1 j) (σ'.2.1 j) σ'.2.2 = ceK ad ca (kd j) j (σ.1 j) (σ.2.1 j) σ.2.2) : (mw ad ca σ).set i (ad i, X) = mw ad ca σ' := by
  apply List.ext_getElem?
  intro j
  rw [List.getElem?_set]
  by_cases hj : j < NN
  · rw [mw_get hj, mw_get hj]
    by_cases e : i = j
    · subst e
      simp [mw_len, hX, hj]
    · rw [if_neg e, ho j (fun h => e h.symm)]
  · have h1 : (mw ad ca σ')[j]? = none := List.getElem?_eq_none (by rw [mw_len]; omega)
    have h2 : (mw ad ca σ)[j]? = none := List.getElem?_eq_none (by rw [mw_len]; omega)
    rw [h1, h2, if_neg (show ¬ i = j by omega)]
theorem mw_setI {ad : Nat → Nat} {ca : Nat → ClassId} {σ : HS} {i k : Nat} {v : Int32} {X : va_E} (hi : i < NN) (hX : ceK ad ca (kd i) i (upd (σ.1 i) k v) (σ.2.1 i) σ.2.2 = X) : (mw ad ca σ).set i (ad i, X) = mw ad ca (hI σ i k v) := by
  refine mw_set hi ?_ ?_
  · show ceK ad ca (kd i) i (va_up σ.1 i (upd (σ.1 i) k v) i) (σ.2.1 i) σ.2.2 = X
    rw [va_up_self]
    exact hX
  · intro j hj
    show ceK ad ca (kd j) j (va_up σ.1 i (upd (σ.1 i) k v) j) (σ.2.1 j) σ.2.2 = _
    rw [va_up_ne _ _ hj]
theorem mw_setA {ad : Nat → Nat} {ca : Nat → ClassId} {σ : HS} {i : Nat} {f : Nat → Int32} {X : va_E} (hi : i < NN) (hX : ceK ad ca (kd i) i f (σ.2.1 i) σ.2.2 = X) : (mw ad ca σ).set i (ad i, X) = mw ad ca (hA σ i f) := by
  refine mw_set hi ?_ ?_
  · show ceK ad ca (kd i) i (va_up σ.1 i f i) (σ.2.1 i) σ.2.2 = X
    rw [va_up_self]
    exact hX
  · intro j hj
    show ceK ad ca (kd j) j (va_up σ.1 i f j) (σ.2.1 j) σ.2.2 = _
    rw [va_up_ne _ _ hj]
theorem mw_setL {ad : Nat → Nat} {ca : Nat → ClassId} {σ : HS} {i k : Nat} {v : Int64} {X : va_E} (hi : i < NN) (hX : ceK ad ca (kd i) i (σ.1 i) (vp_updL (σ.2.1 i) k v) σ.2.2 = X) : (mw ad ca σ).set i (ad i, X) = mw ad ca (hL σ i k v) := by
  refine mw_set hi ?_ ?_
  · show ceK ad ca (kd i) i (σ.1 i) (va_up σ.2.1 i (vp_updL (σ.2.1 i) k v) i) σ.2.2 = X
    rw [va_up_self]
    exact hX
  · intro j hj
    show ceK ad ca (kd j) j (σ.1 j) (va_up σ.2.1 i (vp_updL (σ.2.1 i) k v) j) σ.2.2 = _
    rw [va_up_ne _ _ hj]
theorem mw_D {ad : Nat → Nat} {ca : Nat → ClassId} {A : Nat → Prop} {σ : HS} (h : va_D A (mw ad ca σ)) (σ' : HS) : va_D A (mw ad ca σ') := by
  refine ⟨fun i j p q hp hq e => ?_, fun k q hq => ?_⟩
  · obtain ⟨hi, rfl⟩ := mw_at hp
    obtain ⟨hj, rfl⟩ := mw_at hq
    exact h.1 i j _ _ (mw_get hi) (mw_get hj) e
  · obtain ⟨hk, rfl⟩ := mw_at hq
    have := h.2 k _ (mw_get (σ := σ) hk)
    exact this
theorem mw_A {ad : Nat → Nat} {ca : Nat → ClassId} {σ : HS} (σ' : HS) {sz q : Nat} (h : va_A (mw ad ca σ) sz q) : va_A (mw ad ca σ') sz q := by
  rcases h with ⟨k, e, h⟩ | h
  · obtain ⟨hk, e1⟩ := mw_at h
    have : q = ad k := congrArg Prod.fst e1
    subst this
    exact Or.inl ⟨k, _, mw_get (σ := σ') hk⟩
  · exact Or.inr h
theorem tys_get {ca : Nat → ClassId} {i : Nat} (hi : i < NN) (h : 12 ≤ kd i) : ∃ t : Nat, (tys ca)[t]? = some (ca i, aty (kd i)) := by
  have hm : i ∈ arL := List.mem_filter.mpr ⟨List.mem_range.mpr hi, by simp [h]⟩
  obtain ⟨t, ht⟩ := List.mem_iff_getElem?.mp hm
  exact ⟨t, by unfold tys; rw [List.getElem?_map, ht]; rfl⟩
/-! locals by their places -/
def LV (ls : Array Slot) (nL : Nat) (vs : List (Option Value)) : Prop := ls.size = nL ∧ lv_wf ls ∧ ∀ (i : Nat) (v : Value), vs[i]? = some (some v) → ls[i]? = some (.val v)
def lvL (vs : List (Option Value)) : List (Nat × Value) := (List.range vs.length).filterMap (fun i => (vs.getD i none).map (fun v => (i, v)))
theorem lvL_mem {vs : List (Option Value)} {q : Nat × Value} : q ∈ lvL vs ↔ vs[q.1]? = some (some q.2) := by
  unfold lvL
  rw [List.mem_filterMap]
  constructor
  · rintro ⟨i, hi, h⟩
    have hi := List.mem_range.mp hi
    have hg : vs[i]? = some vs[i] := List.getElem?_eq_getElem hi
    simp only [List.getD, hg, Option.getD_some] at h
    cases hv : vs[i] with
    | none => rw [hv] at h; simp at h
    | some v => rw [hv] at h hg; simp at h; subst h; exact hg
  · intro h
    have hi : q.1 < vs.length := (List.getElem?_eq_some_iff.mp h).1
    refine ⟨q.1, List.mem_range.mpr hi, ?_⟩
    simp [List.getD, h]
theorem LV.has {ls : Array Slot} {nL : Nat} {vs : List (Option Value)} (h : LV ls nL vs) : lv_has ls nL (lvL vs) := ⟨h.1, h.2.1, fun q hq => h.2.2 q.1 q.2 (lvL_mem.mp hq)⟩
def catOk (vs : List (Option Value)) (i : Nat) : Bool := match i with
  | 0 => true
  | j + 1 => match vs[j]? with
    | some (some v) => !(v.category == 2)
    | _ => true
theorem catOk_use {vs : List (Option Value)} {i j : Nat} {v : Value} (h : catOk vs i = true) (e : j + 1 = i) (hv : vs[j]? = some (some v)) : (v.category == 2) = false := by
  subst e
  simp only [catOk, hv] at h
  simpa using h
theorem LV.store1 {ls : Array Slot} {nL i : Nat} {x : Value} {vs : List (Option Value)} (hc : catOk vs i = true) (h : lv_has ls nL ((i, x) :: (lvL vs).filter (fun q => !(q.1 == i) && !(q.1 + 1 == i && q.2.category == 2)))) : LV ls nL (vs.set i (some x)) := by
  refine ⟨h.1, h.2.1, fun j v hj => ?_⟩
  rw [List.getElem?_set] at hj
  by_cases e : i = j
  · subst e
    rw [if_pos rfl] at hj
    split at hj
    · cases hj
      exact h.2.2 (i, x) List.mem_cons_self
    · cases hj
  · rw [if_neg e] at hj
    refine h.2.2 (j, v) (List.mem_cons_of_mem _ (List.mem_filter.mpr ⟨lvL_mem.mpr hj, ?_⟩))
    have e1 : (j == i) = false := by simp; exact fun h => e h.symm
    by_cases e2 : j + 1 = i
    · have := catOk_use hc e2 hj
      simp [e1, this]
    · have e3 : (j + 1 == i) = false := by simpa using e2
      simp [e1, e3]
theorem LV.store2 {ls : Array Slot} {nL i : Nat} {x : Value} {vs : List (Option Value)} (hc : catOk vs i = true) (h : lv_has ls nL ((i, x) :: (lvL vs).filter (fun q => !(q.1 == i) && (!(q.1 == i + 1) && !(q.1 + 1 == i && q.2.category == 2))))) : LV ls nL ((vs.set (i + 1) none).set i (some x)) := by
  refine ⟨h.1, h.2.1, fun j v hj => ?_⟩
  rw [List.getElem?_set] at hj
  by_cases e : i = j
  · subst e
    rw [if_pos rfl] at hj
    split at hj
    · cases hj
      exact h.2.2 (i, x) List.mem_cons_self
    · cases hj
  · rw [if_neg e, List.getElem?_set] at hj
    by_cases e4 : i + 1 = j
    · rw [if_pos e4] at hj
      split at hj <;> cases hj
    · rw [if_neg e4] at hj
      refine h.2.2 (j, v) (List.mem_cons_of_mem _ (List.mem_filter.mpr ⟨lvL_mem.mpr hj, ?_⟩))
      have e1 : (j == i) = false := by simp; exact fun h => e h.symm
      have e5 : (j == i + 1) = false := by simp; exact fun h => e4 h.symm
      by_cases e2 : j + 1 = i
      · have := catOk_use hc e2 hj
        simp [e1, e5, this]
      · have e3 : (j + 1 == i) = false := by simpa using e2
        simp [e1, e3, e5]
def entL (av : List Value) : List (Option Value) := av.flatMap (fun v => if v.category = 2 then [some v, none] else [some v])
theorem entL_args : ∀ (av : List Value) (k i : Nat) (v : Value), (entL av)[i]? = some (some v) → (k + i, v) ∈ lv_args k av
  | [], k, i, v, h => by simp [entL] at h
  | a :: av, k, i, v, h => by
    have he : entL (a :: av) = (if a.category = 2 then [some a, none] else [some a]) ++ entL av := rfl
    rw [he] at h
    unfold lv_args
    by_cases c : a.category = 2
    · rw [if_pos c] at h ⊢
      match i, h with
      | 0, h => simp at h; subst h; simp
      | 1, h => simp at h
      | i + 2, h =>
        have h' : (entL av)[i]? = some (some v) := by simpa using h
        have := entL_args av (k + 2) i v h'
        rw [show k + (i + 2) = k + 2 + i by omega]
        exact List.mem_cons_of_mem _ this
    · rw [if_neg c] at h ⊢
      match i, h with
      | 0, h => simp at h; subst h; simp
      | i + 1, h =>
        have h' : (entL av)[i]? = some (some v) := by simpa using h
        have := entL_args av (k + 1) i v h'
        rw [show k + (i + 1) = k + 1 + i by omega]
        exact List.mem_cons_of_mem _ this
theorem LV.entry (av : List Value) {n : Nat} (h : (lg_sl av).length ≤ n) (z : Nat) : LV ((lg_sl av ++ List.replicate (n - (lg_sl av).length) Slot.unset).toArray) n (entL av ++ List.replicate z none) := by
  have h0 := lv_entry av h
  refine ⟨h0.1, h0.2.1, fun i v hv => ?_⟩
  rw [List.getElem?_append] at hv
  split at hv
  · have := entL_args av 0 i v hv
    rw [Nat.zero_add] at this
    exact h0.2.2 (i, v) this
  · rw [List.getElem?_replicate] at hv
    split at hv <;> cases hv
theorem LV.sub {ls : Array Slot} {nL : Nat} {vs vs' : List (Option Value)} (h : LV ls nL vs) (hs : ∀ (i : Nat) (v : Value), vs'[i]? = some (some v) → vs[i]? = some (some v)) : LV ls nL vs' := ⟨h.1, h.2.1, fun i v hv => h.2.2 i v (hs i v hv)⟩
end
section
/-! the walk of a method over the world: context, judgement, rows -/
abbrev GT : Type := Program × Launch × Env × Room × State × MethodId × Array Value × List Frame × Method × Code × Nat × Nat × (State → Prop) × va_G × (Nat → Prop) × Heap × Nat
/-- from the place pc, with locals vs, operands st and the world σ, the method comes to its end -/
def AW (ad : Nat → Nat) (ca : Nat → ClassId) (Γ : GT) (pc : Nat) (vs : List (Option Value)) (st : List Value) (σ : HS) : Prop := match Γ with
  | (p, l, e, R, s, m, args, below, meth, c, kc, ks, Q, D, A, H0, nL) => ∀ (H : Heap) (locs : List Loc) (ls : Array Slot), va_P D vwCl (mw ad ca σ) H → va_S A H0 H locs → LV ls nL vs → W p l e R s m args below meth c H locs kc ks Q (F0 m pc ls st)
/-- what stays while a method is walked -/
def CT (ad : Nat → Nat) (ca : Nat → ClassId) (Γ : GT) (cc : ByteArray) (own : String) (l0 : Launch) (D0 : va_G) (fr lo nL0 : Nat) : Prop := match Γ with
  | (p, l, e, R, s, m, args, below, meth, c, kc, ks, Q, D, A, H0, nL) => CallFix p m c cc nL s args gw_tbl own ∧ va_K D vwCl (tys ca) s ∧ EN s ∧ (∀ σ : HS, va_D A (mw ad ca σ)) ∧ (∀ q, H0.size ≤ q → A q) ∧ l = l0 ∧ D = D0 ∧ fr ≤ R.frames ∧ lo ≤ R.locals ∧ kc ≤ R.cells ∧ ks ≤ R.slots ∧ nL = nL0
section AWR
variable {ad : Nat → Nat} {ca : Nat → ClassId} {Γ : GT} {cc : ByteArray} {own : String} {l0 : Launch} {D0 : va_G} {fr lo nL0 : Nat} {pc : Nat} {vs : List (Option Value)} {st : List Value} {σ : HS}
theorem AW.sub {vs' : List (Option Value)} (hs : ∀ (i : Nat) (v : Value), vs'[i]? = some (some v) → vs[i]? = some (some v)) (k : AW ad ca Γ pc vs' st σ) : AW ad ca Γ pc vs st σ := by
  obtain ⟨p, l, e, R, s, m, args, below, meth, c, kc, ks, Q, D, A, H0, nL⟩ := Γ
  intro H locs ls hP hS hl
  exact k H locs ls hP hS (hl.sub hs)
-- GENERATED by rules.py
theorem a_iconst (C : CT ad ca Γ cc own l0 D0 fr lo nL0) {n : Int} {v : Int32} (hd : decode cc pc = .ok (.iconst n, 1)) (hv : Int32.ofInt n = v) (k : AW ad ca Γ (pc + 1) vs (.int v :: st) σ) : AW ad ca Γ pc vs st σ := by
  obtain ⟨p, l, e, R, s, m, args, below, meth, c, kc, ks, Q, D, A, H0, nL⟩ := Γ
  obtain ⟨⟨hx, hb, hml, hown, hts⟩, hK, hE, hD, hA0, rfl, rfl, hfr, hlo, hkc, hks, rfl⟩ := C
  intro H locs ls hP hS hl
  exact lv_iconst hx hb hd hv (k H locs ls hP hS hl)
theorem a_bipush (C : CT ad ca Γ cc own l0 D0 fr lo nL0) {n : Int} {v : Int32} (hd : decode cc pc = .ok (.bipush n, 2)) (hv : (Int8.ofInt n).toInt32 = v) (k : AW ad ca Γ (pc + 2) vs (.int v :: st) σ) : AW ad ca Γ pc vs st σ := by
  obtain ⟨p, l, e, R, s, m, args, below, meth, c, kc, ks, Q, D, A, H0, nL⟩ := Γ
  obtain ⟨⟨hx, hb, hml, hown, hts⟩, hK, hE, hD, hA0, rfl, rfl, hfr, hlo, hkc, hks, rfl⟩ := C
  intro H locs ls hP hS hl
  exact lv_bipush hx hb hd hv (k H locs ls hP hS hl)
theorem a_sipush (C : CT ad ca Γ cc own l0 D0 fr lo nL0) {n : Int} {v : Int32} (hd : decode cc pc = .ok (.sipush n, 3)) (hv : (Int16.ofInt n).toInt32 = v) (k : AW ad ca Γ (pc + 3) vs (.int v :: st) σ) : AW ad ca Γ pc vs st σ := by
  obtain ⟨p, l, e, R, s, m, args, below, meth, c, kc, ks, Q, D, A, H0, nL⟩ := Γ
  obtain ⟨⟨hx, hb, hml, hown, hts⟩, hK, hE, hD, hA0, rfl, rfl, hfr, hlo, hkc, hks, rfl⟩ := C
  intro H locs ls hP hS hl
  exact lv_sipush hx hb hd hv (k H locs ls hP hS hl)
theorem a_lconst (C : CT ad ca Γ cc own l0 D0 fr lo nL0) {n : Fin 2} {v : Int64} (hd : decode cc pc = .ok (.lconst n, 1)) (hv : Int64.ofNat (n : Nat) = v) (k : AW ad ca Γ (pc + 1) vs (.long v :: st) σ) : AW ad ca Γ pc vs st σ := by
  obtain ⟨p, l, e, R, s, m, args, below, meth, c, kc, ks, Q, D, A, H0, nL⟩ := Γ
  obtain ⟨⟨hx, hb, hml, hown, hts⟩, hK, hE, hD, hA0, rfl, rfl, hfr, hlo, hkc, hks, rfl⟩ := C
  intro H locs ls hP hS hl
  exact lv_lconst hx hb hd hv (k H locs ls hP hS hl)
theorem a_ldc (C : CT ad ca Γ cc own l0 D0 fr lo nL0) {ix : Nat} {v : Int32} (hd : decode cc pc = .ok (.ldc ix, 2)) (hw : Cond.constant own ix v ∈ gw_tbl) (k : AW ad ca Γ (pc + 2) vs (.int v :: st) σ) : AW ad ca Γ pc vs st σ := by
  obtain ⟨p, l, e, R, s, m, args, below, meth, c, kc, ks, Q, D, A, H0, nL⟩ := Γ
  obtain ⟨⟨hx, hb, hml, hown, hts⟩, hK, hE, hD, hA0, rfl, rfl, hfr, hlo, hkc, hks, rfl⟩ := C
  intro H locs ls hP hS hl
  exact lv_ldc hx hb hown (hts _ hw) hd (k H locs ls hP hS hl)
theorem a_ldcw (C : CT ad ca Γ cc own l0 D0 fr lo nL0) {ix : Nat} {v : Int32} (hd : decode cc pc = .ok (.ldc_w ix, 3)) (hw : Cond.constant own ix v ∈ gw_tbl) (k : AW ad ca Γ (pc + 3) vs (.int v :: st) σ) : AW ad ca Γ pc vs st σ := by
  obtain ⟨p, l, e, R, s, m, args, below, meth, c, kc, ks, Q, D, A, H0, nL⟩ := Γ
  obtain ⟨⟨hx, hb, hml, hown, hts⟩, hK, hE, hD, hA0, rfl, rfl, hfr, hlo, hkc, hks, rfl⟩ := C
  intro H locs ls hP hS hl
  exact lv_ldcw hx hb hown (hts _ hw) hd (k H locs ls hP hS hl)
theorem a_ldc2 (C : CT ad ca Γ cc own l0 D0 fr lo nL0) {ix : Nat} {v : Int64} (hd : decode cc pc = .ok (.ldc2_w ix, 3)) (hw : Cond.constantLong own ix v ∈ gw_tbl) (k : AW ad ca Γ (pc + 3) vs (.long v :: st) σ) : AW ad ca Γ pc vs st σ := by
  obtain ⟨p, l, e, R, s, m, args, below, meth, c, kc, ks, Q, D, A, H0, nL⟩ := Γ
  obtain ⟨⟨hx, hb, hml, hown, hts⟩, hK, hE, hD, hA0, rfl, rfl, hfr, hlo, hkc, hks, rfl⟩ := C
  intro H locs ls hP hS hl
  exact lv_ldc2 hx hb hown (hts _ hw) hd (k H locs ls hP hS hl)
theorem a_iload_n (C : CT ad ca Γ cc own l0 D0 fr lo nL0) {q : Fin 4} {i : Nat} {x : Int32} (hd : decode cc pc = .ok (.iload_n q, 1)) (hi : (q : Nat) = i) (hv : vs[i]? = some (some (.int x))) (k : AW ad ca Γ (pc + 1) vs (.int x :: st) σ) : AW ad ca Γ pc vs st σ := by
  obtain ⟨p, l, e, R, s, m, args, below, meth, c, kc, ks, Q, D, A, H0, nL⟩ := Γ
  obtain ⟨⟨hx, hb, hml, hown, hts⟩, hK, hE, hD, hA0, rfl, rfl, hfr, hlo, hkc, hks, rfl⟩ := C
  intro H locs ls hP hS hl
  exact lv_iload_n hx hb hd hi (hl.2.2 _ _ hv) (k H locs ls hP hS hl)
theorem a_iload (C : CT ad ca Γ cc own l0 D0 fr lo nL0) {i : Nat} {x : Int32} (hd : decode cc pc = .ok (.iload i, 2)) (hv : vs[i]? = some (some (.int x))) (k : AW ad ca Γ (pc + 2) vs (.int x :: st) σ) : AW ad ca Γ pc vs st σ := by
  obtain ⟨p, l, e, R, s, m, args, below, meth, c, kc, ks, Q, D, A, H0, nL⟩ := Γ
  obtain ⟨⟨hx, hb, hml, hown, hts⟩, hK, hE, hD, hA0, rfl, rfl, hfr, hlo, hkc, hks, rfl⟩ := C
  intro H locs ls hP hS hl
  exact lv_iload hx hb hd (hl.2.2 _ _ hv) (k H locs ls hP hS hl)
theorem a_lload_n (C : CT ad ca Γ cc own l0 D0 fr lo nL0) {q : Fin 4} {i : Nat} {x : Int64} (hd : decode cc pc = .ok (.lload_n q, 1)) (hi : (q : Nat) = i) (hv : vs[i]? = some (some (.long x))) (k : AW ad ca Γ (pc + 1) vs (.long x :: st) σ) : AW ad ca Γ pc vs st σ := by
  obtain ⟨p, l, e, R, s, m, args, below, meth, c, kc, ks, Q, D, A, H0, nL⟩ := Γ
  obtain ⟨⟨hx, hb, hml, hown, hts⟩, hK, hE, hD, hA0, rfl, rfl, hfr, hlo, hkc, hks, rfl⟩ := C
  intro H locs ls hP hS hl
  exact lv_lload_n hx hb hd hi (hl.2.2 _ _ hv) (k H locs ls hP hS hl)
theorem a_lload (C : CT ad ca Γ cc own l0 D0 fr lo nL0) {i : Nat} {x : Int64} (hd : decode cc pc = .ok (.lload i, 2)) (hv : vs[i]? = some (some (.long x))) (k : AW ad ca Γ (pc + 2) vs (.long x :: st) σ) : AW ad ca Γ pc vs st σ := by
  obtain ⟨p, l, e, R, s, m, args, below, meth, c, kc, ks, Q, D, A, H0, nL⟩ := Γ
  obtain ⟨⟨hx, hb, hml, hown, hts⟩, hK, hE, hD, hA0, rfl, rfl, hfr, hlo, hkc, hks, rfl⟩ := C
  intro H locs ls hP hS hl
  exact lv_lload hx hb hd (hl.2.2 _ _ hv) (k H locs ls hP hS hl)
theorem a_aload_n (C : CT ad ca Γ cc own l0 D0 fr lo nL0) {q : Fin 4} {i : Nat} {x : Nat} (hd : decode cc pc = .ok (.aload_n q, 1)) (hi : (q : Nat) = i) (hv : vs[i]? = some (some (.ref x))) (k : AW ad ca Γ (pc + 1) vs (.ref x :: st) σ) : AW ad ca Γ pc vs st σ := by
  obtain ⟨p, l, e, R, s, m, args, below, meth, c, kc, ks, Q, D, A, H0, nL⟩ := Γ
  obtain ⟨⟨hx, hb, hml, hown, hts⟩, hK, hE, hD, hA0, rfl, rfl, hfr, hlo, hkc, hks, rfl⟩ := C
  intro H locs ls hP hS hl
  exact lv_aload_n hx hb hd hi (hl.2.2 _ _ hv) (k H locs ls hP hS hl)
theorem a_aload (C : CT ad ca Γ cc own l0 D0 fr lo nL0) {i : Nat} {x : Nat} (hd : decode cc pc = .ok (.aload i, 2)) (hv : vs[i]? = some (some (.ref x))) (k : AW ad ca Γ (pc + 2) vs (.ref x :: st) σ) : AW ad ca Γ pc vs st σ := by
  obtain ⟨p, l, e, R, s, m, args, below, meth, c, kc, ks, Q, D, A, H0, nL⟩ := Γ
  obtain ⟨⟨hx, hb, hml, hown, hts⟩, hK, hE, hD, hA0, rfl, rfl, hfr, hlo, hkc, hks, rfl⟩ := C
  intro H locs ls hP hS hl
  exact lv_aload hx hb hd (hl.2.2 _ _ hv) (k H locs ls hP hS hl)
theorem a_istore_n (C : CT ad ca Γ cc own l0 D0 fr lo nL0) {q : Fin 4} {i : Nat} {x : Int32} (hd : decode cc pc = .ok (.istore_n q, 1)) (hi : (q : Nat) = i) (hn : i < nL0) (hc : catOk vs i = true) {vs1 : List (Option Value)} (hvs : vs.set i (some (.int x)) = vs1) (k : AW ad ca Γ (pc + 1) vs1 st σ) : AW ad ca Γ pc vs (.int x :: st) σ := by
  obtain ⟨p, l, e, R, s, m, args, below, meth, c, kc, ks, Q, D, A, H0, nL⟩ := Γ
  obtain ⟨⟨hx, hb, hml, hown, hts⟩, hK, hE, hD, hA0, rfl, rfl, hfr, hlo, hkc, hks, rfl⟩ := C
  intro H locs ls hP hS hl
  subst hvs
  exact lv_istore_n hx hb hd hi hl.has hn rfl (fun ls1 h1 => k H locs ls1 hP hS (LV.store1 hc h1))
theorem a_istore (C : CT ad ca Γ cc own l0 D0 fr lo nL0) {i : Nat} {x : Int32} (hd : decode cc pc = .ok (.istore i, 2)) (hn : i < nL0) (hc : catOk vs i = true) {vs1 : List (Option Value)} (hvs : vs.set i (some (.int x)) = vs1) (k : AW ad ca Γ (pc + 2) vs1 st σ) : AW ad ca Γ pc vs (.int x :: st) σ := by
  obtain ⟨p, l, e, R, s, m, args, below, meth, c, kc, ks, Q, D, A, H0, nL⟩ := Γ
  obtain ⟨⟨hx, hb, hml, hown, hts⟩, hK, hE, hD, hA0, rfl, rfl, hfr, hlo, hkc, hks, rfl⟩ := C
  intro H locs ls hP hS hl
  subst hvs
  exact lv_istore hx hb hd hl.has hn rfl (fun ls1 h1 => k H locs ls1 hP hS (LV.store1 hc h1))
theorem a_astore_n (C : CT ad ca Γ cc own l0 D0 fr lo nL0) {q : Fin 4} {i : Nat} {x : Nat} (hd : decode cc pc = .ok (.astore_n q, 1)) (hi : (q : Nat) = i) (hn : i < nL0) (hc : catOk vs i = true) {vs1 : List (Option Value)} (hvs : vs.set i (some (.ref x)) = vs1) (k : AW ad ca Γ (pc + 1) vs1 st σ) : AW ad ca Γ pc vs (.ref x :: st) σ := by
  obtain ⟨p, l, e, R, s, m, args, below, meth, c, kc, ks, Q, D, A, H0, nL⟩ := Γ
  obtain ⟨⟨hx, hb, hml, hown, hts⟩, hK, hE, hD, hA0, rfl, rfl, hfr, hlo, hkc, hks, rfl⟩ := C
  intro H locs ls hP hS hl
  subst hvs
  exact lv_astore_n hx hb hd hi hl.has hn rfl (fun ls1 h1 => k H locs ls1 hP hS (LV.store1 hc h1))
theorem a_astore (C : CT ad ca Γ cc own l0 D0 fr lo nL0) {i : Nat} {x : Nat} (hd : decode cc pc = .ok (.astore i, 2)) (hn : i < nL0) (hc : catOk vs i = true) {vs1 : List (Option Value)} (hvs : vs.set i (some (.ref x)) = vs1) (k : AW ad ca Γ (pc + 2) vs1 st σ) : AW ad ca Γ pc vs (.ref x :: st) σ := by
  obtain ⟨p, l, e, R, s, m, args, below, meth, c, kc, ks, Q, D, A, H0, nL⟩ := Γ
  obtain ⟨⟨hx, hb, hml, hown, hts⟩, hK, hE, hD, hA0, rfl, rfl, hfr, hlo, hkc, hks, rfl⟩ := C
  intro H locs ls hP hS hl
  subst hvs
  exact lv_astore hx hb hd hl.has hn rfl (fun ls1 h1 => k H locs ls1 hP hS (LV.store1 hc h1))
theorem a_lstore_n (C : CT ad ca Γ cc own l0 D0 fr lo nL0) {q : Fin 4} {i : Nat} {x : Int64} (hd : decode cc pc = .ok (.lstore_n q, 1)) (hi : (q : Nat) = i) (hn : i + 1 < nL0) (hc : catOk vs i = true) {vs1 : List (Option Value)} (hvs : (vs.set (i + 1) none).set i (some (.long x)) = vs1) (k : AW ad ca Γ (pc + 1) vs1 st σ) : AW ad ca Γ pc vs (.long x :: st) σ := by
  obtain ⟨p, l, e, R, s, m, args, below, meth, c, kc, ks, Q, D, A, H0, nL⟩ := Γ
  obtain ⟨⟨hx, hb, hml, hown, hts⟩, hK, hE, hD, hA0, rfl, rfl, hfr, hlo, hkc, hks, rfl⟩ := C
  intro H locs ls hP hS hl
  subst hvs
  exact lv_lstore_n hx hb hd hi hl.has hn rfl (fun ls1 h1 => k H locs ls1 hP hS (LV.store2 hc h1))
theorem a_lstore (C : CT ad ca Γ cc own l0 D0 fr lo nL0) {i : Nat} {x : Int64} (hd : decode cc pc = .ok (.lstore i, 2)) (hn : i + 1 < nL0) (hc : catOk vs i = true) {vs1 : List (Option Value)} (hvs : (vs.set (i + 1) none).set i (some (.long x)) = vs1) (k : AW ad ca Γ (pc + 2) vs1 st σ) : AW ad ca Γ pc vs (.long x :: st) σ := by
  obtain ⟨p, l, e, R, s, m, args, below, meth, c, kc, ks, Q, D, A, H0, nL⟩ := Γ
  obtain ⟨⟨hx, hb, hml, hown, hts⟩, hK, hE, hD, hA0, rfl, rfl, hfr, hlo, hkc, hks, rfl⟩ := C
  intro H locs ls hP hS hl
  subst hvs
  exact lv_lstore hx hb hd hl.has hn rfl (fun ls1 h1 => k H locs ls1 hP hS (LV.store2 hc h1))
theorem a_iinc (C : CT ad ca Γ cc own l0 D0 fr lo nL0) {i : Nat} {n : Int} {x v : Int32} (hd : decode cc pc = .ok (.iinc i n, 3)) (hv : vs[i]? = some (some (.int x))) (he : x + Int32.ofInt n = v) (hn : i < nL0) (hc : catOk vs i = true) {vs1 : List (Option Value)} (hvs : vs.set i (some (.int v)) = vs1) (k : AW ad ca Γ (pc + 3) vs1 st σ) : AW ad ca Γ pc vs st σ := by
  obtain ⟨p, l, e, R, s, m, args, below, meth, c, kc, ks, Q, D, A, H0, nL⟩ := Γ
  obtain ⟨⟨hx, hb, hml, hown, hts⟩, hK, hE, hD, hA0, rfl, rfl, hfr, hlo, hkc, hks, rfl⟩ := C
  intro H locs ls hP hS hl
  subst hvs
  have hm : (i, Value.int x) ∈ lvL vs := lvL_mem.mpr hv
  obtain ⟨j, hj⟩ := List.mem_iff_getElem?.mp hm
  exact lv_iinc hx hb hd hl.has hj he hn rfl (fun ls1 h1 => k H locs ls1 hP hS (LV.store1 hc h1))
theorem a_iadd (C : CT ad ca Γ cc own l0 D0 fr lo nL0) {x y : Int32} (hd : decode cc pc = .ok (.iadd, 1)) (k : AW ad ca Γ (pc + 1) vs (.int (x + y) :: st) σ) : AW ad ca Γ pc vs (.int y :: .int x :: st) σ := by
  obtain ⟨p, l, e, R, s, m, args, below, meth, c, kc, ks, Q, D, A, H0, nL⟩ := Γ
  obtain ⟨⟨hx, hb, hml, hown, hts⟩, hK, hE, hD, hA0, rfl, rfl, hfr, hlo, hkc, hks, rfl⟩ := C
  intro H locs ls hP hS hl
  exact lv_iadd hx hb hd (k H locs ls hP hS hl)
theorem a_isub (C : CT ad ca Γ cc own l0 D0 fr lo nL0) {x y : Int32} (hd : decode cc pc = .ok (.isub, 1)) (k : AW ad ca Γ (pc + 1) vs (.int (x - y) :: st) σ) : AW ad ca Γ pc vs (.int y :: .int x :: st) σ := by
  obtain ⟨p, l, e, R, s, m, args, below, meth, c, kc, ks, Q, D, A, H0, nL⟩ := Γ
  obtain ⟨⟨hx, hb, hml, hown, hts⟩, hK, hE, hD, hA0, rfl, rfl, hfr, hlo, hkc, hks, rfl⟩ := C
  intro H locs ls hP hS hl
  exact lv_isub hx hb hd (k H locs ls hP hS hl)
theorem a_imul (C : CT ad ca Γ cc own l0 D0 fr lo nL0) {x y : Int32} (hd : decode cc pc = .ok (.imul, 1)) (k : AW ad ca Γ (pc + 1) vs (.int (x * y) :: st) σ) : AW ad ca Γ pc vs (.int y :: .int x :: st) σ := by
  obtain ⟨p, l, e, R, s, m, args, below, meth, c, kc, ks, Q, D, A, H0, nL⟩ := Γ
  obtain ⟨⟨hx, hb, hml, hown, hts⟩, hK, hE, hD, hA0, rfl, rfl, hfr, hlo, hkc, hks, rfl⟩ := C
  intro H locs ls hP hS hl
  exact lv_imul hx hb hd (k H locs ls hP hS hl)
theorem a_iand (C : CT ad ca Γ cc own l0 D0 fr lo nL0) {x y : Int32} (hd : decode cc pc = .ok (.iand, 1)) (k : AW ad ca Γ (pc + 1) vs (.int (x &&& y) :: st) σ) : AW ad ca Γ pc vs (.int y :: .int x :: st) σ := by
  obtain ⟨p, l, e, R, s, m, args, below, meth, c, kc, ks, Q, D, A, H0, nL⟩ := Γ
  obtain ⟨⟨hx, hb, hml, hown, hts⟩, hK, hE, hD, hA0, rfl, rfl, hfr, hlo, hkc, hks, rfl⟩ := C
  intro H locs ls hP hS hl
  exact lv_iand hx hb hd (k H locs ls hP hS hl)
theorem a_ior (C : CT ad ca Γ cc own l0 D0 fr lo nL0) {x y : Int32} (hd : decode cc pc = .ok (.ior, 1)) (k : AW ad ca Γ (pc + 1) vs (.int (x ||| y) :: st) σ) : AW ad ca Γ pc vs (.int y :: .int x :: st) σ := by
  obtain ⟨p, l, e, R, s, m, args, below, meth, c, kc, ks, Q, D, A, H0, nL⟩ := Γ
  obtain ⟨⟨hx, hb, hml, hown, hts⟩, hK, hE, hD, hA0, rfl, rfl, hfr, hlo, hkc, hks, rfl⟩ := C
  intro H locs ls hP hS hl
  exact lv_ior hx hb hd (k H locs ls hP hS hl)
theorem a_ixor (C : CT ad ca Γ cc own l0 D0 fr lo nL0) {x y : Int32} (hd : decode cc pc = .ok (.ixor, 1)) (k : AW ad ca Γ (pc + 1) vs (.int (x ^^^ y) :: st) σ) : AW ad ca Γ pc vs (.int y :: .int x :: st) σ := by
  obtain ⟨p, l, e, R, s, m, args, below, meth, c, kc, ks, Q, D, A, H0, nL⟩ := Γ
  obtain ⟨⟨hx, hb, hml, hown, hts⟩, hK, hE, hD, hA0, rfl, rfl, hfr, hlo, hkc, hks, rfl⟩ := C
  intro H locs ls hP hS hl
  exact lv_ixor hx hb hd (k H locs ls hP hS hl)
theorem a_ishl (C : CT ad ca Γ cc own l0 D0 fr lo nL0) {x y : Int32} (hd : decode cc pc = .ok (.ishl, 1)) (k : AW ad ca Γ (pc + 1) vs (.int (x <<< (y &&& 31)) :: st) σ) : AW ad ca Γ pc vs (.int y :: .int x :: st) σ := by
  obtain ⟨p, l, e, R, s, m, args, below, meth, c, kc, ks, Q, D, A, H0, nL⟩ := Γ
  obtain ⟨⟨hx, hb, hml, hown, hts⟩, hK, hE, hD, hA0, rfl, rfl, hfr, hlo, hkc, hks, rfl⟩ := C
  intro H locs ls hP hS hl
  exact lv_ishl hx hb hd (k H locs ls hP hS hl)
theorem a_ishr (C : CT ad ca Γ cc own l0 D0 fr lo nL0) {x y : Int32} (hd : decode cc pc = .ok (.ishr, 1)) (k : AW ad ca Γ (pc + 1) vs (.int (x >>> (y &&& 31)) :: st) σ) : AW ad ca Γ pc vs (.int y :: .int x :: st) σ := by
  obtain ⟨p, l, e, R, s, m, args, below, meth, c, kc, ks, Q, D, A, H0, nL⟩ := Γ
  obtain ⟨⟨hx, hb, hml, hown, hts⟩, hK, hE, hD, hA0, rfl, rfl, hfr, hlo, hkc, hks, rfl⟩ := C
  intro H locs ls hP hS hl
  exact lv_ishr hx hb hd (k H locs ls hP hS hl)
theorem a_iushr (C : CT ad ca Γ cc own l0 D0 fr lo nL0) {x y : Int32} (hd : decode cc pc = .ok (.iushr, 1)) (k : AW ad ca Γ (pc + 1) vs (.int (x.toUInt32 >>> (y.toUInt32 &&& Int32.toUInt32 31)).toInt32 :: st) σ) : AW ad ca Γ pc vs (.int y :: .int x :: st) σ := by
  obtain ⟨p, l, e, R, s, m, args, below, meth, c, kc, ks, Q, D, A, H0, nL⟩ := Γ
  obtain ⟨⟨hx, hb, hml, hown, hts⟩, hK, hE, hD, hA0, rfl, rfl, hfr, hlo, hkc, hks, rfl⟩ := C
  intro H locs ls hP hS hl
  exact lv_iushr hx hb hd rfl (k H locs ls hP hS hl)
theorem a_idiv (C : CT ad ca Γ cc own l0 D0 fr lo nL0) {x y : Int32} (hd : decode cc pc = .ok (.idiv, 1)) (hne : ¬ y = 0) (k : AW ad ca Γ (pc + 1) vs (.int (x / y) :: st) σ) : AW ad ca Γ pc vs (.int y :: .int x :: st) σ := by
  obtain ⟨p, l, e, R, s, m, args, below, meth, c, kc, ks, Q, D, A, H0, nL⟩ := Γ
  obtain ⟨⟨hx, hb, hml, hown, hts⟩, hK, hE, hD, hA0, rfl, rfl, hfr, hlo, hkc, hks, rfl⟩ := C
  intro H locs ls hP hS hl
  exact lv_idiv hx hb hd hne (k H locs ls hP hS hl)
theorem a_irem (C : CT ad ca Γ cc own l0 D0 fr lo nL0) {x y : Int32} (hd : decode cc pc = .ok (.irem, 1)) (hne : ¬ y = 0) (k : AW ad ca Γ (pc + 1) vs (.int (x - x / y * y) :: st) σ) : AW ad ca Γ pc vs (.int y :: .int x :: st) σ := by
  obtain ⟨p, l, e, R, s, m, args, below, meth, c, kc, ks, Q, D, A, H0, nL⟩ := Γ
  obtain ⟨⟨hx, hb, hml, hown, hts⟩, hK, hE, hD, hA0, rfl, rfl, hfr, hlo, hkc, hks, rfl⟩ := C
  intro H locs ls hP hS hl
  exact lv_irem hx hb hd hne (k H locs ls hP hS hl)
theorem a_ineg (C : CT ad ca Γ cc own l0 D0 fr lo nL0) {x : Int32} (hd : decode cc pc = .ok (.ineg, 1)) (k : AW ad ca Γ (pc + 1) vs (.int (-x) :: st) σ) : AW ad ca Γ pc vs (.int x :: st) σ := by
  obtain ⟨p, l, e, R, s, m, args, below, meth, c, kc, ks, Q, D, A, H0, nL⟩ := Γ
  obtain ⟨⟨hx, hb, hml, hown, hts⟩, hK, hE, hD, hA0, rfl, rfl, hfr, hlo, hkc, hks, rfl⟩ := C
  intro H locs ls hP hS hl
  exact lv_ineg hx hb hd (k H locs ls hP hS hl)
theorem a_ladd (C : CT ad ca Γ cc own l0 D0 fr lo nL0) {x y : Int64} (hd : decode cc pc = .ok (.ladd, 1)) (k : AW ad ca Γ (pc + 1) vs (.long (x + y) :: st) σ) : AW ad ca Γ pc vs (.long y :: .long x :: st) σ := by
  obtain ⟨p, l, e, R, s, m, args, below, meth, c, kc, ks, Q, D, A, H0, nL⟩ := Γ
  obtain ⟨⟨hx, hb, hml, hown, hts⟩, hK, hE, hD, hA0, rfl, rfl, hfr, hlo, hkc, hks, rfl⟩ := C
  intro H locs ls hP hS hl
  exact lv_ladd hx hb hd (k H locs ls hP hS hl)
theorem a_lmul (C : CT ad ca Γ cc own l0 D0 fr lo nL0) {x y : Int64} (hd : decode cc pc = .ok (.lmul, 1)) (k : AW ad ca Γ (pc + 1) vs (.long (x * y) :: st) σ) : AW ad ca Γ pc vs (.long y :: .long x :: st) σ := by
  obtain ⟨p, l, e, R, s, m, args, below, meth, c, kc, ks, Q, D, A, H0, nL⟩ := Γ
  obtain ⟨⟨hx, hb, hml, hown, hts⟩, hK, hE, hD, hA0, rfl, rfl, hfr, hlo, hkc, hks, rfl⟩ := C
  intro H locs ls hP hS hl
  exact lv_lmul hx hb hd (k H locs ls hP hS hl)
theorem a_lcmp (C : CT ad ca Γ cc own l0 D0 fr lo nL0) {x y : Int64} (hd : decode cc pc = .ok (.lcmp, 1)) (k : AW ad ca Γ (pc + 1) vs (.int (lg_cmp x y) :: st) σ) : AW ad ca Γ pc vs (.long y :: .long x :: st) σ := by
  obtain ⟨p, l, e, R, s, m, args, below, meth, c, kc, ks, Q, D, A, H0, nL⟩ := Γ
  obtain ⟨⟨hx, hb, hml, hown, hts⟩, hK, hE, hD, hA0, rfl, rfl, hfr, hlo, hkc, hks, rfl⟩ := C
  intro H locs ls hP hS hl
  exact W.lcmp hx hb hd (k H locs ls hP hS hl)
theorem a_i2l (C : CT ad ca Γ cc own l0 D0 fr lo nL0) {x : Int32} (hd : decode cc pc = .ok (.i2l, 1)) (k : AW ad ca Γ (pc + 1) vs (.long (x.toInt64) :: st) σ) : AW ad ca Γ pc vs (.int x :: st) σ := by
  obtain ⟨p, l, e, R, s, m, args, below, meth, c, kc, ks, Q, D, A, H0, nL⟩ := Γ
  obtain ⟨⟨hx, hb, hml, hown, hts⟩, hK, hE, hD, hA0, rfl, rfl, hfr, hlo, hkc, hks, rfl⟩ := C
  intro H locs ls hP hS hl
  exact lv_i2l hx hb hd rfl (k H locs ls hP hS hl)
theorem a_l2i (C : CT ad ca Γ cc own l0 D0 fr lo nL0) {x : Int64} (hd : decode cc pc = .ok (.l2i, 1)) (k : AW ad ca Γ (pc + 1) vs (.int (x.toInt32) :: st) σ) : AW ad ca Γ pc vs (.long x :: st) σ := by
  obtain ⟨p, l, e, R, s, m, args, below, meth, c, kc, ks, Q, D, A, H0, nL⟩ := Γ
  obtain ⟨⟨hx, hb, hml, hown, hts⟩, hK, hE, hD, hA0, rfl, rfl, hfr, hlo, hkc, hks, rfl⟩ := C
  intro H locs ls hP hS hl
  exact lv_l2i hx hb hd rfl (k H locs ls hP hS hl)
theorem a_i2b (C : CT ad ca Γ cc own l0 D0 fr lo nL0) {x : Int32} (hd : decode cc pc = .ok (.i2b, 1)) (k : AW ad ca Γ (pc + 1) vs (.int (x.toInt8.toInt32) :: st) σ) : AW ad ca Γ pc vs (.int x :: st) σ := by
  obtain ⟨p, l, e, R, s, m, args, below, meth, c, kc, ks, Q, D, A, H0, nL⟩ := Γ
  obtain ⟨⟨hx, hb, hml, hown, hts⟩, hK, hE, hD, hA0, rfl, rfl, hfr, hlo, hkc, hks, rfl⟩ := C
  intro H locs ls hP hS hl
  exact lv_i2b hx hb hd rfl (k H locs ls hP hS hl)
theorem a_i2c (C : CT ad ca Γ cc own l0 D0 fr lo nL0) {x : Int32} (hd : decode cc pc = .ok (.i2c, 1)) (k : AW ad ca Γ (pc + 1) vs (.int ((x.toUInt32 % 65536).toInt32) :: st) σ) : AW ad ca Γ pc vs (.int x :: st) σ := by
  obtain ⟨p, l, e, R, s, m, args, below, meth, c, kc, ks, Q, D, A, H0, nL⟩ := Γ
  obtain ⟨⟨hx, hb, hml, hown, hts⟩, hK, hE, hD, hA0, rfl, rfl, hfr, hlo, hkc, hks, rfl⟩ := C
  intro H locs ls hP hS hl
  exact lv_i2c hx hb hd rfl (k H locs ls hP hS hl)
theorem a_dup (C : CT ad ca Γ cc own l0 D0 fr lo nL0) {v : Value} (hd : decode cc pc = .ok (.dup, 1)) (hv : v.category = 1) (k : AW ad ca Γ (pc + 1) vs (v :: v :: st) σ) : AW ad ca Γ pc vs (v :: st) σ := by
  obtain ⟨p, l, e, R, s, m, args, below, meth, c, kc, ks, Q, D, A, H0, nL⟩ := Γ
  obtain ⟨⟨hx, hb, hml, hown, hts⟩, hK, hE, hD, hA0, rfl, rfl, hfr, hlo, hkc, hks, rfl⟩ := C
  intro H locs ls hP hS hl
  exact lv_dup hx hb hd hv (k H locs ls hP hS hl)
theorem a_dup2 (C : CT ad ca Γ cc own l0 D0 fr lo nL0) {v w : Value} (hd : decode cc pc = .ok (.dup2, 1)) (hv : v.category = 1) (hw : w.category = 1) (k : AW ad ca Γ (pc + 1) vs (v :: w :: v :: w :: st) σ) : AW ad ca Γ pc vs (v :: w :: st) σ := by
  obtain ⟨p, l, e, R, s, m, args, below, meth, c, kc, ks, Q, D, A, H0, nL⟩ := Γ
  obtain ⟨⟨hx, hb, hml, hown, hts⟩, hK, hE, hD, hA0, rfl, rfl, hfr, hlo, hkc, hks, rfl⟩ := C
  intro H locs ls hP hS hl
  exact lv_dup2_11 hx hb hd hv hw (k H locs ls hP hS hl)
theorem a_dup_x1 (C : CT ad ca Γ cc own l0 D0 fr lo nL0) {v w : Value} (hd : decode cc pc = .ok (.dup_x1, 1)) (hv : v.category = 1) (hw : w.category = 1) (k : AW ad ca Γ (pc + 1) vs (v :: w :: v :: st) σ) : AW ad ca Γ pc vs (v :: w :: st) σ := by
  obtain ⟨p, l, e, R, s, m, args, below, meth, c, kc, ks, Q, D, A, H0, nL⟩ := Γ
  obtain ⟨⟨hx, hb, hml, hown, hts⟩, hK, hE, hD, hA0, rfl, rfl, hfr, hlo, hkc, hks, rfl⟩ := C
  intro H locs ls hP hS hl
  exact lv_dup_x1 hx hb hd hv hw (k H locs ls hP hS hl)
theorem a_pop (C : CT ad ca Γ cc own l0 D0 fr lo nL0) {v : Value} (hd : decode cc pc = .ok (.pop, 1)) (hv : v.category = 1) (k : AW ad ca Γ (pc + 1) vs st σ) : AW ad ca Γ pc vs (v :: st) σ := by
  obtain ⟨p, l, e, R, s, m, args, below, meth, c, kc, ks, Q, D, A, H0, nL⟩ := Γ
  obtain ⟨⟨hx, hb, hml, hown, hts⟩, hK, hE, hD, hA0, rfl, rfl, hfr, hlo, hkc, hks, rfl⟩ := C
  intro H locs ls hP hS hl
  exact lv_pop hx hb hd hv (k H locs ls hP hS hl)
theorem a_goto (C : CT ad ca Γ cc own l0 D0 fr lo nL0) {off : Int} {tgt : Nat} (hd : decode cc pc = .ok (.goto off, 3)) (ht : (pc : Int) + off = (tgt : Int)) (k : AW ad ca Γ tgt vs st σ) : AW ad ca Γ pc vs st σ := by
  obtain ⟨p, l, e, R, s, m, args, below, meth, c, kc, ks, Q, D, A, H0, nL⟩ := Γ
  obtain ⟨⟨hx, hb, hml, hown, hts⟩, hK, hE, hD, hA0, rfl, rfl, hfr, hlo, hkc, hks, rfl⟩ := C
  intro H locs ls hP hS hl
  exact lv_goto hx hb hd ht (k H locs ls hP hS hl)
theorem a_if_eq (C : CT ad ca Γ cc own l0 D0 fr lo nL0) {x : Int32} {off : Int} {tgt : Nat} (hd : decode cc pc = .ok (.ifCond .eq off, 3)) (ht : (pc : Int) + off = (tgt : Int)) (kt : x = 0 → AW ad ca Γ tgt vs st σ) (kf : ¬ x = 0 → AW ad ca Γ (pc + 3) vs st σ) : AW ad ca Γ pc vs (.int x :: st) σ := by
  obtain ⟨p, l, e, R, s, m, args, below, meth, c, kc, ks, Q, D, A, H0, nL⟩ := Γ
  obtain ⟨⟨hx, hb, hml, hown, hts⟩, hK, hE, hD, hA0, rfl, rfl, hfr, hlo, hkc, hks, rfl⟩ := C
  intro H locs ls hP hS hl
  exact lv_if_eq hx hb hd ht (fun h => kt h H locs ls hP hS hl) (fun h => kf h H locs ls hP hS hl)
theorem a_if_ne (C : CT ad ca Γ cc own l0 D0 fr lo nL0) {x : Int32} {off : Int} {tgt : Nat} (hd : decode cc pc = .ok (.ifCond .ne off, 3)) (ht : (pc : Int) + off = (tgt : Int)) (kt : ¬ x = 0 → AW ad ca Γ tgt vs st σ) (kf : x = 0 → AW ad ca Γ (pc + 3) vs st σ) : AW ad ca Γ pc vs (.int x :: st) σ := by
  obtain ⟨p, l, e, R, s, m, args, below, meth, c, kc, ks, Q, D, A, H0, nL⟩ := Γ
  obtain ⟨⟨hx, hb, hml, hown, hts⟩, hK, hE, hD, hA0, rfl, rfl, hfr, hlo, hkc, hks, rfl⟩ := C
  intro H locs ls hP hS hl
  exact lv_if_ne hx hb hd ht (fun h => kt h H locs ls hP hS hl) (fun h => kf h H locs ls hP hS hl)
theorem a_if_lt (C : CT ad ca Γ cc own l0 D0 fr lo nL0) {x : Int32} {off : Int} {tgt : Nat} (hd : decode cc pc = .ok (.ifCond .lt off, 3)) (ht : (pc : Int) + off = (tgt : Int)) (kt : x < 0 → AW ad ca Γ tgt vs st σ) (kf : ¬ x < 0 → AW ad ca Γ (pc + 3) vs st σ) : AW ad ca Γ pc vs (.int x :: st) σ := by
  obtain ⟨p, l, e, R, s, m, args, below, meth, c, kc, ks, Q, D, A, H0, nL⟩ := Γ
  obtain ⟨⟨hx, hb, hml, hown, hts⟩, hK, hE, hD, hA0, rfl, rfl, hfr, hlo, hkc, hks, rfl⟩ := C
  intro H locs ls hP hS hl
  exact lv_if_lt hx hb hd ht (fun h => kt h H locs ls hP hS hl) (fun h => kf h H locs ls hP hS hl)
theorem a_if_ge (C : CT ad ca Γ cc own l0 D0 fr lo nL0) {x : Int32} {off : Int} {tgt : Nat} (hd : decode cc pc = .ok (.ifCond .ge off, 3)) (ht : (pc : Int) + off = (tgt : Int)) (kt : 0 ≤ x → AW ad ca Γ tgt vs st σ) (kf : ¬ 0 ≤ x → AW ad ca Γ (pc + 3) vs st σ) : AW ad ca Γ pc vs (.int x :: st) σ := by
  obtain ⟨p, l, e, R, s, m, args, below, meth, c, kc, ks, Q, D, A, H0, nL⟩ := Γ
  obtain ⟨⟨hx, hb, hml, hown, hts⟩, hK, hE, hD, hA0, rfl, rfl, hfr, hlo, hkc, hks, rfl⟩ := C
  intro H locs ls hP hS hl
  exact lv_if_ge hx hb hd ht (fun h => kt h H locs ls hP hS hl) (fun h => kf h H locs ls hP hS hl)
theorem a_if_gt (C : CT ad ca Γ cc own l0 D0 fr lo nL0) {x : Int32} {off : Int} {tgt : Nat} (hd : decode cc pc = .ok (.ifCond .gt off, 3)) (ht : (pc : Int) + off = (tgt : Int)) (kt : 0 < x → AW ad ca Γ tgt vs st σ) (kf : ¬ 0 < x → AW ad ca Γ (pc + 3) vs st σ) : AW ad ca Γ pc vs (.int x :: st) σ := by
  obtain ⟨p, l, e, R, s, m, args, below, meth, c, kc, ks, Q, D, A, H0, nL⟩ := Γ
  obtain ⟨⟨hx, hb, hml, hown, hts⟩, hK, hE, hD, hA0, rfl, rfl, hfr, hlo, hkc, hks, rfl⟩ := C
  intro H locs ls hP hS hl
  exact lv_if_gt hx hb hd ht (fun h => kt h H locs ls hP hS hl) (fun h => kf h H locs ls hP hS hl)
theorem a_if_le (C : CT ad ca Γ cc own l0 D0 fr lo nL0) {x : Int32} {off : Int} {tgt : Nat} (hd : decode cc pc = .ok (.ifCond .le off, 3)) (ht : (pc : Int) + off = (tgt : Int)) (kt : x ≤ 0 → AW ad ca Γ tgt vs st σ) (kf : ¬ x ≤ 0 → AW ad ca Γ (pc + 3) vs st σ) : AW ad ca Γ pc vs (.int x :: st) σ := by
  obtain ⟨p, l, e, R, s, m, args, below, meth, c, kc, ks, Q, D, A, H0, nL⟩ := Γ
  obtain ⟨⟨hx, hb, hml, hown, hts⟩, hK, hE, hD, hA0, rfl, rfl, hfr, hlo, hkc, hks, rfl⟩ := C
  intro H locs ls hP hS hl
  exact lv_if_le hx hb hd ht (fun h => kt h H locs ls hP hS hl) (fun h => kf h H locs ls hP hS hl)
theorem a_ic_eq (C : CT ad ca Γ cc own l0 D0 fr lo nL0) {x y : Int32} {off : Int} {tgt : Nat} (hd : decode cc pc = .ok (.if_icmp .eq off, 3)) (ht : (pc : Int) + off = (tgt : Int)) (kt : x = y → AW ad ca Γ tgt vs st σ) (kf : ¬ x = y → AW ad ca Γ (pc + 3) vs st σ) : AW ad ca Γ pc vs (.int y :: .int x :: st) σ := by
  obtain ⟨p, l, e, R, s, m, args, below, meth, c, kc, ks, Q, D, A, H0, nL⟩ := Γ
  obtain ⟨⟨hx, hb, hml, hown, hts⟩, hK, hE, hD, hA0, rfl, rfl, hfr, hlo, hkc, hks, rfl⟩ := C
  intro H locs ls hP hS hl
  exact lv_icmp_eq hx hb hd ht (fun h => kt h H locs ls hP hS hl) (fun h => kf h H locs ls hP hS hl)
theorem a_ic_ne (C : CT ad ca Γ cc own l0 D0 fr lo nL0) {x y : Int32} {off : Int} {tgt : Nat} (hd : decode cc pc = .ok (.if_icmp .ne off, 3)) (ht : (pc : Int) + off = (tgt : Int)) (kt : ¬ x = y → AW ad ca Γ tgt vs st σ) (kf : x = y → AW ad ca Γ (pc + 3) vs st σ) : AW ad ca Γ pc vs (.int y :: .int x :: st) σ := by
  obtain ⟨p, l, e, R, s, m, args, below, meth, c, kc, ks, Q, D, A, H0, nL⟩ := Γ
  obtain ⟨⟨hx, hb, hml, hown, hts⟩, hK, hE, hD, hA0, rfl, rfl, hfr, hlo, hkc, hks, rfl⟩ := C
  intro H locs ls hP hS hl
  exact lv_icmp_ne hx hb hd ht (fun h => kt h H locs ls hP hS hl) (fun h => kf h H locs ls hP hS hl)
theorem a_ic_lt (C : CT ad ca Γ cc own l0 D0 fr lo nL0) {x y : Int32} {off : Int} {tgt : Nat} (hd : decode cc pc = .ok (.if_icmp .lt off, 3)) (ht : (pc : Int) + off = (tgt : Int)) (kt : x < y → AW ad ca Γ tgt vs st σ) (kf : ¬ x < y → AW ad ca Γ (pc + 3) vs st σ) : AW ad ca Γ pc vs (.int y :: .int x :: st) σ := by
  obtain ⟨p, l, e, R, s, m, args, below, meth, c, kc, ks, Q, D, A, H0, nL⟩ := Γ
  obtain ⟨⟨hx, hb, hml, hown, hts⟩, hK, hE, hD, hA0, rfl, rfl, hfr, hlo, hkc, hks, rfl⟩ := C
  intro H locs ls hP hS hl
  exact lv_icmp_lt hx hb hd ht (fun h => kt h H locs ls hP hS hl) (fun h => kf h H locs ls hP hS hl)
theorem a_ic_ge (C : CT ad ca Γ cc own l0 D0 fr lo nL0) {x y : Int32} {off : Int} {tgt : Nat} (hd : decode cc pc = .ok (.if_icmp .ge off, 3)) (ht : (pc : Int) + off = (tgt : Int)) (kt : y ≤ x → AW ad ca Γ tgt vs st σ) (kf : ¬ y ≤ x → AW ad ca Γ (pc + 3) vs st σ) : AW ad ca Γ pc vs (.int y :: .int x :: st) σ := by
  obtain ⟨p, l, e, R, s, m, args, below, meth, c, kc, ks, Q, D, A, H0, nL⟩ := Γ
  obtain ⟨⟨hx, hb, hml, hown, hts⟩, hK, hE, hD, hA0, rfl, rfl, hfr, hlo, hkc, hks, rfl⟩ := C
  intro H locs ls hP hS hl
  exact lv_icmp_ge hx hb hd ht (fun h => kt h H locs ls hP hS hl) (fun h => kf h H locs ls hP hS hl)
theorem a_ic_gt (C : CT ad ca Γ cc own l0 D0 fr lo nL0) {x y : Int32} {off : Int} {tgt : Nat} (hd : decode cc pc = .ok (.if_icmp .gt off, 3)) (ht : (pc : Int) + off = (tgt : Int)) (kt : y < x → AW ad ca Γ tgt vs st σ) (kf : ¬ y < x → AW ad ca Γ (pc + 3) vs st σ) : AW ad ca Γ pc vs (.int y :: .int x :: st) σ := by
  obtain ⟨p, l, e, R, s, m, args, below, meth, c, kc, ks, Q, D, A, H0, nL⟩ := Γ
  obtain ⟨⟨hx, hb, hml, hown, hts⟩, hK, hE, hD, hA0, rfl, rfl, hfr, hlo, hkc, hks, rfl⟩ := C
  intro H locs ls hP hS hl
  exact lv_icmp_gt hx hb hd ht (fun h => kt h H locs ls hP hS hl) (fun h => kf h H locs ls hP hS hl)
theorem a_ic_le (C : CT ad ca Γ cc own l0 D0 fr lo nL0) {x y : Int32} {off : Int} {tgt : Nat} (hd : decode cc pc = .ok (.if_icmp .le off, 3)) (ht : (pc : Int) + off = (tgt : Int)) (kt : x ≤ y → AW ad ca Γ tgt vs st σ) (kf : ¬ x ≤ y → AW ad ca Γ (pc + 3) vs st σ) : AW ad ca Γ pc vs (.int y :: .int x :: st) σ := by
  obtain ⟨p, l, e, R, s, m, args, below, meth, c, kc, ks, Q, D, A, H0, nL⟩ := Γ
  obtain ⟨⟨hx, hb, hml, hown, hts⟩, hK, hE, hD, hA0, rfl, rfl, hfr, hlo, hkc, hks, rfl⟩ := C
  intro H locs ls hP hS hl
  exact lv_icmp_le hx hb hd ht (fun h => kt h H locs ls hP hS hl) (fun h => kf h H locs ls hP hS hl)
theorem a_tableIn (C : CT ad ca Γ cc own l0 D0 fr lo nL0) {dflt lo9 hi9 : Int} {offs : Array Int} {len : Nat} {x : Int32} {off : Int} {tgt : Nat} (hd : decode cc pc = .ok (.tableswitch dflt lo9 hi9 offs, len)) (h1 : ¬ x.toInt < lo9) (h2 : ¬ hi9 < x.toInt) (ho : offs[(x.toInt - lo9).toNat]? = some off) (ht : (pc : Int) + off = (tgt : Int)) (k : AW ad ca Γ tgt vs st σ) : AW ad ca Γ pc vs (.int x :: st) σ := by
  obtain ⟨p, l, e, R, s, m, args, below, meth, c, kc, ks, Q, D, A, H0, nL⟩ := Γ
  obtain ⟨⟨hx, hb, hml, hown, hts⟩, hK, hE, hD, hA0, rfl, rfl, hfr, hlo, hkc, hks, rfl⟩ := C
  intro H locs ls hP hS hl
  exact lv_tableIn hx hb hd h1 h2 ho ht (k H locs ls hP hS hl)
theorem a_tableOut (C : CT ad ca Γ cc own l0 D0 fr lo nL0) {dflt lo9 hi9 : Int} {offs : Array Int} {len : Nat} {x : Int32} {tgt : Nat} (hd : decode cc pc = .ok (.tableswitch dflt lo9 hi9 offs, len)) (h : x.toInt < lo9 ∨ hi9 < x.toInt) (ht : (pc : Int) + dflt = (tgt : Int)) (k : AW ad ca Γ tgt vs st σ) : AW ad ca Γ pc vs (.int x :: st) σ := by
  obtain ⟨p, l, e, R, s, m, args, below, meth, c, kc, ks, Q, D, A, H0, nL⟩ := Γ
  obtain ⟨⟨hx, hb, hml, hown, hts⟩, hK, hE, hD, hA0, rfl, rfl, hfr, hlo, hkc, hks, rfl⟩ := C
  intro H locs ls hP hS hl
  exact lv_tableOut hx hb hd h ht (k H locs ls hP hS hl)
theorem a_lookup (C : CT ad ca Γ cc own l0 D0 fr lo nL0) {dflt : Int} {ps : Array (Int × Int)} {len : Nat} {x : Int32} {off : Int} {tgt : Nat} (hd : decode cc pc = .ok (.lookupswitch dflt ps, len)) (hp : (ps.toList.zip (ps.toList.drop 1)).all (fun (a, next) => a.1 < next.1) = true) (ho : Op.lookupswitch.offset ps.toList dflt x.toInt = off) (ht : (pc : Int) + off = (tgt : Int)) (k : AW ad ca Γ tgt vs st σ) : AW ad ca Γ pc vs (.int x :: st) σ := by
  obtain ⟨p, l, e, R, s, m, args, below, meth, c, kc, ks, Q, D, A, H0, nL⟩ := Γ
  obtain ⟨⟨hx, hb, hml, hown, hts⟩, hK, hE, hD, hA0, rfl, rfl, hfr, hlo, hkc, hks, rfl⟩ := C
  intro H locs ls hP hS hl
  exact lv_lookup hx hb hd hp ho ht (k H locs ls hP hS hl)
theorem a_mmax (C : CT ad ca Γ cc own l0 D0 fr lo nL0) {ix : Nat} {x y : Int32} (hd : decode cc pc = .ok (.invokestatic ix, 3)) (h1 : Cond.methodLink own ix Lib.Math.max.name ∈ gw_tbl) (h2 : Cond.static Lib.Math.max.name ∈ gw_tbl) (h3 : Cond.initialized "java/lang/Math" ∈ gw_tbl) (h4 : Cond.code Lib.Math.max.name Lib.Math.max.code 2 (some .int) ∈ gw_tbl) (h5 : 1 ≤ fr) (h6 : (st.map fun v => v.category).sum + 13 ≤ lo) (k : AW ad ca Γ (pc + 3) vs (.int (if x < y then y else x) :: st) σ) : AW ad ca Γ pc vs (.int y :: .int x :: st) σ := by
  obtain ⟨p, l, e, R, s, m, args, below, meth, c, kc, ks, Q, D, A, H0, nL⟩ := Γ
  obtain ⟨⟨hx, hb, hml, hown, hts⟩, hK, hE, hD, hA0, rfl, rfl, hfr, hlo, hkc, hks, rfl⟩ := C
  intro H locs ls hP hS hl
  exact va_mmax hx hb (hml.trans hl.1.symm) hown (hts _ h1) (hts _ h2) (hts _ h3) (hts _ h4) (Nat.le_trans h5 hfr) (Nat.le_trans h6 hlo) hkc hks hd (k H locs ls hP hS hl)
theorem a_mmin (C : CT ad ca Γ cc own l0 D0 fr lo nL0) {ix : Nat} {x y : Int32} (hd : decode cc pc = .ok (.invokestatic ix, 3)) (h1 : Cond.methodLink own ix Lib.Math.min.name ∈ gw_tbl) (h2 : Cond.static Lib.Math.min.name ∈ gw_tbl) (h3 : Cond.initialized "java/lang/Math" ∈ gw_tbl) (h4 : Cond.code Lib.Math.min.name Lib.Math.min.code 2 (some .int) ∈ gw_tbl) (h5 : 1 ≤ fr) (h6 : (st.map fun v => v.category).sum + 13 ≤ lo) (k : AW ad ca Γ (pc + 3) vs (.int (if y < x then y else x) :: st) σ) : AW ad ca Γ pc vs (.int y :: .int x :: st) σ := by
  obtain ⟨p, l, e, R, s, m, args, below, meth, c, kc, ks, Q, D, A, H0, nL⟩ := Γ
  obtain ⟨⟨hx, hb, hml, hown, hts⟩, hK, hE, hD, hA0, rfl, rfl, hfr, hlo, hkc, hks, rfl⟩ := C
  intro H locs ls hP hS hl
  exact va_mmin hx hb (hml.trans hl.1.symm) hown (hts _ h1) (hts _ h2) (hts _ h3) (hts _ h4) (Nat.le_trans h5 hfr) (Nat.le_trans h6 hlo) hkc hks hd (k H locs ls hP hS hl)
theorem a_iald (C : CT ad ca Γ cc own l0 D0 fr lo nL0) {i : Nat} {j : Int32} (jn : Nat) (hk : kd i = 20) (hi : i < NN) (h0 : ¬ j < 0) (hj : j.toNatClampNeg = jn) (hn : jn < al i) (hd : decode cc pc = .ok (.iaload, 1)) {v : Int32} (hv : (σ.1 i jn) = v) (k : AW ad ca Γ (pc + 1) vs (.int v :: st) σ) : AW ad ca Γ pc vs (.int j :: .ref (ad i) :: st) σ := by
  obtain ⟨p, l, e, R, s, m, args, below, meth, c, kc, ks, Q, D, A, H0, nL⟩ := Γ
  obtain ⟨⟨hx, hb, hml, hown, hts⟩, hK, hE, hD, hA0, rfl, rfl, hfr, hlo, hkc, hks, rfl⟩ := C
  intro H locs ls hP hS hl
  obtain ⟨t, ht⟩ := tys_get (ca := ca) hi (by omega)
  have hg := mw_get (ad := ad) (ca := ca) (σ := σ) hi
  rw [hk] at ht hg
  subst hj
  subst hv
  exact va_iald hx hb hK hP i t hg ht (fun h => h.elim h0 (fun h => absurd h (by omega))) hd (k H locs ls hP hS hl)
theorem a_zald (C : CT ad ca Γ cc own l0 D0 fr lo nL0) {i : Nat} {j : Int32} (jn : Nat) (hk : kd i = 21) (hi : i < NN) (h0 : ¬ j < 0) (hj : j.toNatClampNeg = jn) (hn : jn < al i) (hd : decode cc pc = .ok (.baload, 1)) {v : Int32} (hv : (σ.1 i jn) = v) (k : AW ad ca Γ (pc + 1) vs (.int v :: st) σ) : AW ad ca Γ pc vs (.int j :: .ref (ad i) :: st) σ := by
  obtain ⟨p, l, e, R, s, m, args, below, meth, c, kc, ks, Q, D, A, H0, nL⟩ := Γ
  obtain ⟨⟨hx, hb, hml, hown, hts⟩, hK, hE, hD, hA0, rfl, rfl, hfr, hlo, hkc, hks, rfl⟩ := C
  intro H locs ls hP hS hl
  obtain ⟨t, ht⟩ := tys_get (ca := ca) hi (by omega)
  have hg := mw_get (ad := ad) (ca := ca) (σ := σ) hi
  rw [hk] at ht hg
  subst hj
  subst hv
  exact va_zald hx hb hK hP i t hg ht (fun h => h.elim h0 (fun h => absurd h (by omega))) hd (k H locs ls hP hS hl)
theorem a_bald (C : CT ad ca Γ cc own l0 D0 fr lo nL0) {i : Nat} {j : Int32} (jn : Nat) (hk : kd i = 22) (hi : i < NN) (h0 : ¬ j < 0) (hj : j.toNatClampNeg = jn) (hn : jn < al i) (hd : decode cc pc = .ok (.baload, 1)) {v : Int32} (hv : (σ.1 i jn) = v) (k : AW ad ca Γ (pc + 1) vs (.int v :: st) σ) : AW ad ca Γ pc vs (.int j :: .ref (ad i) :: st) σ := by
  obtain ⟨p, l, e, R, s, m, args, below, meth, c, kc, ks, Q, D, A, H0, nL⟩ := Γ
  obtain ⟨⟨hx, hb, hml, hown, hts⟩, hK, hE, hD, hA0, rfl, rfl, hfr, hlo, hkc, hks, rfl⟩ := C
  intro H locs ls hP hS hl
  obtain ⟨t, ht⟩ := tys_get (ca := ca) hi (by omega)
  have hg := mw_get (ad := ad) (ca := ca) (σ := σ) hi
  rw [hk] at ht hg
  subst hj
  subst hv
  exact va_bald hx hb hK hP i t hg ht (fun h => h.elim h0 (fun h => absurd h (by omega))) hd (k H locs ls hP hS hl)
theorem a_lald (C : CT ad ca Γ cc own l0 D0 fr lo nL0) {i : Nat} {j : Int32} (jn : Nat) (hk : kd i = 23) (hi : i < NN) (h0 : ¬ j < 0) (hj : j.toNatClampNeg = jn) (hn : jn < al i) (hd : decode cc pc = .ok (.laload, 1)) {v : Int64} (hv : (σ.2.1 i jn) = v) (k : AW ad ca Γ (pc + 1) vs (.long v :: st) σ) : AW ad ca Γ pc vs (.int j :: .ref (ad i) :: st) σ := by
  obtain ⟨p, l, e, R, s, m, args, below, meth, c, kc, ks, Q, D, A, H0, nL⟩ := Γ
  obtain ⟨⟨hx, hb, hml, hown, hts⟩, hK, hE, hD, hA0, rfl, rfl, hfr, hlo, hkc, hks, rfl⟩ := C
  intro H locs ls hP hS hl
  obtain ⟨t, ht⟩ := tys_get (ca := ca) hi (by omega)
  have hg := mw_get (ad := ad) (ca := ca) (σ := σ) hi
  rw [hk] at ht hg
  subst hj
  subst hv
  exact va_lald hx hb hK hP i t hg ht (fun h => h.elim h0 (fun h => absurd h (by omega))) hd (k H locs ls hP hS hl)
theorem a_iast (C : CT ad ca Γ cc own l0 D0 fr lo nL0) {i : Nat} {j : Int32} {x : Int32} (jn : Nat) (hk : kd i = 20) (hi : i < NN) (h0 : ¬ j < 0) (hj : j.toNatClampNeg = jn) (hn : jn < al i) (hd : decode cc pc = .ok (.iastore, 1)) (k : AW ad ca Γ (pc + 1) vs st (hI σ i jn x)) : AW ad ca Γ pc vs (.int x :: .int j :: .ref (ad i) :: st) σ := by
  obtain ⟨p, l, e, R, s, m, args, below, meth, c, kc, ks, Q, D, A, H0, nL⟩ := Γ
  obtain ⟨⟨hx, hb, hml, hown, hts⟩, hK, hE, hD, hA0, rfl, rfl, hfr, hlo, hkc, hks, rfl⟩ := C
  intro H locs ls hP hS hl
  obtain ⟨t, ht⟩ := tys_get (ca := ca) hi (by omega)
  have hg := mw_get (ad := ad) (ca := ca) (σ := σ) hi
  rw [hk] at ht hg
  subst hj
  refine va_iast hx hb hK hP (hD σ) hS i t hg ht (fun h => h.elim h0 (fun h => absurd h (by omega))) hd (fun H1 locs1 hP1 hD1 hS1 => ?_)
  rw [mw_setI hi (by rw [hk]; rfl)] at hP1
  exact k H1 locs1 ls hP1 hS1 hl
theorem a_zast (C : CT ad ca Γ cc own l0 D0 fr lo nL0) {i : Nat} {j : Int32} {x : Int32} (jn : Nat) (hw : vp_nar .boolean x = x) (hk : kd i = 21) (hi : i < NN) (h0 : ¬ j < 0) (hj : j.toNatClampNeg = jn) (hn : jn < al i) (hd : decode cc pc = .ok (.bastore, 1)) (k : AW ad ca Γ (pc + 1) vs st (hI σ i jn x)) : AW ad ca Γ pc vs (.int x :: .int j :: .ref (ad i) :: st) σ := by
  obtain ⟨p, l, e, R, s, m, args, below, meth, c, kc, ks, Q, D, A, H0, nL⟩ := Γ
  obtain ⟨⟨hx, hb, hml, hown, hts⟩, hK, hE, hD, hA0, rfl, rfl, hfr, hlo, hkc, hks, rfl⟩ := C
  intro H locs ls hP hS hl
  obtain ⟨t, ht⟩ := tys_get (ca := ca) hi (by omega)
  have hg := mw_get (ad := ad) (ca := ca) (σ := σ) hi
  rw [hk] at ht hg
  subst hj
  refine va_zast hx hb hK hP (hD σ) hS i t hg ht (fun h => h.elim h0 (fun h => absurd h (by omega))) hd (fun H1 locs1 hP1 hD1 hS1 => ?_)
  rw [mw_setI hi (by rw [hk]; rw [hw]; rfl)] at hP1
  exact k H1 locs1 ls hP1 hS1 hl
theorem a_bast (C : CT ad ca Γ cc own l0 D0 fr lo nL0) {i : Nat} {j : Int32} {x : Int32} (jn : Nat) (hw : vp_nar .byte x = x) (hk : kd i = 22) (hi : i < NN) (h0 : ¬ j < 0) (hj : j.toNatClampNeg = jn) (hn : jn < al i) (hd : decode cc pc = .ok (.bastore, 1)) (k : AW ad ca Γ (pc + 1) vs st (hI σ i jn x)) : AW ad ca Γ pc vs (.int x :: .int j :: .ref (ad i) :: st) σ := by
  obtain ⟨p, l, e, R, s, m, args, below, meth, c, kc, ks, Q, D, A, H0, nL⟩ := Γ
  obtain ⟨⟨hx, hb, hml, hown, hts⟩, hK, hE, hD, hA0, rfl, rfl, hfr, hlo, hkc, hks, rfl⟩ := C
  intro H locs ls hP hS hl
  obtain ⟨t, ht⟩ := tys_get (ca := ca) hi (by omega)
  have hg := mw_get (ad := ad) (ca := ca) (σ := σ) hi
  rw [hk] at ht hg
  subst hj
  refine va_bast hx hb hK hP (hD σ) hS i t hg ht (fun h => h.elim h0 (fun h => absurd h (by omega))) hd (fun H1 locs1 hP1 hD1 hS1 => ?_)
  rw [mw_setI hi (by rw [hk]; rw [hw]; rfl)] at hP1
  exact k H1 locs1 ls hP1 hS1 hl
theorem a_last (C : CT ad ca Γ cc own l0 D0 fr lo nL0) {i : Nat} {j : Int32} {x : Int64} (jn : Nat) (hk : kd i = 23) (hi : i < NN) (h0 : ¬ j < 0) (hj : j.toNatClampNeg = jn) (hn : jn < al i) (hd : decode cc pc = .ok (.lastore, 1)) (k : AW ad ca Γ (pc + 1) vs st (hL σ i jn x)) : AW ad ca Γ pc vs (.long x :: .int j :: .ref (ad i) :: st) σ := by
  obtain ⟨p, l, e, R, s, m, args, below, meth, c, kc, ks, Q, D, A, H0, nL⟩ := Γ
  obtain ⟨⟨hx, hb, hml, hown, hts⟩, hK, hE, hD, hA0, rfl, rfl, hfr, hlo, hkc, hks, rfl⟩ := C
  intro H locs ls hP hS hl
  obtain ⟨t, ht⟩ := tys_get (ca := ca) hi (by omega)
  have hg := mw_get (ad := ad) (ca := ca) (σ := σ) hi
  rw [hk] at ht hg
  subst hj
  refine va_last hx hb hK hP (hD σ) hS i t hg ht (fun h => h.elim h0 (fun h => absurd h (by omega))) hd (fun H1 locs1 hP1 hD1 hS1 => ?_)
  rw [mw_setL hi (by rw [hk]; rfl)] at hP1
  exact k H1 locs1 ls hP1 hS1 hl
theorem a_alen (C : CT ad ca Γ cc own l0 D0 fr lo nL0) {i : Nat} {v : Int32} (h12 : 12 ≤ kd i) (hi : i < NN) (hv : Int32.ofNat (al i) = v) (hd : decode cc pc = .ok (.arraylength, 1)) (k : AW ad ca Γ (pc + 1) vs (.int v :: st) σ) : AW ad ca Γ pc vs (.ref (ad i) :: st) σ := by
  obtain ⟨p, l, e, R, s, m, args, below, meth, c, kc, ks, Q, D, A, H0, nL⟩ := Γ
  obtain ⟨⟨hx, hb, hml, hown, hts⟩, hK, hE, hD, hA0, rfl, rfl, hfr, hlo, hkc, hks, rfl⟩ := C
  intro H locs ls hP hS hl
  obtain ⟨t, ht⟩ := tys_get (ca := ca) hi h12
  have hg := mw_get (ad := ad) (ca := ca) (σ := σ) hi
  have hc : ∃ x : vp_A, ceK ad ca (kd i) i (σ.1 i) (σ.2.1 i) σ.2.2 = .inl (ca i, x) ∧ x.1 = al i := by
    unfold ceK
    rw [if_neg (by omega)]
    split
    · exact ⟨_, rfl, rfl⟩
    · split
      · exact ⟨_, rfl, rfl⟩
      · exact ⟨_, rfl, rfl⟩
  obtain ⟨x, e1, e2⟩ := hc
  rw [e1] at hg
  exact va_alen hx hb hK hP i t hg ht (by rw [e2]; exact hv) hd (k H locs ls hP hS hl)
theorem a_aald (C : CT ad ca Γ cc own l0 D0 fr lo nL0) {i : Nat} {j : Int32} {y : Nat} (jn : Nat) (hk : kd i = 24 ∨ kd i = 25) (hi : i < NN) (h0 : ¬ j < 0) (hj : j.toNatClampNeg = jn) (hn : jn < al i) (hy : rfK ad (kd i) i jn = some (ad y)) (hd : decode cc pc = .ok (.aaload, 1)) (k : AW ad ca Γ (pc + 1) vs (.ref (ad y) :: st) σ) : AW ad ca Γ pc vs (.int j :: .ref (ad i) :: st) σ := by
  obtain ⟨p, l, e, R, s, m, args, below, meth, c, kc, ks, Q, D, A, H0, nL⟩ := Γ
  obtain ⟨⟨hx, hb, hml, hown, hts⟩, hK, hE, hD, hA0, rfl, rfl, hfr, hlo, hkc, hks, rfl⟩ := C
  intro H locs ls hP hS hl
  obtain ⟨t, ht⟩ := tys_get (ca := ca) hi (by omega)
  have hg := mw_get (ad := ad) (ca := ca) (σ := σ) hi
  have hty : aty (kd i) = .object RX0 := by rcases hk with h | h <;> rw [h] <;> rfl
  have hce : ceK ad ca (kd i) i (σ.1 i) (σ.2.1 i) σ.2.2 = .inl (ca i, al i, .inr (.inr (.inr (.inr (rfK ad (kd i) i))))) := by rcases hk with h | h <;> rw [h] <;> rfl
  rw [hty] at ht
  rw [hce] at hg
  subst hj
  refine va_aldq hx hb hK hP i t hg ht (fun h => h.elim h0 (fun h => absurd h (by omega))) hd ?_
  rw [hy]
  exact k H locs ls hP hS hl
theorem ceK_ob {n i : Nat} {g : Nat → Int32} {gl : Nat → Int64} {tx : Nat → Nat} (h : n < 12) : ceK ad ca n i g gl tx = .inr (n, fsK ad n i g tx) := by
  unfold ceK
  rw [if_pos h]
theorem a_get (C : CT ad ca Γ cc own l0 D0 fr lo nL0) {i n q ix : Nat} {v : Value} (F : FL own ix n q) (hk : kd i = n) (hi : i < NN) (hv : (fsK ad n i (σ.1 i) σ.2.2)[q]? = some v) (hd : decode cc pc = .ok (.getfield ix, 3)) (k : AW ad ca Γ (pc + 3) vs (v :: st) σ) : AW ad ca Γ pc vs (.ref (ad i) :: st) σ := by
  obtain ⟨p, l, e, R, s, m, args, below, meth, c, kc, ks, Q, D, A, H0, nL⟩ := Γ
  obtain ⟨⟨hx, hb, hml, hown, hts⟩, hK, hE, hD, hA0, rfl, rfl, hfr, hlo, hkc, hks, rfl⟩ := C
  intro H locs ls hP hS hl
  obtain ⟨Cn, T, N, hc, hq, h12, hw, hin⟩ := F
  have hg := mw_get (ad := ad) (ca := ca) (σ := σ) hi
  rw [hk, ceK_ob h12] at hg
  exact va_get hx hb hts hin hown hK hP i hg hc q hq (hts _ hw) (fun _ h => h) hv hd (k H locs ls hP hS hl)
theorem a_put (C : CT ad ca Γ cc own l0 D0 fr lo nL0) {i n q ix : Nat} {ty : FieldType} {v : Int32} (F : FP own ix n q ty) (hk : kd i = n) (hi : i < NN) (hn : narrow ty (.int v) = .int v) (hf : fits ty (.int v) = true) (hd : decode cc pc = .ok (.putfield ix, 3)) (k : AW ad ca Γ (pc + 3) vs st (hI σ i q v)) : AW ad ca Γ pc vs (.int v :: .ref (ad i) :: st) σ := by
  obtain ⟨p, l, e, R, s, m, args, below, meth, c, kc, ks, Q, D, A, H0, nL⟩ := Γ
  obtain ⟨⟨hx, hb, hml, hown, hts⟩, hK, hE, hD, hA0, rfl, rfl, hfr, hlo, hkc, hks, rfl⟩ := C
  intro H locs ls hP hS hl
  obtain ⟨Cn, T, N, ty0, ⟨hc, hq, h12, hw, hin⟩, hty, hnm, hfin, hdd, hset⟩ := F
  have hg := mw_get (ad := ad) (ca := ca) (σ := σ) hi
  rw [hk, ceK_ob h12] at hg
  refine va_put hx hb hts hin ty0 hty hnm hown hK hP (hD σ) hS i hg hc q hq (hts _ hw) (fun _ h => h) hfin hdd hn hf (hset ad i (σ.1 i) σ.2.2 v).2 hd (fun H1 locs1 hP1 hD1 hS1 => ?_)
  rw [mw_setI hi (by rw [hk, ceK_ob h12, (hset ad i (σ.1 i) σ.2.2 v).1])] at hP1
  exact k H1 locs1 ls hP1 hS1 hl
theorem a_copyi (C : CT ad ca Γ cc own l0 D0 fr lo nL0) {ix i0 i1 : Nat} {sp dp n : Int32} (a b z : Nat) (h1 : Cond.methodLink own ix arraycopyName ∈ gw_tbl) (h2 : Cond.native arraycopyName ∈ gw_tbl) (h3 : Cond.static arraycopyName ∈ gw_tbl) (h4 : Cond.initialized "java/lang/System" ∈ gw_tbl) (hk0 : kd i0 = 20) (hi0 : i0 < NN) (hk1 : kd i1 = 20) (hi1 : i1 < NN) (g1 : ¬ sp < 0) (g2 : ¬ dp < 0) (g3 : ¬ n < 0) (ea : sp.toNatClampNeg = a) (eb : dp.toNatClampNeg = b) (ez : n.toNatClampNeg = z) (g4 : a + z ≤ al i0) (g5 : b + z ≤ al i1) (h5 : 1 ≤ fr) (h6 : (st.map fun v => v.category).sum + (nativeFrameWords "java/lang/System" "arraycopy" 5 + 11) ≤ lo) (hd : decode cc pc = .ok (.invokestatic ix, 3)) (k : AW ad ca Γ (pc + 3) vs st (hA σ i1 (va_cpy (σ.1 i0) (σ.1 i1) a b z))) : AW ad ca Γ pc vs (.int n :: .int dp :: .ref (ad i1) :: .int sp :: .ref (ad i0) :: st) σ := by
  obtain ⟨p, l, e, R, s, m, args, below, meth, c, kc, ks, Q, D, A, H0, nL⟩ := Γ
  obtain ⟨⟨hx, hb, hml, hown, hts⟩, hK, hE, hD, hA0, rfl, rfl, hfr, hlo, hkc, hks, rfl⟩ := C
  intro H locs ls hP hS hl
  obtain ⟨t0, ht0⟩ := tys_get (ca := ca) hi0 (by omega)
  obtain ⟨t1, ht1⟩ := tys_get (ca := ca) hi1 (by omega)
  have hg0 := mw_get (ad := ad) (ca := ca) (σ := σ) hi0
  have hg1 := mw_get (ad := ad) (ca := ca) (σ := σ) hi1
  rw [hk0] at ht0 hg0
  rw [hk1] at ht1 hg1
  subst ea eb ez
  refine va_copyi hx hb (hml.trans hl.1.symm) hown (hts _ h1) (hts _ h2) (hts _ h3) (hts _ h4) hK hP (hD σ) hS i0 i1 t0 t1 hg0 hg1 ht0 ht1 rfl g1 g2 g3 g4 g5 (fun _ _ => rfl) (Nat.le_trans h5 hfr) (Nat.le_trans h6 hlo) hd (fun H1 locs1 hP1 hD1 hS1 => ?_)
  rw [mw_setA hi1 (by rw [hk1]; rfl)] at hP1
  exact k H1 locs1 ls hP1 hS1 hl
theorem kd_sj : ∀ j : Nat, kd j = 10 → j = 0 := by
  have h : ∀ j, j < NN → kd j = 10 → j = 0 := by decide +kernel
  have hl : kdL.length = 277 := by decide +kernel
  intro j hj
  by_cases hlt : j < NN
  · exact h j hlt hj
  · have h2 : kd j = 99 := by
      unfold kd
      rw [List.getD_eq_getElem?_getD, List.getElem?_eq_none (by rw [hl]; exact Nat.not_lt.mp hlt)]
      rfl
    omega
theorem fsK_tx {n i : Nat} {g : Nat → Int32} {tx tx1 : Nat → Nat} (h : n ≠ 10) : fsK ad n i g tx = fsK ad n i g tx1 := by
  unfold fsK
  split <;> first | rfl | exact absurd rfl h
def FPR (own : String) (ix q kk : Nat) : Prop := ∃ (Cn : String) (T : u_T) (N : Nat) (ty0 : Nat → FieldType) (ty : FieldType), (vwCl[10]? = some (Cn, T, N) ∧ q < N ∧ Cond.fieldLink own ix (T q).1 (T q).2.1 (T q).2.2.1 ∈ gw_tbl ∧ (∀ w ∈ u_ws Cn T N, w ∈ gw_tbl)) ∧ (∀ k, k < N → parseFieldDescriptor (T k).2.2.1 = some (ty0 k)) ∧ (∀ a, a < N → ∀ b, b < N → a ≠ b → (T a).2.1 ≠ (T b).2.1) ∧ (T q).2.2.2 = false ∧ parseFieldDescriptor (T q).2.2.1 = some ty ∧ (∀ v : Nat, narrow ty (.ref v) = .ref v ∧ fits ty (.ref v) = true) ∧ (∀ (ad : Nat → Nat) (i : Nat) (g : Nat → Int32) (tx : Nat → Nat) (v : Nat), fsK ad 10 i g (va_up tx kk v) = (fsK ad 10 i g tx).set q (.ref (ad v)) ∧ q < (fsK ad 10 i g tx).length)
theorem a_putR (C : CT ad ca Γ cc own l0 D0 fr lo nL0) {q kk ix v : Nat} (F : FPR own ix q kk) (hd : decode cc pc = .ok (.putfield ix, 3)) (k : AW ad ca Γ (pc + 3) vs st (hR σ kk v)) : AW ad ca Γ pc vs (.ref (ad v) :: .ref (ad 0) :: st) σ := by
  obtain ⟨p, l, e, R, s, m, args, below, meth, c, kc, ks, Q, D, A, H0, nL⟩ := Γ
  obtain ⟨⟨hx, hb, hml, hown, hts⟩, hK, hE, hD, hA0, rfl, rfl, hfr, hlo, hkc, hks, rfl⟩ := C
  intro H locs ls hP hS hl
  obtain ⟨Cn, T, N, ty0, ty, ⟨hc, hq, hw, hin⟩, hty, hnm, hfin, hdd, hnf, hset⟩ := F
  have hk : kd 0 = 10 := by decide
  have hi : 0 < NN := by decide
  have hg := mw_get (ad := ad) (ca := ca) (σ := σ) hi
  rw [hk, ceK_ob (by decide)] at hg
  refine va_put hx hb hts hin ty0 hty hnm hown hK hP (hD σ) hS 0 hg hc q hq (hts _ hw) (fun _ h => h) hfin hdd (hnf (ad v)).1 (hnf (ad v)).2 (hset ad 0 (σ.1 0) σ.2.2 v).2 hd (fun H1 locs1 hP1 hD1 hS1 => ?_)
  have e : (mw ad ca σ).set 0 (ad 0, .inr (10, (fsK ad 10 0 (σ.1 0) σ.2.2).set q (.ref (ad v)))) = mw ad ca (hR σ kk v) := by
    refine mw_set hi ?_ ?_
    · rw [hk, ceK_ob (by decide)]
      exact congrArg (fun z => (Sum.inr (10, z) : va_E)) (hset ad 0 (σ.1 0) σ.2.2 v).1
    · intro j hj
      have hj2 : kd j ≠ 10 := fun h => hj (kd_sj j h)
      show ceK ad ca (kd j) j (σ.1 j) (σ.2.1 j) (va_up σ.2.2 kk v) = ceK ad ca (kd j) j (σ.1 j) (σ.2.1 j) σ.2.2
      unfold ceK
      rw [fsK_tx (tx1 := σ.2.2) hj2]
  rw [e] at hP1
  exact k H1 locs1 ls hP1 hS1 hl
theorem fpr_82 : FPR RX11 82 13 0 := ⟨RX11, TX11, 15, tyX11, .object RX10, ⟨rfl, by decide, gwm 473 (by decide +kernel) rfl, uw_10⟩, tyX11_ok, nmX11, rfl, by decide +kernel, fun _ => ⟨rfl, rfl⟩, fun _ _ _ _ _ => ⟨rfl, by show 13 < 15; decide⟩⟩
theorem fpr_86 : FPR RX11 86 14 1 := ⟨RX11, TX11, 15, tyX11, .object RX10, ⟨rfl, by decide, gwm 474 (by decide +kernel) rfl, uw_10⟩, tyX11_ok, nmX11, rfl, by decide +kernel, fun _ => ⟨rfl, rfl⟩, fun _ _ _ _ _ => ⟨rfl, by show 14 < 15; decide⟩⟩
end AWR
end
section
/-! contracts over the world, and calls -/
theorem lw_goodIn {ws : List Cond} (h : ∀ w ∈ ws, w ∈ gw_tbl) : GoodIn gw_tbl ws := fun w hw => ⟨h w hw, good_of_word (List.mem_filter.mp (h w hw)).2⟩
def KPre (D : va_G) (ad : Nat → Nat) (ca : Nat → ClassId) (σ : HS) (sz : Nat) (U : State) : Prop := U.heap.size = sz ∧ va_P D vwCl (mw ad ca σ) U.heap ∧ va_K D vwCl (tys ca) U ∧ va_D (fun _ => True) (mw ad ca σ) ∧ EN U
def KAt (D : va_G) (ad : Nat → Nat) (ca : Nat → ClassId) (A : Nat → Prop) (σ : HS) (t : State) : Prop := va_P D vwCl (mw ad ca σ) t.heap ∧ va_K D vwCl (tys ca) t ∧ va_D A (mw ad ca σ)
/-- y, called with av in the world σ, answers r and leaves a world, as post says -/
def Ki (l : Launch) (D : va_G) (ad : Nat → Nat) (ca : Nat → ClassId) (y : MethodName) (cc : ByteArray) (nL : Nat) (ty : FieldType) (fr lo : Nat) (av : List Value) (σ : HS) (post : Int32 → HS → Prop) : Prop :=
  ∀ sz : Nat, Met l y (.code y cc nL (some ty) :: gw_tbl) { frames := fr, cells := 0, slots := 0, locals := lo } (va_Pc av (KPre D ad ca σ sz)) (va_Qi post (KAt D ad ca (va_A (mw ad ca σ) sz)) (va_A (mw ad ca σ) sz)) 0 0 (va_A (mw ad ca σ) sz)
def Kv (l : Launch) (D : va_G) (ad : Nat → Nat) (ca : Nat → ClassId) (y : MethodName) (cc : ByteArray) (nL : Nat) (fr lo : Nat) (av : List Value) (σ : HS) (post : HS → Prop) : Prop :=
  ∀ sz : Nat, Met l y (.code y cc nL none :: gw_tbl) { frames := fr, cells := 0, slots := 0, locals := lo } (va_Pc av (KPre D ad ca σ sz)) (va_Qv post (KAt D ad ca (va_A (mw ad ca σ) sz)) (va_A (mw ad ca σ) sz)) 0 0 (va_A (mw ad ca σ) sz)
def Kl (l : Launch) (D : va_G) (ad : Nat → Nat) (ca : Nat → ClassId) (y : MethodName) (cc : ByteArray) (nL : Nat) (fr lo : Nat) (av : List Value) (σ : HS) (post : Int64 → HS → Prop) : Prop :=
  ∀ sz : Nat, Met l y (.code y cc nL (some .long) :: gw_tbl) { frames := fr, cells := 0, slots := 0, locals := lo } (va_Pc av (KPre D ad ca σ sz)) (va_Ql post (KAt D ad ca (va_A (mw ad ca σ) sz)) (va_A (mw ad ca σ) sz)) 0 0 (va_A (mw ad ca σ) sz)
def RI (ad : Nat → Nat) (ca : Nat → ClassId) (Γ : GT) (cc : ByteArray) (ty : FieldType) (post : Int32 → HS → Prop) : Prop := match Γ with
  | (p, l, e, R, s, m, args, below, meth, c, kc, ks, Q, D, A, H0, nL) => ∀ (H : Heap) (locs : List Loc) (ls : Array Slot) (pc : Nat) (σ : HS) (v : Int32), va_P D vwCl (mw ad ca σ) H → va_S A H0 H locs → post v σ → decode cc pc = .ok (.ireturn, 1) → narrow ty (.int v) = .int v → W p l e R s m args below meth c H locs kc ks Q (F0 m pc ls [.int v])
def RV (ad : Nat → Nat) (ca : Nat → ClassId) (Γ : GT) (cc : ByteArray) (post : HS → Prop) : Prop := match Γ with
  | (p, l, e, R, s, m, args, below, meth, c, kc, ks, Q, D, A, H0, nL) => ∀ (H : Heap) (locs : List Loc) (ls : Array Slot) (pc : Nat) (σ : HS), va_P D vwCl (mw ad ca σ) H → va_S A H0 H locs → post σ → decode cc pc = .ok (.return_, 1) → W p l e R s m args below meth c H locs kc ks Q (F0 m pc ls [])
def RL_ (ad : Nat → Nat) (ca : Nat → ClassId) (Γ : GT) (cc : ByteArray) (post : Int64 → HS → Prop) : Prop := match Γ with
  | (p, l, e, R, s, m, args, below, meth, c, kc, ks, Q, D, A, H0, nL) => ∀ (H : Heap) (locs : List Loc) (ls : Array Slot) (pc : Nat) (σ : HS) (v : Int64), va_P D vwCl (mw ad ca σ) H → va_S A H0 H locs → post v σ → decode cc pc = .ok (.lreturn, 1) → W p l e R s m args below meth c H locs kc ks Q (F0 m pc ls [.long v])
section KR
variable {l : Launch} {D : va_G} {ad : Nat → Nat} {ca : Nat → ClassId} {y : MethodName} {cc : ByteArray} {nL fr lo : Nat} {ty : FieldType} {av : List Value} {σ : HS}
theorem Ki.of {post : Int32 → HS → Prop} (hy : plainName y.cls = true) (hL : (lg_sl av).length ≤ nL) (z : Nat)
    (body : ∀ Γ : GT, CT ad ca Γ cc y.cls l D fr lo nL → RI ad ca Γ cc ty post → AW ad ca Γ 0 (entL av ++ List.replicate z none) [] σ) : Ki l D ad ca y cc nL ty fr lo av σ post := by
  intro sz
  refine Met.ofW (cc := cc) (maxL := nL) (ret := some ty) hy rfl ?_
  intro p e s m args below meth c s₁ B hml hv
  obtain ⟨rfl, hsz, hP, hK, hD0, hE⟩ := hv
  have hts := atoms_spec (ws := (.code y cc nL (some ty) :: gw_tbl)) B.pre
  subst hsz
  have hD := hD0.self (sz := s.heap.size)
  rw [lg_entry_eq]
  refine body (p, l, e, { frames := fr, cells := 0, slots := 0, locals := lo }, s, m, av.toArray, below, meth, c, 0, 0, _, D, va_A (mw ad ca σ) s.heap.size, s.heap, nL) ⟨⟨B.exec, B.bytes, hml, findClass_of_methodNamed B.named, fun w h => hts w (List.mem_cons_of_mem _ h)⟩, hK, hE, fun σ' => mw_D hD σ', fun q h => Or.inr h, rfl, rfl, Nat.le_refl _, Nat.le_refl _, Nat.le_refl _, Nat.le_refl _, rfl⟩ ?_ s.heap [] _ hP va_S.rf (LV.entry av hL z)
  intro H locs ls pc σ' v hP' hS hp hd hn
  exact W.zret B.exec B.bytes B.returns hn (fun t ht hW => ⟨⟨v, σ', rfl, hp, by rw [ht]; exact hP', va_K.moved hW.alike hK, mw_D hD σ'⟩, hS.F ht⟩) hS.2.2 hd B.notSynchronized
theorem Kv.of {post : HS → Prop} (hy : plainName y.cls = true) (hL : (lg_sl av).length ≤ nL) (z : Nat)
    (body : ∀ Γ : GT, CT ad ca Γ cc y.cls l D fr lo nL → RV ad ca Γ cc post → AW ad ca Γ 0 (entL av ++ List.replicate z none) [] σ) : Kv l D ad ca y cc nL fr lo av σ post := by
  intro sz
  refine Met.ofW (cc := cc) (maxL := nL) (ret := none) hy rfl ?_
  intro p e s m args below meth c s₁ B hml hv
  obtain ⟨rfl, hsz, hP, hK, hD0, hE⟩ := hv
  have hts := atoms_spec (ws := (.code y cc nL none :: gw_tbl)) B.pre
  subst hsz
  have hD := hD0.self (sz := s.heap.size)
  rw [lg_entry_eq]
  refine body (p, l, e, { frames := fr, cells := 0, slots := 0, locals := lo }, s, m, av.toArray, below, meth, c, 0, 0, _, D, va_A (mw ad ca σ) s.heap.size, s.heap, nL) ⟨⟨B.exec, B.bytes, hml, findClass_of_methodNamed B.named, fun w h => hts w (List.mem_cons_of_mem _ h)⟩, hK, hE, fun σ' => mw_D hD σ', fun q h => Or.inr h, rfl, rfl, Nat.le_refl _, Nat.le_refl _, Nat.le_refl _, Nat.le_refl _, rfl⟩ ?_ s.heap [] _ hP va_S.rf (LV.entry av hL z)
  intro H locs ls pc σ' hP' hS hp hd
  exact W.vret B.exec B.bytes B.returns (fun t ht hW => ⟨⟨σ', rfl, hp, by rw [ht]; exact hP', va_K.moved hW.alike hK, mw_D hD σ'⟩, hS.F ht⟩) hS.2.2 hd B.notSynchronized
theorem Kl.of {post : Int64 → HS → Prop} (hy : plainName y.cls = true) (hL : (lg_sl av).length ≤ nL) (z : Nat)
    (body : ∀ Γ : GT, CT ad ca Γ cc y.cls l D fr lo nL → RL_ ad ca Γ cc post → AW ad ca Γ 0 (entL av ++ List.replicate z none) [] σ) : Kl l D ad ca y cc nL fr lo av σ post := by
  intro sz
  refine Met.ofW (cc := cc) (maxL := nL) (ret := some .long) hy rfl ?_
  intro p e s m args below meth c s₁ B hml hv
  obtain ⟨rfl, hsz, hP, hK, hD0, hE⟩ := hv
  have hts := atoms_spec (ws := (.code y cc nL (some .long) :: gw_tbl)) B.pre
  subst hsz
  have hD := hD0.self (sz := s.heap.size)
  rw [lg_entry_eq]
  refine body (p, l, e, { frames := fr, cells := 0, slots := 0, locals := lo }, s, m, av.toArray, below, meth, c, 0, 0, _, D, va_A (mw ad ca σ) s.heap.size, s.heap, nL) ⟨⟨B.exec, B.bytes, hml, findClass_of_methodNamed B.named, fun w h => hts w (List.mem_cons_of_mem _ h)⟩, hK, hE, fun σ' => mw_D hD σ', fun q h => Or.inr h, rfl, rfl, Nat.le_refl _, Nat.le_refl _, Nat.le_refl _, Nat.le_refl _, rfl⟩ ?_ s.heap [] _ hP va_S.rf (LV.entry av hL z)
  intro H locs ls pc σ' v hP' hS hp hd
  exact W.lret B.exec B.bytes B.returns (fun t ht hW => ⟨⟨v, σ', rfl, hp, by rw [ht]; exact hP', va_K.moved hW.alike hK, mw_D hD σ'⟩, hS.F ht⟩) hS.2.2 hd B.notSynchronized
end KR
section RETR
variable {ad : Nat → Nat} {ca : Nat → ClassId} {Γ : GT} {cc : ByteArray} {own : String} {l0 : Launch} {D0 : va_G} {fr lo nL0 : Nat} {pc : Nat} {vs : List (Option Value)} {st : List Value} {σ : HS}
theorem a_iret {ty : FieldType} {post : Int32 → HS → Prop} {v : Int32} (Rt : RI ad ca Γ cc ty post) (hd : decode cc pc = .ok (.ireturn, 1)) (hn : narrow ty (.int v) = .int v) (hp : post v σ) : AW ad ca Γ pc vs [.int v] σ := by
  obtain ⟨p, l, e, R, s, m, args, below, meth, c, kc, ks, Q, D, A, H0, nL⟩ := Γ
  intro H locs ls hP hS hl
  exact Rt H locs ls pc σ v hP hS hp hd hn
theorem a_vret {post : HS → Prop} (Rt : RV ad ca Γ cc post) (hd : decode cc pc = .ok (.return_, 1)) (hp : post σ) : AW ad ca Γ pc vs [] σ := by
  obtain ⟨p, l, e, R, s, m, args, below, meth, c, kc, ks, Q, D, A, H0, nL⟩ := Γ
  intro H locs ls hP hS hl
  exact Rt H locs ls pc σ hP hS hp hd
theorem a_lret {post : Int64 → HS → Prop} {v : Int64} (Rt : RL_ ad ca Γ cc post) (hd : decode cc pc = .ok (.lreturn, 1)) (hp : post v σ) : AW ad ca Γ pc vs [.long v] σ := by
  obtain ⟨p, l, e, R, s, m, args, below, meth, c, kc, ks, Q, D, A, H0, nL⟩ := Γ
  intro H locs ls hP hS hl
  exact Rt H locs ls pc σ v hP hS hp hd
theorem KPre.blind {D : va_G} {av : List Value} {sz : Nat} : FrameBlind (va_Pc av (KPre D ad ca σ sz)) := fun a U g mk q => by
  obtain ⟨q0, q1, qP, qK, qD, qE⟩ := q
  exact ⟨q0, q1, qP, va_K.moved (u := U) (U := U.calling g mk a) (Vm.Alike.refl U.vm) qK, qD, EN.same (s := U) (U := U.calling g mk a) rfl qE⟩
theorem mw_freeA {A : Nat → Prop} {H0 H : Heap} {locs : List Loc} (hD : va_D A (mw ad ca σ)) (hS : va_S A H0 H locs) (hA : ∀ q, H0.size ≤ q → A q) : ∀ q, va_A (mw ad ca σ) H.size q → A q := fun q h => by
  rcases h with ⟨k, e, h⟩ | h
  · exact hD.2 k (q, e) h
  · exact hA q (Nat.le_trans hS.1 h)
-- GENERATED by calls.py
theorem a_callVi (C : CT ad ca Γ cc own l0 D0 fr lo nL0) {y : MethodName} {cc' : ByteArray} {nL' fr' lo' n ix : Nat} {ty : FieldType} {As st0 : List Value} {post : Int32 → HS → Prop} {i n0 : Nat} (hk : kd i = n0) (hi : i < NN) (hq : ∃ (T : u_T) (N : Nat), vwCl[n0]? = some (y.cls, T, N)) (h12 : n0 < 12) (hM : Ki l0 D0 ad ca y cc' nL' ty fr' lo' (.ref (ad i) :: As) σ post) (hw : MI y cc' nL' (some ty) n) (hlink : Cond.methodLink own ix y ∈ gw_tbl) (hst : st0 = As.reverse ++ .ref (ad i) :: st) (hn : As.length = n) (hf1 : fr' + 1 ≤ fr) (hl1 : 8 + (nL' + 11) + lo' ≤ lo) (hcat : (st.map fun v => v.category).sum ≤ 8) (hd : decode cc pc = .ok (.invokevirtual ix, 3)) (k : ∀ (r : Int32) (σ' : HS), post r σ' → AW ad ca Γ (pc + 3) vs (.int r :: st) σ') : AW ad ca Γ pc vs st0 σ := by
  obtain ⟨p, l, e, R, s, m, args, below, meth, c, kc, ks, Q, D, A, H0, nL⟩ := Γ
  obtain ⟨⟨hx, hb, hml, hown, hts⟩, hK, hE, hD, hA0, rfl, rfl, hfr, hlo, hkc, hks, rfl⟩ := C
  intro H locs ls hP hS hl
  obtain ⟨w1, w2, w3, w4, w5, w6, w7⟩ := hw
  obtain ⟨T, N, hq⟩ := hq
  subst hst
  have hg := mw_get (ad := ad) (ca := ca) (σ := σ) hi
  rw [hk, ceK_ob h12] at hg
  have hG : GoodIn gw_tbl (wsV own ix y.cls y (.code y cc' nL' (some ty) :: gw_tbl)) := lw_goodIn (fun w h => by
    simp only [wsV, List.cons_append, List.nil_append, List.mem_cons] at h
    rcases h with rfl | rfl | rfl | rfl | rfl | h
    · exact hlink
    · exact w1
    · exact w2
    · exact w3
    · exact w4
    · exact h)
  have hFc := mw_freeA (hD σ) hS hA0
  refine va_calli (va_runV (As := As) (rest := st) ⟨hx, hb, hml, hown, hts⟩ (hM H.size) (cwV n hts hG rfl rfl rfl ⟨rfl, w5, w6, w7⟩ ⟨Nat.le_trans hf1 hfr, Nat.le_trans hl1 hlo⟩) ⟨KPre.blind, va_recv hK hP hq hg, fun U hU hW => ⟨rfl, by rw [hU], by rw [hU]; exact hP, va_K.moved hW.alike hK, (hD σ).weaken (fun _ _ _ _ => trivial), hE.warm hW⟩⟩ rfl hn hl.1 rfl (lv_room hcat) hd ⟨hkc, hks⟩) hS (fun q _ h => hFc q h) hFc (fun r u t H1 locs1 ht hvm hw hB hz1 hk1 hS1 => ?_)
  have hP1 := hB.1
  rw [ht] at hP1
  exact k r u hw H1 locs1 ls hP1 hS1 hl
theorem a_callVv (C : CT ad ca Γ cc own l0 D0 fr lo nL0) {y : MethodName} {cc' : ByteArray} {nL' fr' lo' n ix : Nat} {As st0 : List Value} {post : HS → Prop} {i n0 : Nat} (hk : kd i = n0) (hi : i < NN) (hq : ∃ (T : u_T) (N : Nat), vwCl[n0]? = some (y.cls, T, N)) (h12 : n0 < 12) (hM : Kv l0 D0 ad ca y cc' nL' fr' lo' (.ref (ad i) :: As) σ post) (hw : MI y cc' nL' none n) (hlink : Cond.methodLink own ix y ∈ gw_tbl) (hst : st0 = As.reverse ++ .ref (ad i) :: st) (hn : As.length = n) (hf1 : fr' + 1 ≤ fr) (hl1 : 8 + (nL' + 11) + lo' ≤ lo) (hcat : (st.map fun v => v.category).sum ≤ 8) (hd : decode cc pc = .ok (.invokevirtual ix, 3)) (k : ∀ (σ' : HS), post σ' → AW ad ca Γ (pc + 3) vs st σ') : AW ad ca Γ pc vs st0 σ := by
  obtain ⟨p, l, e, R, s, m, args, below, meth, c, kc, ks, Q, D, A, H0, nL⟩ := Γ
  obtain ⟨⟨hx, hb, hml, hown, hts⟩, hK, hE, hD, hA0, rfl, rfl, hfr, hlo, hkc, hks, rfl⟩ := C
  intro H locs ls hP hS hl
  obtain ⟨w1, w2, w3, w4, w5, w6, w7⟩ := hw
  obtain ⟨T, N, hq⟩ := hq
  subst hst
  have hg := mw_get (ad := ad) (ca := ca) (σ := σ) hi
  rw [hk, ceK_ob h12] at hg
  have hG : GoodIn gw_tbl (wsV own ix y.cls y (.code y cc' nL' none :: gw_tbl)) := lw_goodIn (fun w h => by
    simp only [wsV, List.cons_append, List.nil_append, List.mem_cons] at h
    rcases h with rfl | rfl | rfl | rfl | rfl | h
    · exact hlink
    · exact w1
    · exact w2
    · exact w3
    · exact w4
    · exact h)
  have hFc := mw_freeA (hD σ) hS hA0
  refine va_callv (va_runV (As := As) (rest := st) ⟨hx, hb, hml, hown, hts⟩ (hM H.size) (cwV n hts hG rfl rfl rfl ⟨rfl, w5, w6, w7⟩ ⟨Nat.le_trans hf1 hfr, Nat.le_trans hl1 hlo⟩) ⟨KPre.blind, va_recv hK hP hq hg, fun U hU hW => ⟨rfl, by rw [hU], by rw [hU]; exact hP, va_K.moved hW.alike hK, (hD σ).weaken (fun _ _ _ _ => trivial), hE.warm hW⟩⟩ rfl hn hl.1 rfl (lv_room hcat) hd ⟨hkc, hks⟩) hS (fun q _ h => hFc q h) hFc (fun u t H1 locs1 ht hvm hw hB hz1 hk1 hS1 => ?_)
  have hP1 := hB.1
  rw [ht] at hP1
  exact k u hw H1 locs1 ls hP1 hS1 hl
theorem a_callVl (C : CT ad ca Γ cc own l0 D0 fr lo nL0) {y : MethodName} {cc' : ByteArray} {nL' fr' lo' n ix : Nat} {As st0 : List Value} {post : Int64 → HS → Prop} {i n0 : Nat} (hk : kd i = n0) (hi : i < NN) (hq : ∃ (T : u_T) (N : Nat), vwCl[n0]? = some (y.cls, T, N)) (h12 : n0 < 12) (hM : Kl l0 D0 ad ca y cc' nL' fr' lo' (.ref (ad i) :: As) σ post) (hw : MI y cc' nL' (some .long) n) (hlink : Cond.methodLink own ix y ∈ gw_tbl) (hst : st0 = As.reverse ++ .ref (ad i) :: st) (hn : As.length = n) (hf1 : fr' + 1 ≤ fr) (hl1 : 8 + (nL' + 11) + lo' ≤ lo) (hcat : (st.map fun v => v.category).sum ≤ 8) (hd : decode cc pc = .ok (.invokevirtual ix, 3)) (k : ∀ (r : Int64) (σ' : HS), post r σ' → AW ad ca Γ (pc + 3) vs (.long r :: st) σ') : AW ad ca Γ pc vs st0 σ := by
  obtain ⟨p, l, e, R, s, m, args, below, meth, c, kc, ks, Q, D, A, H0, nL⟩ := Γ
  obtain ⟨⟨hx, hb, hml, hown, hts⟩, hK, hE, hD, hA0, rfl, rfl, hfr, hlo, hkc, hks, rfl⟩ := C
  intro H locs ls hP hS hl
  obtain ⟨w1, w2, w3, w4, w5, w6, w7⟩ := hw
  obtain ⟨T, N, hq⟩ := hq
  subst hst
  have hg := mw_get (ad := ad) (ca := ca) (σ := σ) hi
  rw [hk, ceK_ob h12] at hg
  have hG : GoodIn gw_tbl (wsV own ix y.cls y (.code y cc' nL' (some .long) :: gw_tbl)) := lw_goodIn (fun w h => by
    simp only [wsV, List.cons_append, List.nil_append, List.mem_cons] at h
    rcases h with rfl | rfl | rfl | rfl | rfl | h
    · exact hlink
    · exact w1
    · exact w2
    · exact w3
    · exact w4
    · exact h)
  have hFc := mw_freeA (hD σ) hS hA0
  refine va_calll (va_runV (As := As) (rest := st) ⟨hx, hb, hml, hown, hts⟩ (hM H.size) (cwV n hts hG rfl rfl rfl ⟨rfl, w5, w6, w7⟩ ⟨Nat.le_trans hf1 hfr, Nat.le_trans hl1 hlo⟩) ⟨KPre.blind, va_recv hK hP hq hg, fun U hU hW => ⟨rfl, by rw [hU], by rw [hU]; exact hP, va_K.moved hW.alike hK, (hD σ).weaken (fun _ _ _ _ => trivial), hE.warm hW⟩⟩ rfl hn hl.1 rfl (lv_room hcat) hd ⟨hkc, hks⟩) hS (fun q _ h => hFc q h) hFc (fun r u t H1 locs1 ht hvm hw hB hz1 hk1 hS1 => ?_)
  have hP1 := hB.1
  rw [ht] at hP1
  exact k r u hw H1 locs1 ls hP1 hS1 hl
theorem a_callSi (C : CT ad ca Γ cc own l0 D0 fr lo nL0) {y : MethodName} {cc' : ByteArray} {nL' fr' lo' n ix : Nat} {ty : FieldType} {As st0 : List Value} {post : Int32 → HS → Prop} (hM : Ki l0 D0 ad ca y cc' nL' ty fr' lo' As σ post) (hw : MS y cc' nL' (some ty) n) (hlink : Cond.methodLink own ix y ∈ gw_tbl) (hst : st0 = As.reverse ++ st) (hn : As.length = n) (hf1 : fr' + 1 ≤ fr) (hl1 : 8 + (nL' + 11) + lo' ≤ lo) (hcat : (st.map fun v => v.category).sum ≤ 8) (hd : decode cc pc = .ok (.invokestatic ix, 3)) (k : ∀ (r : Int32) (σ' : HS), post r σ' → AW ad ca Γ (pc + 3) vs (.int r :: st) σ') : AW ad ca Γ pc vs st0 σ := by
  obtain ⟨p, l, e, R, s, m, args, below, meth, c, kc, ks, Q, D, A, H0, nL⟩ := Γ
  obtain ⟨⟨hx, hb, hml, hown, hts⟩, hK, hE, hD, hA0, rfl, rfl, hfr, hlo, hkc, hks, rfl⟩ := C
  intro H locs ls hP hS hl
  obtain ⟨w1, w3, w4, w5, w6, w7⟩ := hw
  subst hst
  have hG : GoodIn gw_tbl (va_wsS own ix y (.code y cc' nL' (some ty) :: gw_tbl)) := lw_goodIn (fun w h => by
    simp only [va_wsS, List.cons_append, List.nil_append, List.mem_cons] at h
    rcases h with rfl | rfl | rfl | rfl | h
    · exact hlink
    · exact w1
    · exact w3
    · exact w4
    · exact h)
  have hFc := mw_freeA (hD σ) hS hA0
  refine va_calli (va_runS (As := As) (rest := st) ⟨hx, hb, hml, hown, hts⟩ (hM H.size) (va_cwS n hts hG rfl rfl rfl ⟨w5, w6, w7⟩ ⟨Nat.le_trans hf1 hfr, Nat.le_trans hl1 hlo⟩) ⟨KPre.blind, fun U hU hW => ⟨rfl, by rw [hU], by rw [hU]; exact hP, va_K.moved hW.alike hK, (hD σ).weaken (fun _ _ _ _ => trivial), hE.warm hW⟩⟩ rfl hn hl.1 rfl (lv_room hcat) hd ⟨hkc, hks⟩) hS (fun q _ h => hFc q h) hFc (fun r u t H1 locs1 ht hvm hw hB hz1 hk1 hS1 => ?_)
  have hP1 := hB.1
  rw [ht] at hP1
  exact k r u hw H1 locs1 ls hP1 hS1 hl
theorem a_callSv (C : CT ad ca Γ cc own l0 D0 fr lo nL0) {y : MethodName} {cc' : ByteArray} {nL' fr' lo' n ix : Nat} {As st0 : List Value} {post : HS → Prop} (hM : Kv l0 D0 ad ca y cc' nL' fr' lo' As σ post) (hw : MS y cc' nL' none n) (hlink : Cond.methodLink own ix y ∈ gw_tbl) (hst : st0 = As.reverse ++ st) (hn : As.length = n) (hf1 : fr' + 1 ≤ fr) (hl1 : 8 + (nL' + 11) + lo' ≤ lo) (hcat : (st.map fun v => v.category).sum ≤ 8) (hd : decode cc pc = .ok (.invokestatic ix, 3)) (k : ∀ (σ' : HS), post σ' → AW ad ca Γ (pc + 3) vs st σ') : AW ad ca Γ pc vs st0 σ := by
  obtain ⟨p, l, e, R, s, m, args, below, meth, c, kc, ks, Q, D, A, H0, nL⟩ := Γ
  obtain ⟨⟨hx, hb, hml, hown, hts⟩, hK, hE, hD, hA0, rfl, rfl, hfr, hlo, hkc, hks, rfl⟩ := C
  intro H locs ls hP hS hl
  obtain ⟨w1, w3, w4, w5, w6, w7⟩ := hw
  subst hst
  have hG : GoodIn gw_tbl (va_wsS own ix y (.code y cc' nL' none :: gw_tbl)) := lw_goodIn (fun w h => by
    simp only [va_wsS, List.cons_append, List.nil_append, List.mem_cons] at h
    rcases h with rfl | rfl | rfl | rfl | h
    · exact hlink
    · exact w1
    · exact w3
    · exact w4
    · exact h)
  have hFc := mw_freeA (hD σ) hS hA0
  refine va_callv (va_runS (As := As) (rest := st) ⟨hx, hb, hml, hown, hts⟩ (hM H.size) (va_cwS n hts hG rfl rfl rfl ⟨w5, w6, w7⟩ ⟨Nat.le_trans hf1 hfr, Nat.le_trans hl1 hlo⟩) ⟨KPre.blind, fun U hU hW => ⟨rfl, by rw [hU], by rw [hU]; exact hP, va_K.moved hW.alike hK, (hD σ).weaken (fun _ _ _ _ => trivial), hE.warm hW⟩⟩ rfl hn hl.1 rfl (lv_room hcat) hd ⟨hkc, hks⟩) hS (fun q _ h => hFc q h) hFc (fun u t H1 locs1 ht hvm hw hB hz1 hk1 hS1 => ?_)
  have hP1 := hB.1
  rw [ht] at hP1
  exact k u hw H1 locs1 ls hP1 hS1 hl
theorem a_callSl (C : CT ad ca Γ cc own l0 D0 fr lo nL0) {y : MethodName} {cc' : ByteArray} {nL' fr' lo' n ix : Nat} {As st0 : List Value} {post : Int64 → HS → Prop} (hM : Kl l0 D0 ad ca y cc' nL' fr' lo' As σ post) (hw : MS y cc' nL' (some .long) n) (hlink : Cond.methodLink own ix y ∈ gw_tbl) (hst : st0 = As.reverse ++ st) (hn : As.length = n) (hf1 : fr' + 1 ≤ fr) (hl1 : 8 + (nL' + 11) + lo' ≤ lo) (hcat : (st.map fun v => v.category).sum ≤ 8) (hd : decode cc pc = .ok (.invokestatic ix, 3)) (k : ∀ (r : Int64) (σ' : HS), post r σ' → AW ad ca Γ (pc + 3) vs (.long r :: st) σ') : AW ad ca Γ pc vs st0 σ := by
  obtain ⟨p, l, e, R, s, m, args, below, meth, c, kc, ks, Q, D, A, H0, nL⟩ := Γ
  obtain ⟨⟨hx, hb, hml, hown, hts⟩, hK, hE, hD, hA0, rfl, rfl, hfr, hlo, hkc, hks, rfl⟩ := C
  intro H locs ls hP hS hl
  obtain ⟨w1, w3, w4, w5, w6, w7⟩ := hw
  subst hst
  have hG : GoodIn gw_tbl (va_wsS own ix y (.code y cc' nL' (some .long) :: gw_tbl)) := lw_goodIn (fun w h => by
    simp only [va_wsS, List.cons_append, List.nil_append, List.mem_cons] at h
    rcases h with rfl | rfl | rfl | rfl | h
    · exact hlink
    · exact w1
    · exact w3
    · exact w4
    · exact h)
  have hFc := mw_freeA (hD σ) hS hA0
  refine va_calll (va_runS (As := As) (rest := st) ⟨hx, hb, hml, hown, hts⟩ (hM H.size) (va_cwS n hts hG rfl rfl rfl ⟨w5, w6, w7⟩ ⟨Nat.le_trans hf1 hfr, Nat.le_trans hl1 hlo⟩) ⟨KPre.blind, fun U hU hW => ⟨rfl, by rw [hU], by rw [hU]; exact hP, va_K.moved hW.alike hK, (hD σ).weaken (fun _ _ _ _ => trivial), hE.warm hW⟩⟩ rfl hn hl.1 rfl (lv_room hcat) hd ⟨hkc, hks⟩) hS (fun q _ h => hFc q h) hFc (fun r u t H1 locs1 ht hvm hw hB hz1 hk1 hS1 => ?_)
  have hP1 := hB.1
  rw [ht] at hP1
  exact k r u hw H1 locs1 ls hP1 hS1 hl
end RETR
end
section
/-! kinds and lengths by number; the fresh state -/
theorem kd_0 : kd 0 = 10 := by decide
theorem kd_1 : kd 1 = 5 := by decide
theorem kd_2 : kd 2 = 8 := by decide
theorem kd_3 : kd 3 = 20 := by decide
theorem al_3 : al 3 = 2000 := by decide
theorem kd_4 : kd 4 = 20 := by decide
theorem al_4 : al 4 = 401 := by decide
theorem kd_5 : kd 5 = 20 := by decide
theorem al_5 : al 5 = 401 := by decide
theorem kd_6 : kd 6 = 23 := by decide
theorem al_6 : al 6 = 401 := by decide
theorem kd_7 : kd 7 = 23 := by decide
theorem al_7 : al 7 = 12 := by decide
theorem kd_8 : kd 8 = 3 := by decide
theorem kd_9 : kd 9 = 1 := by decide
theorem kd_10 : kd 10 = 20 := by decide
theorem al_10 : al 10 = 9 := by decide
theorem kd_11 : kd 11 = 20 := by decide
theorem al_11 : al 11 = 32 := by decide
theorem kd_12 : kd 12 = 4 := by decide
theorem kd_13 : kd 13 = 24 := by decide
theorem al_13 : al 13 = 40 := by decide
theorem kd_14 : kd 14 = 2 := by decide
theorem kd_15 : kd 15 = 20 := by decide
theorem al_15 : al 15 = 20 := by decide
theorem kd_16 : kd 16 = 21 := by decide
theorem al_16 : al 16 = 20 := by decide
theorem kd_17 : kd 17 = 6 := by decide
theorem kd_18 : kd 18 = 20 := by decide
theorem al_18 : al 18 = 1024 := by decide
theorem kd_19 : kd 19 = 20 := by decide
theorem al_19 : al 19 = 1024 := by decide
theorem kd_20 : kd 20 = 20 := by decide
theorem al_20 : al 20 = 1024 := by decide
theorem kd_21 : kd 21 = 20 := by decide
theorem al_21 : al 21 = 12 := by decide
theorem kd_22 : kd 22 = 7 := by decide
theorem kd_23 : kd 23 = 20 := by decide
theorem al_23 : al 23 = 5 := by decide
theorem kd_24 : kd 24 = 20 := by decide
theorem al_24 : al 24 = 5 := by decide
theorem kd_25 : kd 25 = 25 := by decide
theorem al_25 : al 25 = 3 := by decide
theorem kd_26 : kd 26 = 21 := by decide
theorem al_26 : al 26 = 3 := by decide
theorem kd_27 : kd 27 = 20 := by decide
theorem al_27 : al 27 = 61 := by decide
theorem kd_28 : kd 28 = 20 := by decide
theorem al_28 : al 28 = 7 := by decide
theorem kd_29 : kd 29 = 20 := by decide
theorem al_29 : al 29 = 16 := by decide
theorem kd_30 : kd 30 = 9 := by decide
theorem kd_31 : kd 31 = 20 := by decide
theorem al_31 : al 31 = 7 := by decide
theorem kd_32 : kd 32 = 20 := by decide
theorem al_32 : al 32 = 7 := by decide
theorem kd_33 : kd 33 = 20 := by decide
theorem al_33 : al 33 = 7 := by decide
theorem kd_34 : kd 34 = 26 := by decide
theorem al_34 : al 34 = 5 := by decide
theorem kd_35 : kd 35 = 20 := by decide
theorem al_35 : al 35 = 8 := by decide
theorem kd_36 : kd 36 = 20 := by decide
theorem al_36 : al 36 = 8 := by decide
theorem kd_37 : kd 37 = 20 := by decide
theorem al_37 : al 37 = 8 := by decide
theorem kd_38 : kd 38 = 20 := by decide
theorem al_38 : al 38 = 8 := by decide
theorem kd_39 : kd 39 = 20 := by decide
theorem al_39 : al 39 = 8 := by decide
theorem kd_40 : kd 40 = 20 := by decide
theorem al_40 : al 40 = 5 := by decide
theorem kd_41 : kd 41 = 20 := by decide
theorem al_41 : al 41 = 408 := by decide
theorem kd_42 : kd 42 = 20 := by decide
theorem al_42 : al 42 = 4 := by decide
theorem kd_43 : kd 43 = 9 := by decide
theorem kd_44 : kd 44 = 20 := by decide
theorem al_44 : al 44 = 7 := by decide
theorem kd_45 : kd 45 = 20 := by decide
theorem al_45 : al 45 = 7 := by decide
theorem kd_46 : kd 46 = 20 := by decide
theorem al_46 : al 46 = 7 := by decide
theorem kd_47 : kd 47 = 26 := by decide
theorem al_47 : al 47 = 5 := by decide
theorem kd_48 : kd 48 = 20 := by decide
theorem al_48 : al 48 = 8 := by decide
theorem kd_49 : kd 49 = 20 := by decide
theorem al_49 : al 49 = 8 := by decide
theorem kd_50 : kd 50 = 20 := by decide
theorem al_50 : al 50 = 8 := by decide
theorem kd_51 : kd 51 = 20 := by decide
theorem al_51 : al 51 = 8 := by decide
theorem kd_52 : kd 52 = 20 := by decide
theorem al_52 : al 52 = 8 := by decide
theorem kd_53 : kd 53 = 20 := by decide
theorem al_53 : al 53 = 5 := by decide
theorem kd_54 : kd 54 = 20 := by decide
theorem al_54 : al 54 = 408 := by decide
theorem kd_55 : kd 55 = 20 := by decide
theorem al_55 : al 55 = 4 := by decide
theorem kd_56 : kd 56 = 0 := by decide
theorem kd_57 : kd 57 = 20 := by decide
theorem al_57 : al 57 = 7 := by decide
theorem kd_58 : kd 58 = 20 := by decide
theorem al_58 : al 58 = 7 := by decide
theorem kd_59 : kd 59 = 20 := by decide
theorem al_59 : al 59 = 7 := by decide
theorem kd_60 : kd 60 = 0 := by decide
theorem kd_61 : kd 61 = 20 := by decide
theorem al_61 : al 61 = 7 := by decide
theorem kd_62 : kd 62 = 20 := by decide
theorem al_62 : al 62 = 7 := by decide
theorem kd_63 : kd 63 = 20 := by decide
theorem al_63 : al 63 = 7 := by decide
theorem kd_64 : kd 64 = 0 := by decide
theorem kd_65 : kd 65 = 20 := by decide
theorem al_65 : al 65 = 7 := by decide
theorem kd_66 : kd 66 = 20 := by decide
theorem al_66 : al 66 = 7 := by decide
theorem kd_67 : kd 67 = 20 := by decide
theorem al_67 : al 67 = 7 := by decide
theorem kd_68 : kd 68 = 0 := by decide
theorem kd_69 : kd 69 = 20 := by decide
theorem al_69 : al 69 = 7 := by decide
theorem kd_70 : kd 70 = 20 := by decide
theorem al_70 : al 70 = 7 := by decide
theorem kd_71 : kd 71 = 20 := by decide
theorem al_71 : al 71 = 7 := by decide
theorem kd_72 : kd 72 = 0 := by decide
theorem kd_73 : kd 73 = 20 := by decide
theorem al_73 : al 73 = 7 := by decide
theorem kd_74 : kd 74 = 20 := by decide
theorem al_74 : al 74 = 7 := by decide
theorem kd_75 : kd 75 = 20 := by decide
theorem al_75 : al 75 = 7 := by decide
theorem kd_76 : kd 76 = 0 := by decide
theorem kd_77 : kd 77 = 20 := by decide
theorem al_77 : al 77 = 7 := by decide
theorem kd_78 : kd 78 = 20 := by decide
theorem al_78 : al 78 = 7 := by decide
theorem kd_79 : kd 79 = 20 := by decide
theorem al_79 : al 79 = 7 := by decide
theorem kd_80 : kd 80 = 0 := by decide
theorem kd_81 : kd 81 = 20 := by decide
theorem al_81 : al 81 = 7 := by decide
theorem kd_82 : kd 82 = 20 := by decide
theorem al_82 : al 82 = 7 := by decide
theorem kd_83 : kd 83 = 20 := by decide
theorem al_83 : al 83 = 7 := by decide
theorem kd_84 : kd 84 = 0 := by decide
theorem kd_85 : kd 85 = 20 := by decide
theorem al_85 : al 85 = 7 := by decide
theorem kd_86 : kd 86 = 20 := by decide
theorem al_86 : al 86 = 7 := by decide
theorem kd_87 : kd 87 = 20 := by decide
theorem al_87 : al 87 = 7 := by decide
theorem kd_88 : kd 88 = 0 := by decide
theorem kd_89 : kd 89 = 20 := by decide
theorem al_89 : al 89 = 7 := by decide
theorem kd_90 : kd 90 = 20 := by decide
theorem al_90 : al 90 = 7 := by decide
theorem kd_91 : kd 91 = 20 := by decide
theorem al_91 : al 91 = 7 := by decide
theorem kd_92 : kd 92 = 0 := by decide
theorem kd_93 : kd 93 = 20 := by decide
theorem al_93 : al 93 = 7 := by decide
theorem kd_94 : kd 94 = 20 := by decide
theorem al_94 : al 94 = 7 := by decide
theorem kd_95 : kd 95 = 20 := by decide
theorem al_95 : al 95 = 7 := by decide
theorem kd_96 : kd 96 = 0 := by decide
theorem kd_97 : kd 97 = 20 := by decide
theorem al_97 : al 97 = 7 := by decide
theorem kd_98 : kd 98 = 20 := by decide
theorem al_98 : al 98 = 7 := by decide
theorem kd_99 : kd 99 = 20 := by decide
theorem al_99 : al 99 = 7 := by decide
theorem kd_100 : kd 100 = 0 := by decide
theorem kd_101 : kd 101 = 20 := by decide
theorem al_101 : al 101 = 7 := by decide
theorem kd_102 : kd 102 = 20 := by decide
theorem al_102 : al 102 = 7 := by decide
theorem kd_103 : kd 103 = 20 := by decide
theorem al_103 : al 103 = 7 := by decide
theorem kd_104 : kd 104 = 0 := by decide
theorem kd_105 : kd 105 = 20 := by decide
theorem al_105 : al 105 = 7 := by decide
theorem kd_106 : kd 106 = 20 := by decide
theorem al_106 : al 106 = 7 := by decide
theorem kd_107 : kd 107 = 20 := by decide
theorem al_107 : al 107 = 7 := by decide
theorem kd_108 : kd 108 = 0 := by decide
theorem kd_109 : kd 109 = 20 := by decide
theorem al_109 : al 109 = 7 := by decide
theorem kd_110 : kd 110 = 20 := by decide
theorem al_110 : al 110 = 7 := by decide
theorem kd_111 : kd 111 = 20 := by decide
theorem al_111 : al 111 = 7 := by decide
theorem kd_112 : kd 112 = 0 := by decide
theorem kd_113 : kd 113 = 20 := by decide
theorem al_113 : al 113 = 7 := by decide
theorem kd_114 : kd 114 = 20 := by decide
theorem al_114 : al 114 = 7 := by decide
theorem kd_115 : kd 115 = 20 := by decide
theorem al_115 : al 115 = 7 := by decide
theorem kd_116 : kd 116 = 0 := by decide
theorem kd_117 : kd 117 = 20 := by decide
theorem al_117 : al 117 = 7 := by decide
theorem kd_118 : kd 118 = 20 := by decide
theorem al_118 : al 118 = 7 := by decide
theorem kd_119 : kd 119 = 20 := by decide
theorem al_119 : al 119 = 7 := by decide
theorem kd_120 : kd 120 = 0 := by decide
theorem kd_121 : kd 121 = 20 := by decide
theorem al_121 : al 121 = 7 := by decide
theorem kd_122 : kd 122 = 20 := by decide
theorem al_122 : al 122 = 7 := by decide
theorem kd_123 : kd 123 = 20 := by decide
theorem al_123 : al 123 = 7 := by decide
theorem kd_124 : kd 124 = 0 := by decide
theorem kd_125 : kd 125 = 20 := by decide
theorem al_125 : al 125 = 7 := by decide
theorem kd_126 : kd 126 = 20 := by decide
theorem al_126 : al 126 = 7 := by decide
theorem kd_127 : kd 127 = 20 := by decide
theorem al_127 : al 127 = 7 := by decide
theorem kd_128 : kd 128 = 0 := by decide
theorem kd_129 : kd 129 = 20 := by decide
theorem al_129 : al 129 = 7 := by decide
theorem kd_130 : kd 130 = 20 := by decide
theorem al_130 : al 130 = 7 := by decide
theorem kd_131 : kd 131 = 20 := by decide
theorem al_131 : al 131 = 7 := by decide
theorem kd_132 : kd 132 = 0 := by decide
theorem kd_133 : kd 133 = 20 := by decide
theorem al_133 : al 133 = 7 := by decide
theorem kd_134 : kd 134 = 20 := by decide
theorem al_134 : al 134 = 7 := by decide
theorem kd_135 : kd 135 = 20 := by decide
theorem al_135 : al 135 = 7 := by decide
theorem kd_136 : kd 136 = 0 := by decide
theorem kd_137 : kd 137 = 20 := by decide
theorem al_137 : al 137 = 7 := by decide
theorem kd_138 : kd 138 = 20 := by decide
theorem al_138 : al 138 = 7 := by decide
theorem kd_139 : kd 139 = 20 := by decide
theorem al_139 : al 139 = 7 := by decide
theorem kd_140 : kd 140 = 0 := by decide
theorem kd_141 : kd 141 = 20 := by decide
theorem al_141 : al 141 = 7 := by decide
theorem kd_142 : kd 142 = 20 := by decide
theorem al_142 : al 142 = 7 := by decide
theorem kd_143 : kd 143 = 20 := by decide
theorem al_143 : al 143 = 7 := by decide
theorem kd_144 : kd 144 = 0 := by decide
theorem kd_145 : kd 145 = 20 := by decide
theorem al_145 : al 145 = 7 := by decide
theorem kd_146 : kd 146 = 20 := by decide
theorem al_146 : al 146 = 7 := by decide
theorem kd_147 : kd 147 = 20 := by decide
theorem al_147 : al 147 = 7 := by decide
theorem kd_148 : kd 148 = 0 := by decide
theorem kd_149 : kd 149 = 20 := by decide
theorem al_149 : al 149 = 7 := by decide
theorem kd_150 : kd 150 = 20 := by decide
theorem al_150 : al 150 = 7 := by decide
theorem kd_151 : kd 151 = 20 := by decide
theorem al_151 : al 151 = 7 := by decide
theorem kd_152 : kd 152 = 0 := by decide
theorem kd_153 : kd 153 = 20 := by decide
theorem al_153 : al 153 = 7 := by decide
theorem kd_154 : kd 154 = 20 := by decide
theorem al_154 : al 154 = 7 := by decide
theorem kd_155 : kd 155 = 20 := by decide
theorem al_155 : al 155 = 7 := by decide
theorem kd_156 : kd 156 = 0 := by decide
theorem kd_157 : kd 157 = 20 := by decide
theorem al_157 : al 157 = 7 := by decide
theorem kd_158 : kd 158 = 20 := by decide
theorem al_158 : al 158 = 7 := by decide
theorem kd_159 : kd 159 = 20 := by decide
theorem al_159 : al 159 = 7 := by decide
theorem kd_160 : kd 160 = 0 := by decide
theorem kd_161 : kd 161 = 20 := by decide
theorem al_161 : al 161 = 7 := by decide
theorem kd_162 : kd 162 = 20 := by decide
theorem al_162 : al 162 = 7 := by decide
theorem kd_163 : kd 163 = 20 := by decide
theorem al_163 : al 163 = 7 := by decide
theorem kd_164 : kd 164 = 0 := by decide
theorem kd_165 : kd 165 = 20 := by decide
theorem al_165 : al 165 = 7 := by decide
theorem kd_166 : kd 166 = 20 := by decide
theorem al_166 : al 166 = 7 := by decide
theorem kd_167 : kd 167 = 20 := by decide
theorem al_167 : al 167 = 7 := by decide
theorem kd_168 : kd 168 = 0 := by decide
theorem kd_169 : kd 169 = 20 := by decide
theorem al_169 : al 169 = 7 := by decide
theorem kd_170 : kd 170 = 20 := by decide
theorem al_170 : al 170 = 7 := by decide
theorem kd_171 : kd 171 = 20 := by decide
theorem al_171 : al 171 = 7 := by decide
theorem kd_172 : kd 172 = 0 := by decide
theorem kd_173 : kd 173 = 20 := by decide
theorem al_173 : al 173 = 7 := by decide
theorem kd_174 : kd 174 = 20 := by decide
theorem al_174 : al 174 = 7 := by decide
theorem kd_175 : kd 175 = 20 := by decide
theorem al_175 : al 175 = 7 := by decide
theorem kd_176 : kd 176 = 0 := by decide
theorem kd_177 : kd 177 = 20 := by decide
theorem al_177 : al 177 = 7 := by decide
theorem kd_178 : kd 178 = 20 := by decide
theorem al_178 : al 178 = 7 := by decide
theorem kd_179 : kd 179 = 20 := by decide
theorem al_179 : al 179 = 7 := by decide
theorem kd_180 : kd 180 = 0 := by decide
theorem kd_181 : kd 181 = 20 := by decide
theorem al_181 : al 181 = 7 := by decide
theorem kd_182 : kd 182 = 20 := by decide
theorem al_182 : al 182 = 7 := by decide
theorem kd_183 : kd 183 = 20 := by decide
theorem al_183 : al 183 = 7 := by decide
theorem kd_184 : kd 184 = 0 := by decide
theorem kd_185 : kd 185 = 20 := by decide
theorem al_185 : al 185 = 7 := by decide
theorem kd_186 : kd 186 = 20 := by decide
theorem al_186 : al 186 = 7 := by decide
theorem kd_187 : kd 187 = 20 := by decide
theorem al_187 : al 187 = 7 := by decide
theorem kd_188 : kd 188 = 0 := by decide
theorem kd_189 : kd 189 = 20 := by decide
theorem al_189 : al 189 = 7 := by decide
theorem kd_190 : kd 190 = 20 := by decide
theorem al_190 : al 190 = 7 := by decide
theorem kd_191 : kd 191 = 20 := by decide
theorem al_191 : al 191 = 7 := by decide
theorem kd_192 : kd 192 = 0 := by decide
theorem kd_193 : kd 193 = 20 := by decide
theorem al_193 : al 193 = 7 := by decide
theorem kd_194 : kd 194 = 20 := by decide
theorem al_194 : al 194 = 7 := by decide
theorem kd_195 : kd 195 = 20 := by decide
theorem al_195 : al 195 = 7 := by decide
theorem kd_196 : kd 196 = 0 := by decide
theorem kd_197 : kd 197 = 20 := by decide
theorem al_197 : al 197 = 7 := by decide
theorem kd_198 : kd 198 = 20 := by decide
theorem al_198 : al 198 = 7 := by decide
theorem kd_199 : kd 199 = 20 := by decide
theorem al_199 : al 199 = 7 := by decide
theorem kd_200 : kd 200 = 0 := by decide
theorem kd_201 : kd 201 = 20 := by decide
theorem al_201 : al 201 = 7 := by decide
theorem kd_202 : kd 202 = 20 := by decide
theorem al_202 : al 202 = 7 := by decide
theorem kd_203 : kd 203 = 20 := by decide
theorem al_203 : al 203 = 7 := by decide
theorem kd_204 : kd 204 = 0 := by decide
theorem kd_205 : kd 205 = 20 := by decide
theorem al_205 : al 205 = 7 := by decide
theorem kd_206 : kd 206 = 20 := by decide
theorem al_206 : al 206 = 7 := by decide
theorem kd_207 : kd 207 = 20 := by decide
theorem al_207 : al 207 = 7 := by decide
theorem kd_208 : kd 208 = 0 := by decide
theorem kd_209 : kd 209 = 20 := by decide
theorem al_209 : al 209 = 7 := by decide
theorem kd_210 : kd 210 = 20 := by decide
theorem al_210 : al 210 = 7 := by decide
theorem kd_211 : kd 211 = 20 := by decide
theorem al_211 : al 211 = 7 := by decide
theorem kd_212 : kd 212 = 0 := by decide
theorem kd_213 : kd 213 = 20 := by decide
theorem al_213 : al 213 = 7 := by decide
theorem kd_214 : kd 214 = 20 := by decide
theorem al_214 : al 214 = 7 := by decide
theorem kd_215 : kd 215 = 20 := by decide
theorem al_215 : al 215 = 7 := by decide
theorem kd_216 : kd 216 = 0 := by decide
theorem kd_217 : kd 217 = 20 := by decide
theorem al_217 : al 217 = 7 := by decide
theorem kd_218 : kd 218 = 20 := by decide
theorem al_218 : al 218 = 7 := by decide
theorem kd_219 : kd 219 = 20 := by decide
theorem al_219 : al 219 = 7 := by decide
theorem kd_220 : kd 220 = 0 := by decide
theorem kd_221 : kd 221 = 20 := by decide
theorem al_221 : al 221 = 7 := by decide
theorem kd_222 : kd 222 = 20 := by decide
theorem al_222 : al 222 = 7 := by decide
theorem kd_223 : kd 223 = 20 := by decide
theorem al_223 : al 223 = 7 := by decide
theorem kd_224 : kd 224 = 0 := by decide
theorem kd_225 : kd 225 = 20 := by decide
theorem al_225 : al 225 = 7 := by decide
theorem kd_226 : kd 226 = 20 := by decide
theorem al_226 : al 226 = 7 := by decide
theorem kd_227 : kd 227 = 20 := by decide
theorem al_227 : al 227 = 7 := by decide
theorem kd_228 : kd 228 = 0 := by decide
theorem kd_229 : kd 229 = 20 := by decide
theorem al_229 : al 229 = 7 := by decide
theorem kd_230 : kd 230 = 20 := by decide
theorem al_230 : al 230 = 7 := by decide
theorem kd_231 : kd 231 = 20 := by decide
theorem al_231 : al 231 = 7 := by decide
theorem kd_232 : kd 232 = 0 := by decide
theorem kd_233 : kd 233 = 20 := by decide
theorem al_233 : al 233 = 7 := by decide
theorem kd_234 : kd 234 = 20 := by decide
theorem al_234 : al 234 = 7 := by decide
theorem kd_235 : kd 235 = 20 := by decide
theorem al_235 : al 235 = 7 := by decide
theorem kd_236 : kd 236 = 11 := by decide
theorem kd_237 : kd 237 = 22 := by decide
theorem al_237 : al 237 = 2000 := by decide
theorem kd_238 : kd 238 = 22 := by decide
theorem al_238 : al 238 = 2000 := by decide
theorem kd_239 : kd 239 = 20 := by decide
theorem al_239 : al 239 = 403 := by decide
theorem kd_240 : kd 240 = 20 := by decide
theorem al_240 : al 240 = 403 := by decide
theorem kd_241 : kd 241 = 20 := by decide
theorem al_241 : al 241 = 403 := by decide
theorem kd_242 : kd 242 = 23 := by decide
theorem al_242 : al 242 = 403 := by decide
theorem kd_243 : kd 243 = 23 := by decide
theorem al_243 : al 243 = 20 := by decide
theorem kd_244 : kd 244 = 23 := by decide
theorem al_244 : al 244 = 12 := by decide
theorem kd_245 : kd 245 = 20 := by decide
theorem al_245 : al 245 = 2 := by decide
theorem kd_246 : kd 246 = 20 := by decide
theorem al_246 : al 246 = 14 := by decide
theorem kd_247 : kd 247 = 20 := by decide
theorem al_247 : al 247 = 14 := by decide
theorem kd_248 : kd 248 = 20 := by decide
theorem al_248 : al 248 = 14 := by decide
theorem kd_249 : kd 249 = 20 := by decide
theorem al_249 : al 249 = 2 := by decide
theorem kd_250 : kd 250 = 20 := by decide
theorem al_250 : al 250 = 10 := by decide
theorem kd_251 : kd 251 = 20 := by decide
theorem al_251 : al 251 = 80 := by decide
theorem kd_252 : kd 252 = 20 := by decide
theorem al_252 : al 252 = 2 := by decide
theorem kd_253 : kd 253 = 20 := by decide
theorem al_253 : al 253 = 2 := by decide
theorem kd_254 : kd 254 = 20 := by decide
theorem al_254 : al 254 = 8 := by decide
theorem kd_255 : kd 255 = 20 := by decide
theorem al_255 : al 255 = 8 := by decide
theorem kd_256 : kd 256 = 21 := by decide
theorem al_256 : al 256 = 260 := by decide
theorem kd_257 : kd 257 = 20 := by decide
theorem al_257 : al 257 = 260 := by decide
theorem kd_258 : kd 258 = 20 := by decide
theorem al_258 : al 258 = 260 := by decide
theorem kd_259 : kd 259 = 20 := by decide
theorem al_259 : al 259 = 260 := by decide
theorem kd_260 : kd 260 = 20 := by decide
theorem al_260 : al 260 = 260 := by decide
theorem kd_261 : kd 261 = 20 := by decide
theorem al_261 : al 261 = 840 := by decide
theorem kd_262 : kd 262 = 20 := by decide
theorem al_262 : al 262 = 840 := by decide
theorem kd_263 : kd 263 = 20 := by decide
theorem al_263 : al 263 = 64 := by decide
theorem kd_264 : kd 264 = 20 := by decide
theorem al_264 : al 264 = 9 := by decide
theorem kd_265 : kd 265 = 20 := by decide
theorem al_265 : al 265 = 400 := by decide
theorem kd_266 : kd 266 = 20 := by decide
theorem al_266 : al 266 = 29 := by decide
theorem kd_267 : kd 267 = 20 := by decide
theorem al_267 : al 267 = 29 := by decide
theorem kd_268 : kd 268 = 20 := by decide
theorem al_268 : al 268 = 1160 := by decide
theorem kd_269 : kd 269 = 20 := by decide
theorem al_269 : al 269 = 16 := by decide
theorem kd_270 : kd 270 = 20 := by decide
theorem al_270 : al 270 = 1024 := by decide
theorem kd_271 : kd 271 = 20 := by decide
theorem al_271 : al 271 = 7 := by decide
theorem kd_272 : kd 272 = 20 := by decide
theorem al_272 : al 272 = 20 := by decide
theorem kd_273 : kd 273 = 21 := by decide
theorem al_273 : al 273 = 20 := by decide
theorem kd_274 : kd 274 = 20 := by decide
theorem al_274 : al 274 = 41 := by decide
theorem kd_275 : kd 275 = 21 := by decide
theorem al_275 : al 275 = 3 := by decide
theorem kd_276 : kd 276 = 20 := by decide
theorem al_276 : al 276 = 87 := by decide
def hC (σ : HS) (a b n : Nat) : HS := hA σ b (va_cpy (σ.1 a) (σ.1 b) 0 0 n)
/-- the ints of the fresh state -/
def s0I (i k : Nat) : Int32 := match kd i with
  | 0 => if k = 9 then -1 else if k = 11 then -1 else 0
  | 5 => if k = 1 then -1 else 0
  | 9 => if k = 8 then 8 else if k = 10 then 1 else 0
  | 11 => if k = 17 then -1 else 0
  | 20 => if i = 41 ∨ i = 54 then [0, -6, 0, -6, -11, -6, 0, -6].getD k 0
    else if i = 42 ∨ i = 55 then [0, 2, 4, 6].getD k 0
    else if i = 252 then (if k = 0 then 1 else 0)
    else if i = 266 ∨ i = 267 then (if k = 26 then -2 else if k = 28 then -1 else 0)
    else 0
  | _ => 0
def s0L (i k : Nat) : Int64 := if i = 243 then [10793230, 6224103356, 10819243, 2491444, 3497099, 316351, 9678763, 377761, 249, 399641, 107681, 332864552, 101525, 117630947, 43058, 10819228, 583, 12387257, 43996844, 158575].getD k 0 else 0
def s0 : HS := (s0I, s0L, fun k => if k = 0 then 30 else 43)
/-- the class's cells may have changed, the reference's haven't -/
def keepM (σ σ1 : HS) : Prop := ∀ k, 236 ≤ k → σ1.1 k = σ.1 k ∧ σ1.2.1 k = σ.2.1 k
theorem keepM.rf {σ : HS} : keepM σ σ := fun _ _ => ⟨rfl, rfl⟩
theorem keepM.tr {σ σ1 σ2 : HS} (h : keepM σ σ1) (h2 : keepM σ1 σ2) : keepM σ σ2 := fun k hk => ⟨(h2 k hk).1.trans (h k hk).1, (h2 k hk).2.trans (h k hk).2⟩
theorem keepM.I {σ σ1 : HS} {i k : Nat} {v : Int32} (h : keepM σ σ1) (hi : i < 236) : keepM σ (hI σ1 i k v) := fun q hq => ⟨(va_up_ne _ _ (show q ≠ i by omega)).trans (h q hq).1, (h q hq).2⟩
theorem keepM.C {σ σ1 : HS} {i j n : Nat} (h : keepM σ σ1) (hi : j < 236) : keepM σ (hC σ1 i j n) := fun q hq => ⟨(va_up_ne _ _ (show q ≠ j by omega)).trans (h q hq).1, (h q hq).2⟩
theorem keepM.R {σ σ1 : HS} {k v : Nat} (h : keepM σ σ1) : keepM σ (hR σ1 k v) := h
/-- only the cells in L may have changed -/
def only (L : List Nat) (σ σ1 : HS) : Prop := (∀ k, k ∉ L → σ1.1 k = σ.1 k) ∧ σ1.2 = σ.2
theorem only.rf {L : List Nat} {σ : HS} : only L σ σ := ⟨fun _ _ => rfl, rfl⟩
theorem only.tr {L : List Nat} {σ σ1 σ2 : HS} (h : only L σ σ1) (h2 : only L σ1 σ2) : only L σ σ2 := ⟨fun k hk => (h2.1 k hk).trans (h.1 k hk), h2.2.trans h.2⟩
theorem only.I {L : List Nat} {σ σ1 : HS} {i k : Nat} {v : Int32} (h : only L σ σ1) (hi : i ∈ L) : only L σ (hI σ1 i k v) := ⟨fun q hq => (va_up_ne _ _ (show q ≠ i from fun e => hq (by rw [e]; exact hi))).trans (h.1 q hq), h.2⟩
theorem only.C {L : List Nat} {σ σ1 : HS} {i j n : Nat} (h : only L σ σ1) (hi : j ∈ L) : only L σ (hC σ1 i j n) := ⟨fun q hq => (va_up_ne _ _ (show q ≠ j from fun e => hq (by rw [e]; exact hi))).trans (h.1 q hq), h.2⟩
theorem only.mono {L L1 : List Nat} {σ σ1 : HS} (h : only L σ σ1) (hL : ∀ q, q ∈ L → q ∈ L1) : only L1 σ σ1 := ⟨fun q hq => h.1 q (fun e => hq (hL q e)), h.2⟩
theorem only.keepM {L : List Nat} {σ σ1 : HS} (h : only L σ σ1) (hL : ∀ q, q ∈ L → q < 236) : keepM σ σ1 := fun k hk => ⟨h.1 k (fun e => absurd (hL k e) (by omega)), congrFun (congrArg Prod.fst h.2) k⟩
theorem hI_s {σ : HS} {i k : Nat} {v : Int32} : (hI σ i k v).1 i k = v := by
  show va_up σ.1 i (upd (σ.1 i) k v) i k = v
  rw [va_up_self]
  exact pk_us
theorem hI_n {σ : HS} {i k j : Nat} {v : Int32} (h : j ≠ k) : (hI σ i k v).1 i j = σ.1 i j := by
  show va_up σ.1 i (upd (σ.1 i) k v) i j = σ.1 i j
  rw [va_up_self]
  exact pk_un h
theorem hI_o {σ : HS} {i k a : Nat} {v : Int32} (h : a ≠ i) : (hI σ i k v).1 a = σ.1 a := va_up_ne _ _ h
theorem i32_nlt {x : Int32} (h : ¬ x < 0) : 0 ≤ x := Int32.not_lt.mp h
end
section
def va_AOA (ty : FieldType) (U : State) : Prop := (Cond.arrayOver (.array ty)).before #[] U = true
theorem va_AOA.use {ty : FieldType} {A : Array Value} {U : State} (h : va_AOA ty U) : (Cond.arrayOver (.array ty)).before A U = true := h
/-! worlds that grow: constructors -/
abbrev GQ : Type := Program × Launch × Env × Room × State × MethodId × Array Value × List Frame × Method × Code × (State → Prop) × va_G × (Nat → Prop) × Heap × Nat
def GW (Γ : GQ) (pc : Nat) (vs : List (Option Value)) (st : List Value) (ws : va_W) (ts : List (ClassId × FieldType)) (kc ks : Nat) : Prop := match Γ with
  | (p, l, e, R, s, m, args, below, meth, c, Q, D, A, H0, nL) => ∀ (H : Heap) (locs : List Loc) (ls : Array Slot), va_K D vwCl ts s → va_P D vwCl ws H → va_D A ws → va_S A H0 H locs → LV ls nL vs → W p l e R s m args below meth c H locs kc ks Q (F0 m pc ls st)
def CG (Γ : GQ) (cc : ByteArray) (own : String) (l0 : Launch) (D0 : va_G) (fr lo mc ms nL0 : Nat) : Prop := match Γ with
  | (p, l, e, R, s, m, args, below, meth, c, Q, D, A, H0, nL) => CallFix p m c cc nL s args gw_tbl own ∧ EN s ∧ (∀ q, H0.size ≤ q → A q) ∧ l = l0 ∧ D = D0 ∧ fr ≤ R.frames ∧ lo ≤ R.locals ∧ mc ≤ R.cells ∧ ms ≤ R.slots ∧ nL = nL0
def GIn (Γ : GQ) : Prop := match Γ with
  | (p, l, e, R, s, m, args, below, meth, c, Q, D, A, H0, nL) => meth.name = "<init>"
section GWR
variable {Γ : GQ} {cc : ByteArray} {own : String} {l0 : Launch} {D0 : va_G} {fr lo mc ms nL0 : Nat} {pc : Nat} {vs : List (Option Value)} {st : List Value} {ws : va_W} {ts : List (ClassId × FieldType)} {kc ks : Nat}
theorem g_iconst (C : CG Γ cc own l0 D0 fr lo mc ms nL0) {n : Int} {v : Int32} (hd : decode cc pc = .ok (.iconst n, 1)) (hv : Int32.ofInt n = v) (k : GW Γ (pc + 1) vs (.int v :: st) ws ts kc ks) : GW Γ pc vs st ws ts kc ks := by
  obtain ⟨p, l, e, R, s, m, args, below, meth, c, Q, D, A, H0, nL⟩ := Γ
  obtain ⟨⟨hx, hb, hml, hown, hts⟩, hE, hA0, rfl, rfl, hfr, hlo, hmc, hms, rfl⟩ := C
  intro H locs ls hK hP hD hS hl
  exact lv_iconst hx hb hd hv (k H locs ls hK hP hD hS hl)
theorem g_bipush (C : CG Γ cc own l0 D0 fr lo mc ms nL0) {n : Int} {v : Int32} (hd : decode cc pc = .ok (.bipush n, 2)) (hv : (Int8.ofInt n).toInt32 = v) (k : GW Γ (pc + 2) vs (.int v :: st) ws ts kc ks) : GW Γ pc vs st ws ts kc ks := by
  obtain ⟨p, l, e, R, s, m, args, below, meth, c, Q, D, A, H0, nL⟩ := Γ
  obtain ⟨⟨hx, hb, hml, hown, hts⟩, hE, hA0, rfl, rfl, hfr, hlo, hmc, hms, rfl⟩ := C
  intro H locs ls hK hP hD hS hl
  exact lv_bipush hx hb hd hv (k H locs ls hK hP hD hS hl)
theorem g_sipush (C : CG Γ cc own l0 D0 fr lo mc ms nL0) {n : Int} {v : Int32} (hd : decode cc pc = .ok (.sipush n, 3)) (hv : (Int16.ofInt n).toInt32 = v) (k : GW Γ (pc + 3) vs (.int v :: st) ws ts kc ks) : GW Γ pc vs st ws ts kc ks := by
  obtain ⟨p, l, e, R, s, m, args, below, meth, c, Q, D, A, H0, nL⟩ := Γ
  obtain ⟨⟨hx, hb, hml, hown, hts⟩, hE, hA0, rfl, rfl, hfr, hlo, hmc, hms, rfl⟩ := C
  intro H locs ls hK hP hD hS hl
  exact lv_sipush hx hb hd hv (k H locs ls hK hP hD hS hl)
theorem g_lconst (C : CG Γ cc own l0 D0 fr lo mc ms nL0) {n : Fin 2} {v : Int64} (hd : decode cc pc = .ok (.lconst n, 1)) (hv : Int64.ofNat (n : Nat) = v) (k : GW Γ (pc + 1) vs (.long v :: st) ws ts kc ks) : GW Γ pc vs st ws ts kc ks := by
  obtain ⟨p, l, e, R, s, m, args, below, meth, c, Q, D, A, H0, nL⟩ := Γ
  obtain ⟨⟨hx, hb, hml, hown, hts⟩, hE, hA0, rfl, rfl, hfr, hlo, hmc, hms, rfl⟩ := C
  intro H locs ls hK hP hD hS hl
  exact lv_lconst hx hb hd hv (k H locs ls hK hP hD hS hl)
theorem g_iload_n (C : CG Γ cc own l0 D0 fr lo mc ms nL0) {q : Fin 4} {i : Nat} {x : Int32} (hd : decode cc pc = .ok (.iload_n q, 1)) (hi : (q : Nat) = i) (hv : vs[i]? = some (some (.int x))) (k : GW Γ (pc + 1) vs (.int x :: st) ws ts kc ks) : GW Γ pc vs st ws ts kc ks := by
  obtain ⟨p, l, e, R, s, m, args, below, meth, c, Q, D, A, H0, nL⟩ := Γ
  obtain ⟨⟨hx, hb, hml, hown, hts⟩, hE, hA0, rfl, rfl, hfr, hlo, hmc, hms, rfl⟩ := C
  intro H locs ls hK hP hD hS hl
  exact lv_iload_n hx hb hd hi (hl.2.2 _ _ hv) (k H locs ls hK hP hD hS hl)
theorem g_iload (C : CG Γ cc own l0 D0 fr lo mc ms nL0) {i : Nat} {x : Int32} (hd : decode cc pc = .ok (.iload i, 2)) (hv : vs[i]? = some (some (.int x))) (k : GW Γ (pc + 2) vs (.int x :: st) ws ts kc ks) : GW Γ pc vs st ws ts kc ks := by
  obtain ⟨p, l, e, R, s, m, args, below, meth, c, Q, D, A, H0, nL⟩ := Γ
  obtain ⟨⟨hx, hb, hml, hown, hts⟩, hE, hA0, rfl, rfl, hfr, hlo, hmc, hms, rfl⟩ := C
  intro H locs ls hK hP hD hS hl
  exact lv_iload hx hb hd (hl.2.2 _ _ hv) (k H locs ls hK hP hD hS hl)
theorem g_aload_n (C : CG Γ cc own l0 D0 fr lo mc ms nL0) {q : Fin 4} {i : Nat} {x : Nat} (hd : decode cc pc = .ok (.aload_n q, 1)) (hi : (q : Nat) = i) (hv : vs[i]? = some (some (.ref x))) (k : GW Γ (pc + 1) vs (.ref x :: st) ws ts kc ks) : GW Γ pc vs st ws ts kc ks := by
  obtain ⟨p, l, e, R, s, m, args, below, meth, c, Q, D, A, H0, nL⟩ := Γ
  obtain ⟨⟨hx, hb, hml, hown, hts⟩, hE, hA0, rfl, rfl, hfr, hlo, hmc, hms, rfl⟩ := C
  intro H locs ls hK hP hD hS hl
  exact lv_aload_n hx hb hd hi (hl.2.2 _ _ hv) (k H locs ls hK hP hD hS hl)
theorem g_aload (C : CG Γ cc own l0 D0 fr lo mc ms nL0) {i : Nat} {x : Nat} (hd : decode cc pc = .ok (.aload i, 2)) (hv : vs[i]? = some (some (.ref x))) (k : GW Γ (pc + 2) vs (.ref x :: st) ws ts kc ks) : GW Γ pc vs st ws ts kc ks := by
  obtain ⟨p, l, e, R, s, m, args, below, meth, c, Q, D, A, H0, nL⟩ := Γ
  obtain ⟨⟨hx, hb, hml, hown, hts⟩, hE, hA0, rfl, rfl, hfr, hlo, hmc, hms, rfl⟩ := C
  intro H locs ls hK hP hD hS hl
  exact lv_aload hx hb hd (hl.2.2 _ _ hv) (k H locs ls hK hP hD hS hl)
theorem g_istore_n (C : CG Γ cc own l0 D0 fr lo mc ms nL0) {q : Fin 4} {i : Nat} {x : Int32} (hd : decode cc pc = .ok (.istore_n q, 1)) (hi : (q : Nat) = i) (hn : i < nL0) (hc : catOk vs i = true) {vs1 : List (Option Value)} (hvs : vs.set i (some (.int x)) = vs1) (k : GW Γ (pc + 1) vs1 st ws ts kc ks) : GW Γ pc vs (.int x :: st) ws ts kc ks := by
  obtain ⟨p, l, e, R, s, m, args, below, meth, c, Q, D, A, H0, nL⟩ := Γ
  obtain ⟨⟨hx, hb, hml, hown, hts⟩, hE, hA0, rfl, rfl, hfr, hlo, hmc, hms, rfl⟩ := C
  intro H locs ls hK hP hD hS hl
  subst hvs
  exact lv_istore_n hx hb hd hi hl.has hn rfl (fun ls1 h1 => k H locs ls1 hK hP hD hS (LV.store1 hc h1))
theorem g_istore (C : CG Γ cc own l0 D0 fr lo mc ms nL0) {i : Nat} {x : Int32} (hd : decode cc pc = .ok (.istore i, 2)) (hn : i < nL0) (hc : catOk vs i = true) {vs1 : List (Option Value)} (hvs : vs.set i (some (.int x)) = vs1) (k : GW Γ (pc + 2) vs1 st ws ts kc ks) : GW Γ pc vs (.int x :: st) ws ts kc ks := by
  obtain ⟨p, l, e, R, s, m, args, below, meth, c, Q, D, A, H0, nL⟩ := Γ
  obtain ⟨⟨hx, hb, hml, hown, hts⟩, hE, hA0, rfl, rfl, hfr, hlo, hmc, hms, rfl⟩ := C
  intro H locs ls hK hP hD hS hl
  subst hvs
  exact lv_istore hx hb hd hl.has hn rfl (fun ls1 h1 => k H locs ls1 hK hP hD hS (LV.store1 hc h1))
theorem g_iinc (C : CG Γ cc own l0 D0 fr lo mc ms nL0) {i : Nat} {n : Int} {x v : Int32} (hd : decode cc pc = .ok (.iinc i n, 3)) (hv : vs[i]? = some (some (.int x))) (he : x + Int32.ofInt n = v) (hn : i < nL0) (hc : catOk vs i = true) {vs1 : List (Option Value)} (hvs : vs.set i (some (.int v)) = vs1) (k : GW Γ (pc + 3) vs1 st ws ts kc ks) : GW Γ pc vs st ws ts kc ks := by
  obtain ⟨p, l, e, R, s, m, args, below, meth, c, Q, D, A, H0, nL⟩ := Γ
  obtain ⟨⟨hx, hb, hml, hown, hts⟩, hE, hA0, rfl, rfl, hfr, hlo, hmc, hms, rfl⟩ := C
  intro H locs ls hK hP hD hS hl
  subst hvs
  have hm : (i, Value.int x) ∈ lvL vs := lvL_mem.mpr hv
  obtain ⟨j, hj⟩ := List.mem_iff_getElem?.mp hm
  exact lv_iinc hx hb hd hl.has hj he hn rfl (fun ls1 h1 => k H locs ls1 hK hP hD hS (LV.store1 hc h1))
theorem g_iadd (C : CG Γ cc own l0 D0 fr lo mc ms nL0) {x y : Int32} (hd : decode cc pc = .ok (.iadd, 1)) (k : GW Γ (pc + 1) vs (.int (x + y) :: st) ws ts kc ks) : GW Γ pc vs (.int y :: .int x :: st) ws ts kc ks := by
  obtain ⟨p, l, e, R, s, m, args, below, meth, c, Q, D, A, H0, nL⟩ := Γ
  obtain ⟨⟨hx, hb, hml, hown, hts⟩, hE, hA0, rfl, rfl, hfr, hlo, hmc, hms, rfl⟩ := C
  intro H locs ls hK hP hD hS hl
  exact lv_iadd hx hb hd (k H locs ls hK hP hD hS hl)
theorem g_isub (C : CG Γ cc own l0 D0 fr lo mc ms nL0) {x y : Int32} (hd : decode cc pc = .ok (.isub, 1)) (k : GW Γ (pc + 1) vs (.int (x - y) :: st) ws ts kc ks) : GW Γ pc vs (.int y :: .int x :: st) ws ts kc ks := by
  obtain ⟨p, l, e, R, s, m, args, below, meth, c, Q, D, A, H0, nL⟩ := Γ
  obtain ⟨⟨hx, hb, hml, hown, hts⟩, hE, hA0, rfl, rfl, hfr, hlo, hmc, hms, rfl⟩ := C
  intro H locs ls hK hP hD hS hl
  exact lv_isub hx hb hd (k H locs ls hK hP hD hS hl)
theorem g_imul (C : CG Γ cc own l0 D0 fr lo mc ms nL0) {x y : Int32} (hd : decode cc pc = .ok (.imul, 1)) (k : GW Γ (pc + 1) vs (.int (x * y) :: st) ws ts kc ks) : GW Γ pc vs (.int y :: .int x :: st) ws ts kc ks := by
  obtain ⟨p, l, e, R, s, m, args, below, meth, c, Q, D, A, H0, nL⟩ := Γ
  obtain ⟨⟨hx, hb, hml, hown, hts⟩, hE, hA0, rfl, rfl, hfr, hlo, hmc, hms, rfl⟩ := C
  intro H locs ls hK hP hD hS hl
  exact lv_imul hx hb hd (k H locs ls hK hP hD hS hl)
theorem g_dup (C : CG Γ cc own l0 D0 fr lo mc ms nL0) {v : Value} (hd : decode cc pc = .ok (.dup, 1)) (hv : v.category = 1) (k : GW Γ (pc + 1) vs (v :: v :: st) ws ts kc ks) : GW Γ pc vs (v :: st) ws ts kc ks := by
  obtain ⟨p, l, e, R, s, m, args, below, meth, c, Q, D, A, H0, nL⟩ := Γ
  obtain ⟨⟨hx, hb, hml, hown, hts⟩, hE, hA0, rfl, rfl, hfr, hlo, hmc, hms, rfl⟩ := C
  intro H locs ls hK hP hD hS hl
  exact lv_dup hx hb hd hv (k H locs ls hK hP hD hS hl)
theorem g_goto (C : CG Γ cc own l0 D0 fr lo mc ms nL0) {off : Int} {tgt : Nat} (hd : decode cc pc = .ok (.goto off, 3)) (ht : (pc : Int) + off = (tgt : Int)) (k : GW Γ tgt vs st ws ts kc ks) : GW Γ pc vs st ws ts kc ks := by
  obtain ⟨p, l, e, R, s, m, args, below, meth, c, Q, D, A, H0, nL⟩ := Γ
  obtain ⟨⟨hx, hb, hml, hown, hts⟩, hE, hA0, rfl, rfl, hfr, hlo, hmc, hms, rfl⟩ := C
  intro H locs ls hK hP hD hS hl
  exact lv_goto hx hb hd ht (k H locs ls hK hP hD hS hl)
theorem g_if_ne (C : CG Γ cc own l0 D0 fr lo mc ms nL0) {x : Int32} {off : Int} {tgt : Nat} (hd : decode cc pc = .ok (.ifCond .ne off, 3)) (ht : (pc : Int) + off = (tgt : Int)) (kt : ¬ x = 0 → GW Γ tgt vs st ws ts kc ks) (kf : x = 0 → GW Γ (pc + 3) vs st ws ts kc ks) : GW Γ pc vs (.int x :: st) ws ts kc ks := by
  obtain ⟨p, l, e, R, s, m, args, below, meth, c, Q, D, A, H0, nL⟩ := Γ
  obtain ⟨⟨hx, hb, hml, hown, hts⟩, hE, hA0, rfl, rfl, hfr, hlo, hmc, hms, rfl⟩ := C
  intro H locs ls hK hP hD hS hl
  exact lv_if_ne hx hb hd ht (fun h => kt h H locs ls hK hP hD hS hl) (fun h => kf h H locs ls hK hP hD hS hl)
theorem g_if_eq (C : CG Γ cc own l0 D0 fr lo mc ms nL0) {x : Int32} {off : Int} {tgt : Nat} (hd : decode cc pc = .ok (.ifCond .eq off, 3)) (ht : (pc : Int) + off = (tgt : Int)) (kt : x = 0 → GW Γ tgt vs st ws ts kc ks) (kf : ¬ x = 0 → GW Γ (pc + 3) vs st ws ts kc ks) : GW Γ pc vs (.int x :: st) ws ts kc ks := by
  obtain ⟨p, l, e, R, s, m, args, below, meth, c, Q, D, A, H0, nL⟩ := Γ
  obtain ⟨⟨hx, hb, hml, hown, hts⟩, hE, hA0, rfl, rfl, hfr, hlo, hmc, hms, rfl⟩ := C
  intro H locs ls hK hP hD hS hl
  exact lv_if_eq hx hb hd ht (fun h => kt h H locs ls hK hP hD hS hl) (fun h => kf h H locs ls hK hP hD hS hl)
theorem g_if_lt (C : CG Γ cc own l0 D0 fr lo mc ms nL0) {x : Int32} {off : Int} {tgt : Nat} (hd : decode cc pc = .ok (.ifCond .lt off, 3)) (ht : (pc : Int) + off = (tgt : Int)) (kt : x < 0 → GW Γ tgt vs st ws ts kc ks) (kf : ¬ x < 0 → GW Γ (pc + 3) vs st ws ts kc ks) : GW Γ pc vs (.int x :: st) ws ts kc ks := by
  obtain ⟨p, l, e, R, s, m, args, below, meth, c, Q, D, A, H0, nL⟩ := Γ
  obtain ⟨⟨hx, hb, hml, hown, hts⟩, hE, hA0, rfl, rfl, hfr, hlo, hmc, hms, rfl⟩ := C
  intro H locs ls hK hP hD hS hl
  exact lv_if_lt hx hb hd ht (fun h => kt h H locs ls hK hP hD hS hl) (fun h => kf h H locs ls hK hP hD hS hl)
theorem g_ic_ge (C : CG Γ cc own l0 D0 fr lo mc ms nL0) {x y : Int32} {off : Int} {tgt : Nat} (hd : decode cc pc = .ok (.if_icmp .ge off, 3)) (ht : (pc : Int) + off = (tgt : Int)) (kt : y ≤ x → GW Γ tgt vs st ws ts kc ks) (kf : ¬ y ≤ x → GW Γ (pc + 3) vs st ws ts kc ks) : GW Γ pc vs (.int y :: .int x :: st) ws ts kc ks := by
  obtain ⟨p, l, e, R, s, m, args, below, meth, c, Q, D, A, H0, nL⟩ := Γ
  obtain ⟨⟨hx, hb, hml, hown, hts⟩, hE, hA0, rfl, rfl, hfr, hlo, hmc, hms, rfl⟩ := C
  intro H locs ls hK hP hD hS hl
  exact lv_icmp_ge hx hb hd ht (fun h => kt h H locs ls hK hP hD hS hl) (fun h => kf h H locs ls hK hP hD hS hl)
theorem g_ic_ne (C : CG Γ cc own l0 D0 fr lo mc ms nL0) {x y : Int32} {off : Int} {tgt : Nat} (hd : decode cc pc = .ok (.if_icmp .ne off, 3)) (ht : (pc : Int) + off = (tgt : Int)) (kt : ¬ x = y → GW Γ tgt vs st ws ts kc ks) (kf : x = y → GW Γ (pc + 3) vs st ws ts kc ks) : GW Γ pc vs (.int y :: .int x :: st) ws ts kc ks := by
  obtain ⟨p, l, e, R, s, m, args, below, meth, c, Q, D, A, H0, nL⟩ := Γ
  obtain ⟨⟨hx, hb, hml, hown, hts⟩, hE, hA0, rfl, rfl, hfr, hlo, hmc, hms, rfl⟩ := C
  intro H locs ls hK hP hD hS hl
  exact lv_icmp_ne hx hb hd ht (fun h => kt h H locs ls hK hP hD hS hl) (fun h => kf h H locs ls hK hP hD hS hl)
theorem g_ic_gt (C : CG Γ cc own l0 D0 fr lo mc ms nL0) {x y : Int32} {off : Int} {tgt : Nat} (hd : decode cc pc = .ok (.if_icmp .gt off, 3)) (ht : (pc : Int) + off = (tgt : Int)) (kt : y < x → GW Γ tgt vs st ws ts kc ks) (kf : ¬ y < x → GW Γ (pc + 3) vs st ws ts kc ks) : GW Γ pc vs (.int y :: .int x :: st) ws ts kc ks := by
  obtain ⟨p, l, e, R, s, m, args, below, meth, c, Q, D, A, H0, nL⟩ := Γ
  obtain ⟨⟨hx, hb, hml, hown, hts⟩, hE, hA0, rfl, rfl, hfr, hlo, hmc, hms, rfl⟩ := C
  intro H locs ls hK hP hD hS hl
  exact lv_icmp_gt hx hb hd ht (fun h => kt h H locs ls hK hP hD hS hl) (fun h => kf h H locs ls hK hP hD hS hl)
theorem g_ic_eq (C : CG Γ cc own l0 D0 fr lo mc ms nL0) {x y : Int32} {off : Int} {tgt : Nat} (hd : decode cc pc = .ok (.if_icmp .eq off, 3)) (ht : (pc : Int) + off = (tgt : Int)) (kt : x = y → GW Γ tgt vs st ws ts kc ks) (kf : ¬ x = y → GW Γ (pc + 3) vs st ws ts kc ks) : GW Γ pc vs (.int y :: .int x :: st) ws ts kc ks := by
  obtain ⟨p, l, e, R, s, m, args, below, meth, c, Q, D, A, H0, nL⟩ := Γ
  obtain ⟨⟨hx, hb, hml, hown, hts⟩, hE, hA0, rfl, rfl, hfr, hlo, hmc, hms, rfl⟩ := C
  intro H locs ls hK hP hD hS hl
  exact lv_icmp_eq hx hb hd ht (fun h => kt h H locs ls hK hP hD hS hl) (fun h => kf h H locs ls hK hP hD hS hl)
theorem g_ldc2 (C : CG Γ cc own l0 D0 fr lo mc ms nL0) {ix : Nat} {v : Int64} (hd : decode cc pc = .ok (.ldc2_w ix, 3)) (hw : Cond.constantLong own ix v ∈ gw_tbl) (k : GW Γ (pc + 3) vs (.long v :: st) ws ts kc ks) : GW Γ pc vs st ws ts kc ks := by
  obtain ⟨p, l, e, R, s, m, args, below, meth, c, Q, D, A, H0, nL⟩ := Γ
  obtain ⟨⟨hx, hb, hml, hown, hts⟩, hE, hA0, rfl, rfl, hfr, hlo, hmc, hms, rfl⟩ := C
  intro H locs ls hK hP hD hS hl
  exact lv_ldc2 hx hb hown (hts _ hw) hd (k H locs ls hK hP hD hS hl)
theorem g_lmul (C : CG Γ cc own l0 D0 fr lo mc ms nL0) {x y : Int64} (hd : decode cc pc = .ok (.lmul, 1)) (k : GW Γ (pc + 1) vs (.long (x * y) :: st) ws ts kc ks) : GW Γ pc vs (.long y :: .long x :: st) ws ts kc ks := by
  obtain ⟨p, l, e, R, s, m, args, below, meth, c, Q, D, A, H0, nL⟩ := Γ
  obtain ⟨⟨hx, hb, hml, hown, hts⟩, hE, hA0, rfl, rfl, hfr, hlo, hmc, hms, rfl⟩ := C
  intro H locs ls hK hP hD hS hl
  exact lv_lmul hx hb hd (k H locs ls hK hP hD hS hl)
theorem g_ladd (C : CG Γ cc own l0 D0 fr lo mc ms nL0) {x y : Int64} (hd : decode cc pc = .ok (.ladd, 1)) (k : GW Γ (pc + 1) vs (.long (x + y) :: st) ws ts kc ks) : GW Γ pc vs (.long y :: .long x :: st) ws ts kc ks := by
  obtain ⟨p, l, e, R, s, m, args, below, meth, c, Q, D, A, H0, nL⟩ := Γ
  obtain ⟨⟨hx, hb, hml, hown, hts⟩, hE, hA0, rfl, rfl, hfr, hlo, hmc, hms, rfl⟩ := C
  intro H locs ls hK hP hD hS hl
  exact lv_ladd hx hb hd (k H locs ls hK hP hD hS hl)
theorem g_i2l (C : CG Γ cc own l0 D0 fr lo mc ms nL0) {x : Int32} (hd : decode cc pc = .ok (.i2l, 1)) (k : GW Γ (pc + 1) vs (.long (x.toInt64) :: st) ws ts kc ks) : GW Γ pc vs (.int x :: st) ws ts kc ks := by
  obtain ⟨p, l, e, R, s, m, args, below, meth, c, Q, D, A, H0, nL⟩ := Γ
  obtain ⟨⟨hx, hb, hml, hown, hts⟩, hE, hA0, rfl, rfl, hfr, hlo, hmc, hms, rfl⟩ := C
  intro H locs ls hK hP hD hS hl
  exact lv_i2l hx hb hd rfl (k H locs ls hK hP hD hS hl)
theorem g_lload_n (C : CG Γ cc own l0 D0 fr lo mc ms nL0) {q : Fin 4} {i : Nat} {x : Int64} (hd : decode cc pc = .ok (.lload_n q, 1)) (hi : (q : Nat) = i) (hv : vs[i]? = some (some (.long x))) (k : GW Γ (pc + 1) vs (.long x :: st) ws ts kc ks) : GW Γ pc vs st ws ts kc ks := by
  obtain ⟨p, l, e, R, s, m, args, below, meth, c, Q, D, A, H0, nL⟩ := Γ
  obtain ⟨⟨hx, hb, hml, hown, hts⟩, hE, hA0, rfl, rfl, hfr, hlo, hmc, hms, rfl⟩ := C
  intro H locs ls hK hP hD hS hl
  exact lv_lload_n hx hb hd hi (hl.2.2 _ _ hv) (k H locs ls hK hP hD hS hl)
theorem g_objInit (C : CG Γ cc own l0 D0 fr lo mc ms nL0) {a : Nat} {ix : Nat} (w1 : Cond.methodLink own ix Lib.objectInit ∈ gw_tbl) (w2 : Cond.instanceMethod Lib.objectInit ∈ gw_tbl) (w3 : Cond.code Lib.objectInit ⟨#[0xb1]⟩ 1 none ∈ gw_tbl) (hf : 1 ≤ fr) (hl0 : (st.map fun v => v.category).sum + 12 ≤ lo) (hd : decode cc pc = .ok (.invokespecial ix, 3)) (k : GW Γ (pc + 3) vs st ws ts kc ks) : GW Γ pc vs (.ref a :: st) ws ts kc ks := by
  obtain ⟨p, l, e, R, s, m, args, below, meth, c, Q, D, A, H0, nL⟩ := Γ
  obtain ⟨⟨hx, hb, hml, hown, hts⟩, hE, hA0, rfl, rfl, hfr, hlo, hmc, hms, rfl⟩ := C
  intro H locs ls hK hP hD hS hl
  refine W.objInit hx hb hown (hts _ w1) (hts _ w2) (hts _ w3) rfl (hl.1.trans hml.symm) rfl hd (Nat.le_trans hf hfr) ?_ (k H locs ls hK hP hD hS hl)
  show 2 * (F0 m pc ls (.ref a :: st)).monitorRoom + (st.map fun v => v.category).sum + 12 ≤ R.locals
  have : 2 * (F0 m pc ls (.ref a :: st)).monitorRoom = 0 := rfl
  omega
theorem g_newa (C : CG Γ cc own l0 D0 fr lo mc ms nL0) {atype : ArrayType} {ty : FieldType} {n : Int32} (N : Nat) (a0 : vp_A) (hw : Cond.arrayClass (newarray.typeOf atype) ∈ gw_tbl) (hty : newarray.typeOf atype = ty) (ha : ∀ cA : ClassId, vp_cell cA a0 = arrV cA N (fun _ => defaultValue ty)) (hn : ¬ n < 0) (hN : n.toNatClampNeg = N) (hby : N * componentBytes ty ≤ 536870912) (h1 : kc + 1 ≤ mc) (h2 : ks + N ≤ ms) (hd : decode cc pc = .ok (.newarray atype, 2)) (k : ∀ (q : Nat) (cA : ClassId), GW Γ (pc + 2) vs (.ref q :: st) (ws ++ [(q, .inl (cA, a0))]) (ts ++ [(cA, ty)]) (kc + 1) (ks + N)) : GW Γ pc vs (.int n :: st) ws ts kc ks := by
  obtain ⟨p, l, e, R, s, m, args, below, meth, c, Q, D, A, H0, nL⟩ := Γ
  obtain ⟨⟨hx, hb, hml, hown, hts⟩, hE, hA0, rfl, rfl, hfr, hlo, hmc, hms, rfl⟩ := C
  intro H locs ls hK hP hD hS hl
  exact va_newa hx hb (hts _ hw) hty hK hP hD hS hA0 ha hn hN hby (Nat.le_trans h1 hmc) (Nat.le_trans h2 hms) hd (fun q cA H1 hK1 hP1 hD1 hS1 => k q cA H1 locs ls hK1 hP1 hD1 hS1 hl)
/-- a class that can be made: ci of vwCl -/
def NC (own : String) (ix ci N : Nat) (fs : List Value) : Prop := ∃ (Cn : String) (T : u_T) (ty : Nat → FieldType), vwCl[ci]? = some (Cn, T, N) ∧ (∀ w ∈ u_ws Cn T N, w ∈ gw_tbl) ∧ (∀ k, k < N → parseFieldDescriptor (T k).2.2.1 = some (ty k)) ∧ Cond.classLink own ix Cn ∈ gw_tbl ∧ Cond.instantiable Cn N ∈ gw_tbl ∧ Cond.initialized Cn ∈ gw_tbl ∧ (∀ j, j < N → defaultValue (ty j) = vp_V fs j)
theorem g_new (C : CG Γ cc own l0 D0 fr lo mc ms nL0) {ix ci N : Nat} {fs : List Value} (F : NC own ix ci N fs) (h1 : kc + 1 ≤ mc) (h2 : ks + N ≤ ms) (hd : decode cc pc = .ok (.new ix, 3)) (k : ∀ q : Nat, GW Γ (pc + 3) vs (.ref q :: st) (ws ++ [(q, .inr (ci, fs))]) ts (kc + 1) (ks + N)) : GW Γ pc vs st ws ts kc ks := by
  obtain ⟨p, l, e, R, s, m, args, below, meth, c, Q, D, A, H0, nL⟩ := Γ
  obtain ⟨⟨hx, hb, hml, hown, hts⟩, hE, hA0, rfl, rfl, hfr, hlo, hmc, hms, rfl⟩ := C
  intro H locs ls hK hP hD hS hl
  obtain ⟨Cn, T, ty, hc, hin, hty, w1, w2, w3, hfs⟩ := F
  exact va_new hx hb hts hin ty hty hown (hts _ w1) (hts _ w2) (hts _ w3) hK hP hD hS hA0 hc hfs (Nat.le_trans h1 hmc) (Nat.le_trans h2 hms) hd (fun q H1 hP1 hD1 hS1 => k q H1 locs ls hK hP1 hD1 hS1 hl)
/-- a field that is written: final ones in a constructor of the class itself -/
def FW (own : String) (ix n k : Nat) (ty : FieldType) (fin : Bool) : Prop := ∃ (Cn : String) (T : u_T) (N : Nat) (ty0 : Nat → FieldType), (vwCl[n]? = some (Cn, T, N) ∧ k < N ∧ Cond.fieldLink own ix (T k).1 (T k).2.1 (T k).2.2.1 ∈ gw_tbl ∧ (∀ w ∈ u_ws Cn T N, w ∈ gw_tbl)) ∧ (∀ k, k < N → parseFieldDescriptor (T k).2.2.1 = some (ty0 k)) ∧ (∀ a, a < N → ∀ b, b < N → a ≠ b → (T a).2.1 ≠ (T b).2.1) ∧ (T k).2.2.2 = fin ∧ (T k).1 = own ∧ parseFieldDescriptor (T k).2.2.1 = some ty
theorem g_put (C : CG Γ cc own l0 D0 fr lo mc ms nL0) (hI : GIn Γ) {a n q ix q0 : Nat} {ty : FieldType} {fin : Bool} {v : Value} {fs : List Value} {ws1 : va_W} (F : FW own ix n q ty fin) (he : ws[q0]? = some (a, .inr (n, fs))) (hn : narrow ty v = v) (hf : fits ty v = true) (hq : q < fs.length) (hd : decode cc pc = .ok (.putfield ix, 3)) (hw : ws.set q0 (a, .inr (n, fs.set q v)) = ws1) (k : GW Γ (pc + 3) vs st ws1 ts kc ks) : GW Γ pc vs (v :: .ref a :: st) ws ts kc ks := by
  obtain ⟨p, l, e, R, s, m, args, below, meth, c, Q, D, A, H0, nL⟩ := Γ
  obtain ⟨⟨hx, hb, hml, hown, hts⟩, hE, hA0, rfl, rfl, hfr, hlo, hmc, hms, rfl⟩ := C
  intro H locs ls hK hP hD hS hl
  obtain ⟨Cn, T, N, ty0, ⟨hc, hk, w1, hin⟩, hty, hnm, hfin, hown2, hdd⟩ := F
  subst hw
  cases fin with
  | false => exact va_put hx hb hts hin ty0 hty hnm hown hK hP hD hS q0 he hc q hk (hts _ w1) (fun _ h => h) hfin hdd hn hf hq hd (fun H1 locs1 hP1 hD1 hS1 => k H1 locs1 ls hK hP1 hD1 hS1 hl)
  | true => exact va_putF hx hb hts hin ty0 hty hnm hown hK hP hD hS q0 he hc q hk (hts _ w1) (fun _ h => h) hfin hI hown2 hdd hn hf hq hd (fun H1 locs1 hP1 hD1 hS1 => k H1 locs1 ls hK hP1 hD1 hS1 hl)
theorem g_get (C : CG Γ cc own l0 D0 fr lo mc ms nL0) {a n q ix q0 : Nat} {v : Value} {fs : List Value} (F : FL own ix n q) (he : ws[q0]? = some (a, .inr (n, fs))) (hv : fs[q]? = some v) (hd : decode cc pc = .ok (.getfield ix, 3)) (k : GW Γ (pc + 3) vs (v :: st) ws ts kc ks) : GW Γ pc vs (.ref a :: st) ws ts kc ks := by
  obtain ⟨p, l, e, R, s, m, args, below, meth, c, Q, D, A, H0, nL⟩ := Γ
  obtain ⟨⟨hx, hb, hml, hown, hts⟩, hE, hA0, rfl, rfl, hfr, hlo, hmc, hms, rfl⟩ := C
  intro H locs ls hK hP hD hS hl
  obtain ⟨Cn, T, N, hc, hk, h12, w1, hin⟩ := F
  exact va_get hx hb hts hin hown hK hP q0 he hc q hk (hts _ w1) (fun _ h => h) hv hd (k H locs ls hK hP hD hS hl)
theorem g_iast (C : CG Γ cc own l0 D0 fr lo mc ms nL0) {a q0 t0 n : Nat} {cA : ClassId} {f : Nat → Int32} {j x : Int32} {ws1 : va_W} (jn : Nat) (he : ws[q0]? = some (a, .inl (cA, n, .inl f))) (ht : ts[t0]? = some (cA, .int)) (h0 : ¬ j < 0) (hj : j.toNatClampNeg = jn) (hn : jn < n) (hd : decode cc pc = .ok (.iastore, 1)) (hw : ws.set q0 (a, .inl (cA, n, .inl (upd f jn x))) = ws1) (k : GW Γ (pc + 1) vs st ws1 ts kc ks) : GW Γ pc vs (.int x :: .int j :: .ref a :: st) ws ts kc ks := by
  obtain ⟨p, l, e, R, s, m, args, below, meth, c, Q, D, A, H0, nL⟩ := Γ
  obtain ⟨⟨hx, hb, hml, hown, hts⟩, hE, hA0, rfl, rfl, hfr, hlo, hmc, hms, rfl⟩ := C
  intro H locs ls hK hP hD hS hl
  subst hj hw
  exact va_iast hx hb hK hP hD hS q0 t0 he ht (fun h => h.elim h0 (fun h => absurd h (by omega))) hd (fun H1 locs1 hP1 hD1 hS1 => k H1 locs1 ls hK hP1 hD1 hS1 hl)
theorem g_alen (C : CG Γ cc own l0 D0 fr lo mc ms nL0) {a q0 t0 : Nat} {cA : ClassId} {x : vp_A} {ty : FieldType} {v : Int32} (he : ws[q0]? = some (a, .inl (cA, x))) (ht : ts[t0]? = some (cA, ty)) (hv : Int32.ofNat x.1 = v) (hd : decode cc pc = .ok (.arraylength, 1)) (k : GW Γ (pc + 1) vs (.int v :: st) ws ts kc ks) : GW Γ pc vs (.ref a :: st) ws ts kc ks := by
  obtain ⟨p, l, e, R, s, m, args, below, meth, c, Q, D, A, H0, nL⟩ := Γ
  obtain ⟨⟨hx, hb, hml, hown, hts⟩, hE, hA0, rfl, rfl, hfr, hlo, hmc, hms, rfl⟩ := C
  intro H locs ls hK hP hD hS hl
  exact va_alen hx hb hK hP q0 t0 he ht hv hd (k H locs ls hK hP hD hS hl)
theorem g_newq (C : CG Γ cc own l0 D0 fr lo mc ms nL0) {Cn : String} {ix : Nat} {n : Int32} (N : Nat) (w1 : Cond.classLink own ix Cn ∈ gw_tbl) (hov : match Γ with | (p, l, e, R, s, m, args, below, meth, c, Q, D, A, H0, nL) => va_AO Cn s) (hn : ¬ n < 0) (hN : n.toNatClampNeg = N) (hby : N * 4 ≤ 536870912) (h1 : kc + 1 ≤ mc) (h2 : ks + N ≤ ms) (hd : decode cc pc = .ok (.anewarray ix, 3)) (k : ∀ (q : Nat) (cA : ClassId), GW Γ (pc + 3) vs (.ref q :: st) (ws ++ [(q, .inl (cA, N, .inr (.inr (.inr (.inr (fun _ => none))))))]) (ts ++ [(cA, .object Cn)]) (kc + 1) (ks + N)) : GW Γ pc vs (.int n :: st) ws ts kc ks := by
  obtain ⟨p, l, e, R, s, m, args, below, meth, c, Q, D, A, H0, nL⟩ := Γ
  obtain ⟨⟨hx, hb, hml, hown, hts⟩, hE, hA0, rfl, rfl, hfr, hlo, hmc, hms, rfl⟩ := C
  intro H locs ls hK hP hD hS hl
  exact va_newq hx hb hown (hts _ w1) hov hK hP hD hS hA0 hn hN hby (Nat.le_trans h1 hmc) (Nat.le_trans h2 hms) hd (fun q cA H1 hK1 hP1 hD1 hS1 => k q cA H1 locs ls hK1 hP1 hD1 hS1 hl)
theorem g_astq (C : CG Γ cc own l0 D0 fr lo mc ms nL0) {a v q0 t0 qk ci n : Nat} {cA : ClassId} {r : vw_C} {fs : List Value} {f : Nat → Option Nat} {j : Int32} {ws1 : va_W} (jn : Nat) (he : ws[q0]? = some (a, .inl (cA, n, .inr (.inr (.inr (.inr f)))))) (ht : ts[t0]? = some (cA, .object r.1)) (hv : ws[qk]? = some (v, .inr (ci, fs))) (hc : vwCl[ci]? = some r) (h0 : ¬ j < 0) (hj : j.toNatClampNeg = jn) (hn : jn < n) (hd : decode cc pc = .ok (.aastore, 1)) (hw : ws.set q0 (a, .inl (cA, n, .inr (.inr (.inr (.inr (va_up f jn (some v))))))) = ws1) (k : GW Γ (pc + 1) vs st ws1 ts kc ks) : GW Γ pc vs (.ref v :: .int j :: .ref a :: st) ws ts kc ks := by
  obtain ⟨p, l, e, R, s, m, args, below, meth, c, Q, D, A, H0, nL⟩ := Γ
  obtain ⟨⟨hx, hb, hml, hown, hts⟩, hE, hA0, rfl, rfl, hfr, hlo, hmc, hms, rfl⟩ := C
  intro H locs ls hK hP hD hS hl
  subst hj hw
  exact va_astq hx hb hK hP hD hS q0 t0 qk ci he ht hv hc (fun h => h.elim h0 (fun h => absurd h (by omega))) hd (fun H1 locs1 hP1 hD1 hS1 => k H1 locs1 ls hK hP1 hD1 hS1 hl)
end GWR
end
section
/-! contracts of constructors: what is made, and where it stands -/
theorem va_AOA.spec {s : State} (h : va_AOA .int s) : ∃ comp c k, s.vm.findClass (FieldType.array .int).toString = some comp ∧ (s.vm.classes.findIdx? fun (x : Class) => match x.kind with | .array component _ => component == comp | _ => false) = some c ∧ s.vm.classes[c]? = some k ∧ k.kind = .array comp (.array .int) ∧ s.vm.findClass ("[" ++ (FieldType.array .int).toString) = some c := by
  unfold va_AOA Cond.before at h
  simp only [Cond.holds, Cond.value, beq_iff_eq] at h
  cases hc : s.vm.findClass (FieldType.array .int).toString with
  | none => simp [hc] at h
  | some comp =>
    simp only [hc, Option.bind_some, Option.bind_eq_some_iff, Option.map_eq_some_iff] at h
    obtain ⟨c, hi, k, hk, hb⟩ := h
    obtain ⟨hlt, hp, -⟩ := Array.findIdx?_eq_some_iff_getElem.mp hi
    have hkk : s.vm.classes[c] = k := (Array.getElem?_eq_some_iff.mp hk).2
    rw [hkk] at hp
    cases hkind : k.kind with
    | array component ty =>
      rw [hkind] at hb hp
      simp at hb hp
      exact ⟨comp, c, k, rfl, hi, hk, by rw [hkind, hp, hb.1], hb.2⟩
    | _ => rw [hkind] at hb; simp at hb
theorem va_AOA.moved {u U : State} (hvm : u.vm.Alike U.vm) (h : va_AOA .int u) : va_AOA .int U := by
  obtain ⟨comp, c, k, h1, h2, h3, h4, h5⟩ := va_AOA.spec h
  obtain ⟨k', hk', he⟩ := hvm.2.2 _ _ h3
  have hi : (U.vm.classes.findIdx? fun (x : Class) => match x.kind with | .array component _ => component == comp | _ => false) = some c := by
    have e1 := va_idx_bare U.vm comp
    have e2 := va_idx_bare u.vm comp
    have e3 : U.vm.bare = u.vm.bare := by first | exact hvm.bare_eq | exact hvm.bare_eq.symm
    rw [e3] at e1
    exact e1.symm.trans (e2.trans h2)
  have hkind : k'.kind = .array comp (.array .int) := by rw [he]; exact h4
  have f1 : U.vm.findClass (FieldType.array .int).toString = some comp := by rw [hvm.findClass]; exact h1
  have f2 : U.vm.findClass ("[" ++ (FieldType.array .int).toString) = some c := by rw [hvm.findClass]; exact h5
  unfold va_AOA Cond.before Cond.holds
  simp only [Cond.value]
  rw [f1, Option.bind_some]
  refine (congrArg (fun o : Option Nat => (o.bind (fun c => (U.vm.classes[c]?).map fun (k : Class) => match k.kind with | .array _ ty => decide (ty = FieldType.array .int) && decide (U.vm.findClass ("[" ++ (FieldType.array .int).toString) = some c) | _ => false) == some true)) hi).trans ?_
  simp [hk', hkind, f2]
/-- the rest of what a constructor needs of the machine -/
def EG (U : State) : Prop := EN U ∧ va_AO RX0 U ∧ va_AOA .int U
theorem EG.warm {s U : State} (hW : s.WarmedH U.vm) (h : EG s) : EG U := ⟨h.1.warm hW, va_AO.moved hW.alike h.2.1, va_AOA.moved hW.alike h.2.2⟩
theorem EG.same {s U : State} (hv : s.vm = U.vm) (h : EG s) : EG U := ⟨h.1.same hv, va_AO.moved (hv ▸ Vm.Alike.refl s.vm) h.2.1, va_AOA.moved (hv ▸ Vm.Alike.refl s.vm) h.2.2⟩
def GE (Γ : GQ) : Prop := match Γ with
  | (p, l, e, R, s, m, args, below, meth, c, Q, D, A, H0, nL) => EG s
def NPre (D : va_G) (ws : va_W) (ts : List (ClassId × FieldType)) (sz : Nat) (V : State) : Prop := V.heap.size = sz ∧ va_P D vwCl ws V.heap ∧ va_K D vwCl ts V ∧ va_D (fun _ => True) ws ∧ EG V
def NAt {S : Type} (D : va_G) (W1 : S → va_W) (T1 : S → List (ClassId × FieldType)) (A : Nat → Prop) (u : S) (t : State) : Prop := va_P D vwCl (W1 u) t.heap ∧ va_K D vwCl (T1 u) t ∧ va_D A (W1 u)
/-- y, called with av in the world ws, makes mc cells of ms places, and leaves a world W1 u -/
def KN {S : Type} (l : Launch) (D : va_G) (y : MethodName) (cc : ByteArray) (nL : Nat) (fr lo mc ms : Nat) (av : List Value) (ws : va_W) (ts : List (ClassId × FieldType)) (W1 : S → va_W) (T1 : S → List (ClassId × FieldType)) (post : S → Prop) : Prop :=
  ∀ sz : Nat, Met l y (.code y cc nL none :: gw_tbl) { frames := fr, cells := mc, slots := ms, locals := lo } (va_Pc av (NPre D ws ts sz)) (va_Qv post (NAt D W1 T1 (va_A ws sz)) (va_A ws sz)) mc ms (va_A ws sz)
def RN {S : Type} (Γ : GQ) (cc : ByteArray) (mc ms : Nat) (W1 : S → va_W) (T1 : S → List (ClassId × FieldType)) (post : S → Prop) : Prop := match Γ with
  | (p, l, e, R, s, m, args, below, meth, c, Q, D, A, H0, nL) => ∀ (u : S) (H : Heap) (locs : List Loc) (ls : Array Slot) (pc : Nat), va_K D vwCl (T1 u) s → va_P D vwCl (W1 u) H → va_D A (W1 u) → va_S A H0 H locs → post u → decode cc pc = .ok (.return_, 1) → W p l e R s m args below meth c H locs mc ms Q (F0 m pc ls [])
theorem KN.of {S : Type} {l : Launch} {D : va_G} {y : MethodName} {cc : ByteArray} {nL fr lo mc ms : Nat} {av : List Value} {ws : va_W} {ts : List (ClassId × FieldType)} {W1 : S → va_W} {T1 : S → List (ClassId × FieldType)} {post : S → Prop} (hy : plainName y.cls = true) (hL : (lg_sl av).length ≤ nL) (z : Nat)
    (body : ∀ Γ : GQ, CG Γ cc y.cls l D fr lo mc ms nL → (y.name = "<init>" → GIn Γ) → GE Γ → RN Γ cc mc ms W1 T1 post → GW Γ 0 (entL av ++ List.replicate z none) [] ws ts 0 0) : KN l D y cc nL fr lo mc ms av ws ts W1 T1 post := by
  intro sz
  refine Met.ofW (cc := cc) (maxL := nL) (ret := none) hy rfl ?_
  intro p e s m args below meth c s₁ B hml hv
  obtain ⟨rfl, hsz, hP, hK, hD0, hE⟩ := hv
  have hts := atoms_spec (ws := (.code y cc nL none :: gw_tbl)) B.pre
  subst hsz
  have hD := hD0.self (sz := s.heap.size)
  rw [lg_entry_eq]
  refine body (p, l, e, { frames := fr, cells := mc, slots := ms, locals := lo }, s, m, av.toArray, below, meth, c, _, D, va_A ws s.heap.size, s.heap, nL) ⟨⟨B.exec, B.bytes, hml, findClass_of_methodNamed B.named, fun w h => hts w (List.mem_cons_of_mem _ h)⟩, hE.1, fun q h => Or.inr h, rfl, rfl, Nat.le_refl _, Nat.le_refl _, Nat.le_refl _, Nat.le_refl _, rfl⟩ (fun hn => (name_of_methodNamed B.named B.method).1.trans hn) hE ?_ s.heap [] _ hK hP hD va_S.rf (LV.entry av hL z)
  intro u H locs ls pc hK' hP' hD' hS hp hd
  exact W.vret B.exec B.bytes B.returns (fun t ht hW => ⟨⟨u, rfl, hp, by rw [ht]; exact hP', va_K.moved hW.alike hK', hD'⟩, hS.F ht⟩) hS.2.2 hd B.notSynchronized
theorem join_app {A0 : Nat → Prop} {D : va_G} {cl : List vw_C} {X wc w1 : va_W} {H H1 : Heap} (hP : va_P D cl (X ++ wc) H) (hD : va_D A0 (X ++ wc)) (hk : ∀ q : Nat, q < H.size → ¬ va_A wc H.size q → H1[q]? = H[q]?) (hF : ∀ q, va_A wc H.size q → A0 q) (hP1 : va_P D cl w1 H1) (hD1 : va_D (va_A wc H.size) w1) : va_P D cl (X ++ w1) H1 ∧ va_D A0 (X ++ w1) := by
  have hl : ∀ (k : Nat) (q : Nat × va_E), X[k]? = some q → (X ++ wc)[k]? = some q := fun k q h => by
    rw [List.getElem?_append_left (List.getElem?_eq_some_iff.mp h).1]
    exact h
  have apart : ∀ (k : Nat) (q : Nat × va_E), X[k]? = some q → q.1 < H.size ∧ ¬ va_A wc H.size q.1 := by
    intro k q hq
    have hlt := (hP k q (hl k q hq)).lt
    refine ⟨hlt, fun h => ?_⟩
    rcases h with ⟨j, e, hj⟩ | h
    · have h2 : (X ++ wc)[X.length + j]? = some (q.1, e) := by
        rw [List.getElem?_append_right (by omega), show X.length + j - X.length = j by omega]
        exact hj
      have := hD.1 k (X.length + j) q (q.1, e) (hl k q hq) h2 rfl
      have := (List.getElem?_eq_some_iff.mp hq).1
      omega
    · omega
  have hPX : va_P D cl X H := fun k q h => hP k q (hl k q h)
  refine ⟨(hPX.kept (fun k x hx => hk x.1 (apart k x hx).1 (apart k x hx).2)).app hP1, va_D.app ⟨fun i j p q hp hq e => hD.1 i j p q (hl i p hp) (hl j q hq) e, fun k q h => hD.2 k q (hl k q h)⟩ (hD1.weaken (fun _ q _ h => hF q.1 h)) ?_⟩
  intro i j p q hp hq e
  have := apart i p hp
  rw [e] at this
  exact this.2 (hD1.2 j q hq)
theorem NPre.blind {D : va_G} {av : List Value} {ws : va_W} {ts : List (ClassId × FieldType)} {sz : Nat} : FrameBlind (va_Pc av (NPre D ws ts sz)) := fun a U g mk q => by
  obtain ⟨q0, q1, qP, qK, qD, qE⟩ := q
  exact ⟨q0, q1, qP, va_K.moved (u := U) (U := U.calling g mk a) (Vm.Alike.refl U.vm) qK, qD, EG.same (s := U) (U := U.calling g mk a) rfl qE⟩
section KNR
variable {Γ : GQ} {cc : ByteArray} {own : String} {l0 : Launch} {D0 : va_G} {fr lo mc ms nL0 : Nat} {pc : Nat} {vs : List (Option Value)} {st : List Value} {ws : va_W} {ts : List (ClassId × FieldType)} {kc ks : Nat}
theorem g_vret {S : Type} {W1 : S → va_W} {T1 : S → List (ClassId × FieldType)} {post : S → Prop} (Rt : RN Γ cc mc ms W1 T1 post) (u : S) (hd : decode cc pc = .ok (.return_, 1)) (h1 : kc ≤ mc) (h2 : ks ≤ ms) (hw : ws = W1 u) (ht : ts = T1 u) (hp : post u) : GW Γ pc vs [] ws ts kc ks := by
  obtain ⟨p, l, e, R, s, m, args, below, meth, c, Q, D, A, H0, nL⟩ := Γ
  intro H locs ls hK hP hD hS hl
  subst hw ht
  exact W.widen h1 h2 (Rt u H locs ls pc hK hP hD hS hp hd)
theorem g_eq {ws1 : va_W} {ts1 : List (ClassId × FieldType)} {kc1 ks1 : Nat} (hw : ws = ws1) (ht : ts = ts1) (hk : kc = kc1) (hs : ks = ks1) (k : GW Γ pc vs st ws1 ts1 kc1 ks1) : GW Γ pc vs st ws ts kc ks := by
  subst hw ht hk hs
  exact k
/-- fewer cells, another order: what is told of the world may be told again otherwise -/
theorem g_by {ws1 : va_W} {ts1 : List (ClassId × FieldType)} (hP1 : ∀ (D : va_G) (H : Heap), va_P D vwCl ws H → va_P D vwCl ws1 H) (hD1 : ∀ A : Nat → Prop, va_D A ws → va_D A ws1) (hK1 : ∀ (D : va_G) (s : State), va_K D vwCl ts s → va_K D vwCl ts1 s) (k : GW Γ pc vs st ws1 ts1 kc ks) : GW Γ pc vs st ws ts kc ks := by
  obtain ⟨p, l, e, R, s, m, args, below, meth, c, Q, D, A, H0, nL⟩ := Γ
  intro H locs ls hK hP hD hS hl
  exact k H locs ls (hK1 _ _ hK) (hP1 _ _ hP) (hD1 _ hD) hS hl
/-- the words of a constructor -/
def MN (y : MethodName) (cc : ByteArray) (nL : Nat) (n : Nat) : Prop := Cond.instanceMethod y ∈ gw_tbl ∧ Cond.initialized y.cls ∈ gw_tbl ∧ Cond.code y cc nL none ∈ gw_tbl ∧ y.name = "<init>" ∧ (y.cls ≠ "java/lang/invoke/MethodHandle" ∧ y.cls ≠ "java/lang/invoke/VarHandle" ∧ (parseMethodDescriptor y.desc).map (fun d => d.parameters.length) = some n)
theorem fr_app {A : Nat → Prop} {X wc : va_W} {H0 H : Heap} {locs : List Loc} (hD : va_D A (X ++ wc)) (hS : va_S A H0 H locs) (hA : ∀ q, H0.size ≤ q → A q) : ∀ q, va_A wc H.size q → A q := fun q h => by
  rcases h with ⟨k, e, h⟩ | h
  · refine hD.2 (X.length + k) (q, e) ?_
    rw [List.getElem?_append_right (by omega), show X.length + k - X.length = k by omega]
    exact h
  · exact hA q (Nat.le_trans hS.1 h)
theorem va_K.appL {D : va_G} {t1 t2 : List (ClassId × FieldType)} {U : State} (h : va_K D vwCl (t1 ++ t2) U) : va_K D vwCl t1 U := ⟨h.1, fun k q hk => h.2 k q (by rw [List.getElem?_append_left (List.getElem?_eq_some_iff.mp hk).1]; exact hk)⟩
theorem va_K.nil {D : va_G} {t1 : List (ClassId × FieldType)} {U : State} (h : va_K D vwCl t1 U) : va_K D vwCl [] U := ⟨h.1, fun k q hk => by simp at hk⟩
theorem g_initN (C : CG Γ cc own l0 D0 fr lo mc ms nL0) (hG : GE Γ) {S : Type} {y : MethodName} {cc' : ByteArray} {nL' fr' lo' mc' ms' ix a : Nat} {host : String} {e0 : va_E} {X : va_W} {W1 : S → va_W} {T1 : S → List (ClassId × FieldType)} {post : S → Prop} (hM : KN l0 D0 y cc' nL' fr' lo' mc' ms' [.ref a] [(a, e0)] [] W1 T1 post) (hw : MN y cc' nL' 0) (hnl : (own, ix, y, host) ∈ nestL) (hws : ws = X ++ [(a, e0)]) (hf1 : fr' + 1 ≤ fr) (hl1 : 8 + (nL' + 11) + lo' ≤ lo) (h1 : kc + mc' ≤ mc) (h2 : ks + ms' ≤ ms) (hcat : (st.map fun v => v.category).sum ≤ 8) (hd : decode cc pc = .ok (.invokespecial ix, 3)) (k : ∀ u : S, post u → GW Γ (pc + 3) vs st (X ++ W1 u) (ts ++ T1 u) (kc + mc') (ks + ms')) : GW Γ pc vs (.ref a :: st) ws ts kc ks := by
  obtain ⟨p, l, e, R, s, m, args, below, meth, c, Q, D, A, H0, nL⟩ := Γ
  obtain ⟨⟨hx, hb, hml, hown, hts⟩, hE, hA0, rfl, rfl, hfr, hlo, hmc, hms, rfl⟩ := C
  intro H locs ls hK hP hD hS hl
  have hG : EG s := hG
  obtain ⟨w1, w3, w4, w5, w6⟩ := hw
  subst hws
  have hFc := fr_app hD hS hA0
  have hPc : va_P D vwCl [(a, e0)] H := fun k q h => hP (X.length + k) q (by rw [List.getElem?_append_right (by omega), show X.length + k - X.length = k by omega]; exact h)
  have hDc : va_D A [(a, e0)] := ⟨fun i j p q hp hq _ => by
    have h3 := (List.getElem?_eq_some_iff.mp hp).1
    have h4 := (List.getElem?_eq_some_iff.mp hq).1
    simp at h3 h4
    omega, fun k q h => hD.2 (X.length + k) q (by rw [List.getElem?_append_right (by omega), show X.length + k - X.length = k by omega]; exact h)⟩
  refine va_callv (va_runIN (As := []) (rest := st) ⟨hx, hb, hml, hown, hts⟩ (hM H.size) ⟨va_cnB 0 hts (lw_goodIn (fun w h => (List.mem_cons.mp h).elim (fun e => e ▸ w4) id)) rfl rfl rfl (hE _ hnl) (hts _ w3) w6 ⟨Nat.le_trans hf1 hfr, Nat.le_trans hl1 hlo⟩, w5, hts _ w1⟩ ⟨NPre.blind, fun U hU hW => ⟨rfl, by rw [hU], by rw [hU]; exact hPc, va_K.moved hW.alike hK.nil, hDc.weaken (fun _ _ _ _ => trivial), EG.warm hW hG⟩⟩ rfl rfl hl.1 rfl (lv_room hcat) hd ⟨Nat.le_trans h1 hmc, Nat.le_trans h2 hms⟩) hS (fun q _ h => hFc q h) hFc (fun u t H1 locs1 ht hvm hw hB hz1 hk1 hS1 => ?_)
  obtain ⟨hP1, hK1, hD1⟩ := hB
  rw [ht] at hP1
  have hK1 := va_K.moved hvm.symm hK1
  obtain ⟨hP2, hD2⟩ := join_app hP hD hk1 hFc hP1 hD1
  exact k u hw H1 locs1 ls (hK.app hK1) hP2 hD2 hS1 hl
theorem g_initI (C : CG Γ cc own l0 D0 fr lo mc ms nL0) (hG : GE Γ) {S : Type} {y : MethodName} {cc' : ByteArray} {nL' fr' lo' mc' ms' ix a : Nat} {host : String} {e0 : va_E} {X : va_W} {W1 : S → va_W} {T1 : S → List (ClassId × FieldType)} {post : S → Prop} (hM : KN l0 D0 y cc' nL' fr' lo' mc' ms' [.ref a] [(a, e0)] [] W1 T1 post) (hw : MN y cc' nL' 0) (hml2 : Cond.methodLink own ix y ∈ gw_tbl) (hws : ws = X ++ [(a, e0)]) (hf1 : fr' + 1 ≤ fr) (hl1 : 8 + (nL' + 11) + lo' ≤ lo) (h1 : kc + mc' ≤ mc) (h2 : ks + ms' ≤ ms) (hcat : (st.map fun v => v.category).sum ≤ 8) (hd : decode cc pc = .ok (.invokespecial ix, 3)) (k : ∀ u : S, post u → GW Γ (pc + 3) vs st (X ++ W1 u) (ts ++ T1 u) (kc + mc') (ks + ms')) : GW Γ pc vs (.ref a :: st) ws ts kc ks := by
  obtain ⟨p, l, e, R, s, m, args, below, meth, c, Q, D, A, H0, nL⟩ := Γ
  obtain ⟨⟨hx, hb, hml, hown, hts⟩, hE, hA0, rfl, rfl, hfr, hlo, hmc, hms, rfl⟩ := C
  intro H locs ls hK hP hD hS hl
  have hG : EG s := hG
  obtain ⟨w1, w3, w4, w5, w6⟩ := hw
  subst hws
  have hFc := fr_app hD hS hA0
  have hPc : va_P D vwCl [(a, e0)] H := fun k q h => hP (X.length + k) q (by rw [List.getElem?_append_right (by omega), show X.length + k - X.length = k by omega]; exact h)
  have hDc : va_D A [(a, e0)] := ⟨fun i j p q hp hq _ => by
    have h3 := (List.getElem?_eq_some_iff.mp hp).1
    have h4 := (List.getElem?_eq_some_iff.mp hq).1
    simp at h3 h4
    omega, fun k q h => hD.2 (X.length + k) q (by rw [List.getElem?_append_right (by omega), show X.length + k - X.length = k by omega]; exact h)⟩
  refine va_callv (va_runI (As := []) (rest := st) ⟨hx, hb, hml, hown, hts⟩ (hM H.size) (cwI 0 hts (lw_goodIn (fun w h => (List.mem_cons.mp h).elim (fun e => e ▸ w4) id)) rfl rfl rfl (hts _ w3) (hts _ hml2) (hts _ w1) w5 w6 ⟨Nat.le_trans hf1 hfr, Nat.le_trans hl1 hlo⟩) ⟨NPre.blind, fun U hU hW => ⟨rfl, by rw [hU], by rw [hU]; exact hPc, va_K.moved hW.alike hK.nil, hDc.weaken (fun _ _ _ _ => trivial), EG.warm hW hG⟩⟩ rfl rfl hl.1 rfl (lv_room hcat) hd ⟨Nat.le_trans h1 hmc, Nat.le_trans h2 hms⟩) hS (fun q _ h => hFc q h) hFc (fun u t H1 locs1 ht hvm hw hB hz1 hk1 hS1 => ?_)
  obtain ⟨hP1, hK1, hD1⟩ := hB
  rw [ht] at hP1
  have hK1 := va_K.moved hvm.symm hK1
  obtain ⟨hP2, hD2⟩ := join_app hP hD hk1 hFc hP1 hD1
  exact k u hw H1 locs1 ls (hK.app hK1) hP2 hD2 hS1 hl
/-- a method of an object whose whole world is the caller's -/
theorem g_callV (C : CG Γ cc own l0 D0 fr lo mc ms nL0) (hG : GE Γ) {S : Type} {y : MethodName} {cc' : ByteArray} {nL' fr' lo' n ix a ci q0 : Nat} {fs : List Value} {q : vw_C} {As st0 : List Value} {W1 : S → va_W} {post : S → Prop} (hM : KN l0 D0 y cc' nL' fr' lo' 0 0 (.ref a :: As) ws ts W1 (fun _ => ts) post) (hw : MI y cc' nL' none n) (hlink : Cond.methodLink own ix y ∈ gw_tbl) (he : ws[q0]? = some (a, .inr (ci, fs))) (hc : vwCl[ci]? = some q) (hq : q.1 = y.cls) (hst : st0 = As.reverse ++ .ref a :: st) (hn : As.length = n) (hf1 : fr' + 1 ≤ fr) (hl1 : 8 + (nL' + 11) + lo' ≤ lo) (h1 : kc ≤ mc) (h2 : ks ≤ ms) (hcat : (st.map fun v => v.category).sum ≤ 8) (hd : decode cc pc = .ok (.invokevirtual ix, 3)) (k : ∀ u : S, post u → GW Γ (pc + 3) vs st (W1 u) ts kc ks) : GW Γ pc vs st0 ws ts kc ks := by
  obtain ⟨p, l, e, R, s, m, args, below, meth, c, Q, D, A, H0, nL⟩ := Γ
  obtain ⟨⟨hx, hb, hml, hown, hts⟩, hE, hA0, rfl, rfl, hfr, hlo, hmc, hms, rfl⟩ := C
  intro H locs ls hK hP hD hS hl
  have hG : EG s := hG
  obtain ⟨w1, w2, w3, w4, w5, w6, w7⟩ := hw
  subst hst
  have hGd : GoodIn gw_tbl (wsV own ix y.cls y (.code y cc' nL' none :: gw_tbl)) := lw_goodIn (fun w h => by
    simp only [wsV, List.cons_append, List.nil_append, List.mem_cons] at h
    rcases h with rfl | rfl | rfl | rfl | rfl | h
    · exact hlink
    · exact w1
    · exact w2
    · exact w3
    · exact w4
    · exact h)
  have hFc : ∀ q, va_A ws H.size q → A q := fun q h => by
    rcases h with ⟨k, e, h⟩ | h
    · exact hD.2 k (q, e) h
    · exact hA0 q (Nat.le_trans hS.1 h)
  have hrv := va_recv hK hP hc he
  rw [hq] at hrv
  refine va_callv (va_runV (As := As) (rest := st) ⟨hx, hb, hml, hown, hts⟩ (hM H.size) (cwV n hts hGd rfl rfl rfl ⟨rfl, w5, w6, w7⟩ ⟨Nat.le_trans hf1 hfr, Nat.le_trans hl1 hlo⟩) ⟨NPre.blind, hrv, fun U hU hW => ⟨rfl, by rw [hU], by rw [hU]; exact hP, va_K.moved hW.alike hK, hD.weaken (fun _ _ _ _ => trivial), EG.warm hW hG⟩⟩ rfl hn hl.1 rfl (lv_room hcat) hd ⟨Nat.le_trans h1 hmc, Nat.le_trans h2 hms⟩) hS (fun q _ h => hFc q h) hFc (fun u t H1 locs1 ht hvm hw hB hz1 hk1 hS1 => ?_)
  obtain ⟨hP1, hK1, hD1⟩ := hB
  rw [ht] at hP1
  exact k u hw H1 locs1 ls hK hP1 (hD1.weaken (fun _ q _ h => hFc q.1 h)) hS1 hl
end KNR
end

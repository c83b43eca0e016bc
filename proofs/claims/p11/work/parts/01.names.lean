-- ===== PART A: goes FIRST, ahead of the names: the tables' words, and 'selects' of the private methods out of them =====
/-- a private method of a class that the tables say can be made, by its rows of tables_1 -/
def lw_okq (q : MethodName × Nat) : Prop := (q.1.cls ≠ "java/lang/invoke/MethodHandle" ∧ q.1.cls ≠ "java/lang/invoke/VarHandle") ∧ Cond.instantiable q.1.cls q.2 ∈ tables_1 ∧ Cond.privateMethod q.1 ∈ tables_1 ∧ Cond.instanceMethod q.1 ∈ tables_1
theorem lw_p0 : lw_okq (⟨"StateJuggler$Tape", "cutOne", "(I)I"⟩, 6) := ⟨⟨by decide +kernel, by decide +kernel⟩, List.mem_of_getElem? (i := 38) (by decide +kernel), List.mem_of_getElem? (i := 440) (by decide +kernel), List.mem_of_getElem? (i := 441) (by decide +kernel)⟩
theorem lw_p1 : lw_okq (⟨"StateJuggler$Tape", "cutWord", "(I)I"⟩, 6) := ⟨⟨by decide +kernel, by decide +kernel⟩, List.mem_of_getElem? (i := 38) (by decide +kernel), List.mem_of_getElem? (i := 447) (by decide +kernel), List.mem_of_getElem? (i := 448) (by decide +kernel)⟩
theorem lw_p2 : lw_okq (⟨"StateJuggler$Tape", "wordAt", "(II)I"⟩, 6) := ⟨⟨by decide +kernel, by decide +kernel⟩, List.mem_of_getElem? (i := 38) (by decide +kernel), List.mem_of_getElem? (i := 452) (by decide +kernel), List.mem_of_getElem? (i := 453) (by decide +kernel)⟩
theorem lw_p3 : lw_okq (⟨"StateJuggler$Tape", "cutInt", "(I)I"⟩, 6) := ⟨⟨by decide +kernel, by decide +kernel⟩, List.mem_of_getElem? (i := 38) (by decide +kernel), List.mem_of_getElem? (i := 508) (by decide +kernel), List.mem_of_getElem? (i := 509) (by decide +kernel)⟩
theorem lw_p4 : lw_okq (⟨"StateJuggler$Reader", "telling", "(LStateJuggler$Text;)Z"⟩, 10) := ⟨⟨by decide +kernel, by decide +kernel⟩, List.mem_of_getElem? (i := 32) (by decide +kernel), List.mem_of_getElem? (i := 573) (by decide +kernel), List.mem_of_getElem? (i := 574) (by decide +kernel)⟩
theorem lw_p5 : lw_okq (⟨"StateJuggler$Reader", "tellingThing", "(LStateJuggler$Text;)Z"⟩, 10) := ⟨⟨by decide +kernel, by decide +kernel⟩, List.mem_of_getElem? (i := 32) (by decide +kernel), List.mem_of_getElem? (i := 577) (by decide +kernel), List.mem_of_getElem? (i := 578) (by decide +kernel)⟩
theorem lw_p6 : lw_okq (⟨"StateJuggler$Reader", "refuse", "(I)Z"⟩, 10) := ⟨⟨by decide +kernel, by decide +kernel⟩, List.mem_of_getElem? (i := 32) (by decide +kernel), List.mem_of_getElem? (i := 581) (by decide +kernel), List.mem_of_getElem? (i := 582) (by decide +kernel)⟩
theorem lw_p7 : lw_okq (⟨"StateJuggler$Reader", "take", "(I)Z"⟩, 10) := ⟨⟨by decide +kernel, by decide +kernel⟩, List.mem_of_getElem? (i := 32) (by decide +kernel), List.mem_of_getElem? (i := 585) (by decide +kernel), List.mem_of_getElem? (i := 586) (by decide +kernel)⟩
theorem lw_p8 : lw_okq (⟨"StateJuggler$Reader", "takeName", "()Z"⟩, 10) := ⟨⟨by decide +kernel, by decide +kernel⟩, List.mem_of_getElem? (i := 32) (by decide +kernel), List.mem_of_getElem? (i := 589) (by decide +kernel), List.mem_of_getElem? (i := 590) (by decide +kernel)⟩
theorem lw_p9 : lw_okq (⟨"StateJuggler$Reader", "noteLater", "(I)V"⟩, 10) := ⟨⟨by decide +kernel, by decide +kernel⟩, List.mem_of_getElem? (i := 32) (by decide +kernel), List.mem_of_getElem? (i := 593) (by decide +kernel), List.mem_of_getElem? (i := 594) (by decide +kernel)⟩
theorem lw_p10 : lw_okq (⟨"StateJuggler$Reader", "takeNumber", "(II)Z"⟩, 10) := ⟨⟨by decide +kernel, by decide +kernel⟩, List.mem_of_getElem? (i := 32) (by decide +kernel), List.mem_of_getElem? (i := 597) (by decide +kernel), List.mem_of_getElem? (i := 598) (by decide +kernel)⟩
theorem lw_p11 : lw_okq (⟨"StateJuggler$Reader", "tellingPattern", "(LStateJuggler$Text;)Z"⟩, 10) := ⟨⟨by decide +kernel, by decide +kernel⟩, List.mem_of_getElem? (i := 32) (by decide +kernel), List.mem_of_getElem? (i := 601) (by decide +kernel), List.mem_of_getElem? (i := 602) (by decide +kernel)⟩
theorem lw_p12 : lw_okq (⟨"StateJuggler$Reader", "tellingLaw", "(LStateJuggler$Text;I)Z"⟩, 10) := ⟨⟨by decide +kernel, by decide +kernel⟩, List.mem_of_getElem? (i := 32) (by decide +kernel), List.mem_of_getElem? (i := 605) (by decide +kernel), List.mem_of_getElem? (i := 606) (by decide +kernel)⟩
theorem lw_p13 : lw_okq (⟨"StateJuggler$Reader", "condition", "(LStateJuggler$Text;)Z"⟩, 10) := ⟨⟨by decide +kernel, by decide +kernel⟩, List.mem_of_getElem? (i := 32) (by decide +kernel), List.mem_of_getElem? (i := 609) (by decide +kernel), List.mem_of_getElem? (i := 610) (by decide +kernel)⟩
theorem lw_p14 : lw_okq (⟨"StateJuggler$Reader", "expression", "(LStateJuggler$Text;I)Z"⟩, 10) := ⟨⟨by decide +kernel, by decide +kernel⟩, List.mem_of_getElem? (i := 32) (by decide +kernel), List.mem_of_getElem? (i := 613) (by decide +kernel), List.mem_of_getElem? (i := 614) (by decide +kernel)⟩
theorem lw_p15 : lw_okq (⟨"StateJuggler$Reader", "product", "(LStateJuggler$Text;I)Z"⟩, 10) := ⟨⟨by decide +kernel, by decide +kernel⟩, List.mem_of_getElem? (i := 32) (by decide +kernel), List.mem_of_getElem? (i := 617) (by decide +kernel), List.mem_of_getElem? (i := 618) (by decide +kernel)⟩
def lw_privs_1 : List (MethodName × Nat) := [(⟨"StateJuggler$Tape", "cutOne", "(I)I"⟩, 6), (⟨"StateJuggler$Tape", "cutWord", "(I)I"⟩, 6), (⟨"StateJuggler$Tape", "wordAt", "(II)I"⟩, 6), (⟨"StateJuggler$Tape", "cutInt", "(I)I"⟩, 6), (⟨"StateJuggler$Reader", "telling", "(LStateJuggler$Text;)Z"⟩, 10), (⟨"StateJuggler$Reader", "tellingThing", "(LStateJuggler$Text;)Z"⟩, 10), (⟨"StateJuggler$Reader", "refuse", "(I)Z"⟩, 10), (⟨"StateJuggler$Reader", "take", "(I)Z"⟩, 10), (⟨"StateJuggler$Reader", "takeName", "()Z"⟩, 10), (⟨"StateJuggler$Reader", "noteLater", "(I)V"⟩, 10), (⟨"StateJuggler$Reader", "takeNumber", "(II)Z"⟩, 10), (⟨"StateJuggler$Reader", "tellingPattern", "(LStateJuggler$Text;)Z"⟩, 10), (⟨"StateJuggler$Reader", "tellingLaw", "(LStateJuggler$Text;I)Z"⟩, 10), (⟨"StateJuggler$Reader", "condition", "(LStateJuggler$Text;)Z"⟩, 10), (⟨"StateJuggler$Reader", "expression", "(LStateJuggler$Text;I)Z"⟩, 10), (⟨"StateJuggler$Reader", "product", "(LStateJuggler$Text;I)Z"⟩, 10)]
theorem lw_r1 : ∀ q ∈ lw_privs_1, lw_okq q := List.forall_mem_cons.mpr ⟨lw_p0, List.forall_mem_cons.mpr ⟨lw_p1, List.forall_mem_cons.mpr ⟨lw_p2, List.forall_mem_cons.mpr ⟨lw_p3, List.forall_mem_cons.mpr ⟨lw_p4, List.forall_mem_cons.mpr ⟨lw_p5, List.forall_mem_cons.mpr ⟨lw_p6, List.forall_mem_cons.mpr ⟨lw_p7, List.forall_mem_cons.mpr ⟨lw_p8, List.forall_mem_cons.mpr ⟨lw_p9, List.forall_mem_cons.mpr ⟨lw_p10, List.forall_mem_cons.mpr ⟨lw_p11, List.forall_mem_cons.mpr ⟨lw_p12, List.forall_mem_cons.mpr ⟨lw_p13, List.forall_mem_cons.mpr ⟨lw_p14, List.forall_mem_cons.mpr ⟨lw_p15, fun _ h => absurd h List.not_mem_nil⟩⟩⟩⟩⟩⟩⟩⟩⟩⟩⟩⟩⟩⟩⟩⟩
theorem lw_p16 : lw_okq (⟨"StateJuggler$Reader", "unit", "(LStateJuggler$Text;I)Z"⟩, 10) := ⟨⟨by decide +kernel, by decide +kernel⟩, List.mem_of_getElem? (i := 32) (by decide +kernel), List.mem_of_getElem? (i := 621) (by decide +kernel), List.mem_of_getElem? (i := 622) (by decide +kernel)⟩
theorem lw_p17 : lw_okq (⟨"StateJuggler", "beginAnew", "()V"⟩, 15) := ⟨⟨by decide +kernel, by decide +kernel⟩, List.mem_of_getElem? (i := 24) (by decide +kernel), List.mem_of_getElem? (i := 626) (by decide +kernel), List.mem_of_getElem? (i := 627) (by decide +kernel)⟩
theorem lw_p18 : lw_okq (⟨"StateJuggler$Asked", "push", "(I)V"⟩, 4) := ⟨⟨by decide +kernel, by decide +kernel⟩, List.mem_of_getElem? (i := 108) (by decide +kernel), List.mem_of_getElem? (i := 702) (by decide +kernel), List.mem_of_getElem? (i := 703) (by decide +kernel)⟩
theorem lw_p19 : lw_okq (⟨"StateJuggler$Asked", "pop", "()I"⟩, 4) := ⟨⟨by decide +kernel, by decide +kernel⟩, List.mem_of_getElem? (i := 108) (by decide +kernel), List.mem_of_getElem? (i := 706) (by decide +kernel), List.mem_of_getElem? (i := 707) (by decide +kernel)⟩
theorem lw_p20 : lw_okq (⟨"StateJuggler$Asked", "reckon", "(III)I"⟩, 4) := ⟨⟨by decide +kernel, by decide +kernel⟩, List.mem_of_getElem? (i := 108) (by decide +kernel), List.mem_of_getElem? (i := 710) (by decide +kernel), List.mem_of_getElem? (i := 711) (by decide +kernel)⟩
theorem lw_p21 : lw_okq (⟨"StateJuggler", "slotsHeld", "()I"⟩, 15) := ⟨⟨by decide +kernel, by decide +kernel⟩, List.mem_of_getElem? (i := 24) (by decide +kernel), List.mem_of_getElem? (i := 729) (by decide +kernel), List.mem_of_getElem? (i := 730) (by decide +kernel)⟩
theorem lw_p22 : lw_okq (⟨"StateJuggler", "weightsOf", "(I)I"⟩, 15) := ⟨⟨by decide +kernel, by decide +kernel⟩, List.mem_of_getElem? (i := 24) (by decide +kernel), List.mem_of_getElem? (i := 733) (by decide +kernel), List.mem_of_getElem? (i := 734) (by decide +kernel)⟩
theorem lw_p23 : lw_okq (⟨"StateJuggler$Juggler", "oneBeat", "(LStateJuggler$Text;LStateJuggler$Air;I)V"⟩, 1) := ⟨⟨by decide +kernel, by decide +kernel⟩, List.mem_of_getElem? (i := 102) (by decide +kernel), List.mem_of_getElem? (i := 774) (by decide +kernel), List.mem_of_getElem? (i := 775) (by decide +kernel)⟩
theorem lw_p24 : lw_okq (⟨"StateJuggler$Juggler", "catchOne", "(LStateJuggler$Text;LStateJuggler$Air;II)V"⟩, 1) := ⟨⟨by decide +kernel, by decide +kernel⟩, List.mem_of_getElem? (i := 102) (by decide +kernel), List.mem_of_getElem? (i := 793) (by decide +kernel), List.mem_of_getElem? (i := 794) (by decide +kernel)⟩
theorem lw_p25 : lw_okq (⟨"StateJuggler$Rows", "fill", "(III)V"⟩, 5) := ⟨⟨by decide +kernel, by decide +kernel⟩, List.mem_of_getElem? (i := 258) (by decide +kernel), List.mem_of_getElem? (i := 882) (by decide +kernel), List.mem_of_getElem? (i := 883) (by decide +kernel)⟩
theorem lw_p26 : lw_okq (⟨"StateJuggler$Rows", "finish", "()V"⟩, 5) := ⟨⟨by decide +kernel, by decide +kernel⟩, List.mem_of_getElem? (i := 258) (by decide +kernel), List.mem_of_getElem? (i := 886) (by decide +kernel), List.mem_of_getElem? (i := 887) (by decide +kernel)⟩
theorem lw_p27 : lw_okq (⟨"StateJuggler", "findHands", "(I)V"⟩, 15) := ⟨⟨by decide +kernel, by decide +kernel⟩, List.mem_of_getElem? (i := 24) (by decide +kernel), List.mem_of_getElem? (i := 904) (by decide +kernel), List.mem_of_getElem? (i := 905) (by decide +kernel)⟩
theorem lw_p28 : lw_okq (⟨"StateJuggler", "firstClash", "(I)I"⟩, 15) := ⟨⟨by decide +kernel, by decide +kernel⟩, List.mem_of_getElem? (i := 24) (by decide +kernel), List.mem_of_getElem? (i := 917) (by decide +kernel), List.mem_of_getElem? (i := 918) (by decide +kernel)⟩
theorem lw_p29 : lw_okq (⟨"StateJuggler$Route", "meet", "(III)V"⟩, 6) := ⟨⟨by decide +kernel, by decide +kernel⟩, List.mem_of_getElem? (i := 231) (by decide +kernel), List.mem_of_getElem? (i := 952) (by decide +kernel), List.mem_of_getElem? (i := 953) (by decide +kernel)⟩
theorem lw_p30 : lw_okq (⟨"StateJuggler$Route", "goOnFrom", "(I)V"⟩, 6) := ⟨⟨by decide +kernel, by decide +kernel⟩, List.mem_of_getElem? (i := 231) (by decide +kernel), List.mem_of_getElem? (i := 956) (by decide +kernel), List.mem_of_getElem? (i := 957) (by decide +kernel)⟩
theorem lw_p31 : lw_okq (⟨"StateJugglerModel", "plain", "(I)V"⟩, 66) := ⟨⟨by decide +kernel, by decide +kernel⟩, List.mem_of_getElem? (i := 1036) (by decide +kernel), List.mem_of_getElem? (i := 1042) (by decide +kernel), List.mem_of_getElem? (i := 1043) (by decide +kernel)⟩
def lw_privs_2 : List (MethodName × Nat) := [(⟨"StateJuggler$Reader", "unit", "(LStateJuggler$Text;I)Z"⟩, 10), (⟨"StateJuggler", "beginAnew", "()V"⟩, 15), (⟨"StateJuggler$Asked", "push", "(I)V"⟩, 4), (⟨"StateJuggler$Asked", "pop", "()I"⟩, 4), (⟨"StateJuggler$Asked", "reckon", "(III)I"⟩, 4), (⟨"StateJuggler", "slotsHeld", "()I"⟩, 15), (⟨"StateJuggler", "weightsOf", "(I)I"⟩, 15), (⟨"StateJuggler$Juggler", "oneBeat", "(LStateJuggler$Text;LStateJuggler$Air;I)V"⟩, 1), (⟨"StateJuggler$Juggler", "catchOne", "(LStateJuggler$Text;LStateJuggler$Air;II)V"⟩, 1), (⟨"StateJuggler$Rows", "fill", "(III)V"⟩, 5), (⟨"StateJuggler$Rows", "finish", "()V"⟩, 5), (⟨"StateJuggler", "findHands", "(I)V"⟩, 15), (⟨"StateJuggler", "firstClash", "(I)I"⟩, 15), (⟨"StateJuggler$Route", "meet", "(III)V"⟩, 6), (⟨"StateJuggler$Route", "goOnFrom", "(I)V"⟩, 6), (⟨"StateJugglerModel", "plain", "(I)V"⟩, 66)]
theorem lw_r2 : ∀ q ∈ lw_privs_2, lw_okq q := List.forall_mem_cons.mpr ⟨lw_p16, List.forall_mem_cons.mpr ⟨lw_p17, List.forall_mem_cons.mpr ⟨lw_p18, List.forall_mem_cons.mpr ⟨lw_p19, List.forall_mem_cons.mpr ⟨lw_p20, List.forall_mem_cons.mpr ⟨lw_p21, List.forall_mem_cons.mpr ⟨lw_p22, List.forall_mem_cons.mpr ⟨lw_p23, List.forall_mem_cons.mpr ⟨lw_p24, List.forall_mem_cons.mpr ⟨lw_p25, List.forall_mem_cons.mpr ⟨lw_p26, List.forall_mem_cons.mpr ⟨lw_p27, List.forall_mem_cons.mpr ⟨lw_p28, List.forall_mem_cons.mpr ⟨lw_p29, List.forall_mem_cons.mpr ⟨lw_p30, List.forall_mem_cons.mpr ⟨lw_p31, fun _ h => absurd h List.not_mem_nil⟩⟩⟩⟩⟩⟩⟩⟩⟩⟩⟩⟩⟩⟩⟩⟩
theorem lw_p32 : lw_okq (⟨"StateJugglerModel", "begins", "()V"⟩, 66) := ⟨⟨by decide +kernel, by decide +kernel⟩, List.mem_of_getElem? (i := 1036) (by decide +kernel), List.mem_of_getElem? (i := 1053) (by decide +kernel), List.mem_of_getElem? (i := 1054) (by decide +kernel)⟩
theorem lw_p33 : lw_okq (⟨"StateJugglerModel", "keepsRow", "()V"⟩, 66) := ⟨⟨by decide +kernel, by decide +kernel⟩, List.mem_of_getElem? (i := 1036) (by decide +kernel), List.mem_of_getElem? (i := 1057) (by decide +kernel), List.mem_of_getElem? (i := 1058) (by decide +kernel)⟩
theorem lw_p34 : lw_okq (⟨"StateJugglerModel", "put", "(I)V"⟩, 66) := ⟨⟨by decide +kernel, by decide +kernel⟩, List.mem_of_getElem? (i := 1036) (by decide +kernel), List.mem_of_getElem? (i := 1263) (by decide +kernel), List.mem_of_getElem? (i := 1264) (by decide +kernel)⟩
theorem lw_p35 : lw_okq (⟨"StateJugglerModel", "cut", "()V"⟩, 66) := ⟨⟨by decide +kernel, by decide +kernel⟩, List.mem_of_getElem? (i := 1036) (by decide +kernel), List.mem_of_getElem? (i := 1275) (by decide +kernel), List.mem_of_getElem? (i := 1276) (by decide +kernel)⟩
theorem lw_p36 : lw_okq (⟨"StateJugglerModel", "byteAt", "(I)I"⟩, 66) := ⟨⟨by decide +kernel, by decide +kernel⟩, List.mem_of_getElem? (i := 1036) (by decide +kernel), List.mem_of_getElem? (i := 1279) (by decide +kernel), List.mem_of_getElem? (i := 1280) (by decide +kernel)⟩
theorem lw_p37 : lw_okq (⟨"StateJugglerModel", "token", "(IIIJ)V"⟩, 66) := ⟨⟨by decide +kernel, by decide +kernel⟩, List.mem_of_getElem? (i := 1036) (by decide +kernel), List.mem_of_getElem? (i := 1283) (by decide +kernel), List.mem_of_getElem? (i := 1284) (by decide +kernel)⟩
theorem lw_p38 : lw_okq (⟨"StateJugglerModel", "sign", "(III)I"⟩, 66) := ⟨⟨by decide +kernel, by decide +kernel⟩, List.mem_of_getElem? (i := 1036) (by decide +kernel), List.mem_of_getElem? (i := 1293) (by decide +kernel), List.mem_of_getElem? (i := 1294) (by decide +kernel)⟩
theorem lw_p39 : lw_okq (⟨"StateJugglerModel", "is", "(I)Z"⟩, 66) := ⟨⟨by decide +kernel, by decide +kernel⟩, List.mem_of_getElem? (i := 1036) (by decide +kernel), List.mem_of_getElem? (i := 1297) (by decide +kernel), List.mem_of_getElem? (i := 1298) (by decide +kernel)⟩
theorem lw_p40 : lw_okq (⟨"StateJugglerModel", "tellOne", "()V"⟩, 66) := ⟨⟨by decide +kernel, by decide +kernel⟩, List.mem_of_getElem? (i := 1036) (by decide +kernel), List.mem_of_getElem? (i := 1301) (by decide +kernel), List.mem_of_getElem? (i := 1302) (by decide +kernel)⟩
theorem lw_p41 : lw_okq (⟨"StateJugglerModel", "roomFor", "(II)V"⟩, 66) := ⟨⟨by decide +kernel, by decide +kernel⟩, List.mem_of_getElem? (i := 1036) (by decide +kernel), List.mem_of_getElem? (i := 1305) (by decide +kernel), List.mem_of_getElem? (i := 1306) (by decide +kernel)⟩
theorem lw_p42 : lw_okq (⟨"StateJugglerModel", "fail", "(I)V"⟩, 66) := ⟨⟨by decide +kernel, by decide +kernel⟩, List.mem_of_getElem? (i := 1036) (by decide +kernel), List.mem_of_getElem? (i := 1309) (by decide +kernel), List.mem_of_getElem? (i := 1310) (by decide +kernel)⟩
theorem lw_p43 : lw_okq (⟨"StateJugglerModel", "goesOn", "()V"⟩, 66) := ⟨⟨by decide +kernel, by decide +kernel⟩, List.mem_of_getElem? (i := 1036) (by decide +kernel), List.mem_of_getElem? (i := 1313) (by decide +kernel), List.mem_of_getElem? (i := 1314) (by decide +kernel)⟩
theorem lw_p44 : lw_okq (⟨"StateJugglerModel", "tellThing", "()V"⟩, 66) := ⟨⟨by decide +kernel, by decide +kernel⟩, List.mem_of_getElem? (i := 1036) (by decide +kernel), List.mem_of_getElem? (i := 1317) (by decide +kernel), List.mem_of_getElem? (i := 1318) (by decide +kernel)⟩
theorem lw_p45 : lw_okq (⟨"StateJugglerModel", "named", "()I"⟩, 66) := ⟨⟨by decide +kernel, by decide +kernel⟩, List.mem_of_getElem? (i := 1036) (by decide +kernel), List.mem_of_getElem? (i := 1321) (by decide +kernel), List.mem_of_getElem? (i := 1322) (by decide +kernel)⟩
theorem lw_p46 : lw_okq (⟨"StateJugglerModel", "must", "(I)V"⟩, 66) := ⟨⟨by decide +kernel, by decide +kernel⟩, List.mem_of_getElem? (i := 1036) (by decide +kernel), List.mem_of_getElem? (i := 1325) (by decide +kernel), List.mem_of_getElem? (i := 1326) (by decide +kernel)⟩
theorem lw_p47 : lw_okq (⟨"StateJugglerModel", "wrong", "(II)V"⟩, 66) := ⟨⟨by decide +kernel, by decide +kernel⟩, List.mem_of_getElem? (i := 1036) (by decide +kernel), List.mem_of_getElem? (i := 1329) (by decide +kernel), List.mem_of_getElem? (i := 1330) (by decide +kernel)⟩
def lw_privs_3 : List (MethodName × Nat) := [(⟨"StateJugglerModel", "begins", "()V"⟩, 66), (⟨"StateJugglerModel", "keepsRow", "()V"⟩, 66), (⟨"StateJugglerModel", "put", "(I)V"⟩, 66), (⟨"StateJugglerModel", "cut", "()V"⟩, 66), (⟨"StateJugglerModel", "byteAt", "(I)I"⟩, 66), (⟨"StateJugglerModel", "token", "(IIIJ)V"⟩, 66), (⟨"StateJugglerModel", "sign", "(III)I"⟩, 66), (⟨"StateJugglerModel", "is", "(I)Z"⟩, 66), (⟨"StateJugglerModel", "tellOne", "()V"⟩, 66), (⟨"StateJugglerModel", "roomFor", "(II)V"⟩, 66), (⟨"StateJugglerModel", "fail", "(I)V"⟩, 66), (⟨"StateJugglerModel", "goesOn", "()V"⟩, 66), (⟨"StateJugglerModel", "tellThing", "()V"⟩, 66), (⟨"StateJugglerModel", "named", "()I"⟩, 66), (⟨"StateJugglerModel", "must", "(I)V"⟩, 66), (⟨"StateJugglerModel", "wrong", "(II)V"⟩, 66)]
theorem lw_r3 : ∀ q ∈ lw_privs_3, lw_okq q := List.forall_mem_cons.mpr ⟨lw_p32, List.forall_mem_cons.mpr ⟨lw_p33, List.forall_mem_cons.mpr ⟨lw_p34, List.forall_mem_cons.mpr ⟨lw_p35, List.forall_mem_cons.mpr ⟨lw_p36, List.forall_mem_cons.mpr ⟨lw_p37, List.forall_mem_cons.mpr ⟨lw_p38, List.forall_mem_cons.mpr ⟨lw_p39, List.forall_mem_cons.mpr ⟨lw_p40, List.forall_mem_cons.mpr ⟨lw_p41, List.forall_mem_cons.mpr ⟨lw_p42, List.forall_mem_cons.mpr ⟨lw_p43, List.forall_mem_cons.mpr ⟨lw_p44, List.forall_mem_cons.mpr ⟨lw_p45, List.forall_mem_cons.mpr ⟨lw_p46, List.forall_mem_cons.mpr ⟨lw_p47, fun _ h => absurd h List.not_mem_nil⟩⟩⟩⟩⟩⟩⟩⟩⟩⟩⟩⟩⟩⟩⟩⟩
theorem lw_p48 : lw_okq (⟨"StateJugglerModel", "bounded", "(II)I"⟩, 66) := ⟨⟨by decide +kernel, by decide +kernel⟩, List.mem_of_getElem? (i := 1036) (by decide +kernel), List.mem_of_getElem? (i := 1333) (by decide +kernel), List.mem_of_getElem? (i := 1334) (by decide +kernel)⟩
theorem lw_p49 : lw_okq (⟨"StateJugglerModel", "ends", "(I)V"⟩, 66) := ⟨⟨by decide +kernel, by decide +kernel⟩, List.mem_of_getElem? (i := 1036) (by decide +kernel), List.mem_of_getElem? (i := 1337) (by decide +kernel), List.mem_of_getElem? (i := 1338) (by decide +kernel)⟩
theorem lw_p50 : lw_okq (⟨"StateJugglerModel", "tellPattern", "()V"⟩, 66) := ⟨⟨by decide +kernel, by decide +kernel⟩, List.mem_of_getElem? (i := 1036) (by decide +kernel), List.mem_of_getElem? (i := 1341) (by decide +kernel), List.mem_of_getElem? (i := 1342) (by decide +kernel)⟩
theorem lw_p51 : lw_okq (⟨"StateJugglerModel", "toldInt", "(II)I"⟩, 66) := ⟨⟨by decide +kernel, by decide +kernel⟩, List.mem_of_getElem? (i := 1036) (by decide +kernel), List.mem_of_getElem? (i := 1345) (by decide +kernel), List.mem_of_getElem? (i := 1346) (by decide +kernel)⟩
theorem lw_p52 : lw_okq (⟨"StateJugglerModel", "tellLaw", "(I)V"⟩, 66) := ⟨⟨by decide +kernel, by decide +kernel⟩, List.mem_of_getElem? (i := 1036) (by decide +kernel), List.mem_of_getElem? (i := 1349) (by decide +kernel), List.mem_of_getElem? (i := 1350) (by decide +kernel)⟩
theorem lw_p53 : lw_okq (⟨"StateJugglerModel", "expression", "()V"⟩, 66) := ⟨⟨by decide +kernel, by decide +kernel⟩, List.mem_of_getElem? (i := 1036) (by decide +kernel), List.mem_of_getElem? (i := 1353) (by decide +kernel), List.mem_of_getElem? (i := 1354) (by decide +kernel)⟩
theorem lw_p54 : lw_okq (⟨"StateJugglerModel", "unit", "()V"⟩, 66) := ⟨⟨by decide +kernel, by decide +kernel⟩, List.mem_of_getElem? (i := 1036) (by decide +kernel), List.mem_of_getElem? (i := 1357) (by decide +kernel), List.mem_of_getElem? (i := 1358) (by decide +kernel)⟩
theorem lw_p55 : lw_okq (⟨"StateJugglerModel", "emit", "(II)V"⟩, 66) := ⟨⟨by decide +kernel, by decide +kernel⟩, List.mem_of_getElem? (i := 1036) (by decide +kernel), List.mem_of_getElem? (i := 1361) (by decide +kernel), List.mem_of_getElem? (i := 1362) (by decide +kernel)⟩
theorem lw_p56 : lw_okq (⟨"StateJugglerModel", "comesOut", "(Z)V"⟩, 66) := ⟨⟨by decide +kernel, by decide +kernel⟩, List.mem_of_getElem? (i := 1036) (by decide +kernel), List.mem_of_getElem? (i := 1365) (by decide +kernel), List.mem_of_getElem? (i := 1366) (by decide +kernel)⟩
theorem lw_p57 : lw_okq (⟨"StateJugglerModel", "term", "()V"⟩, 66) := ⟨⟨by decide +kernel, by decide +kernel⟩, List.mem_of_getElem? (i := 1036) (by decide +kernel), List.mem_of_getElem? (i := 1369) (by decide +kernel), List.mem_of_getElem? (i := 1370) (by decide +kernel)⟩
theorem lw_p58 : lw_okq (⟨"StateJugglerModel", "isThing", "(I)Z"⟩, 66) := ⟨⟨by decide +kernel, by decide +kernel⟩, List.mem_of_getElem? (i := 1036) (by decide +kernel), List.mem_of_getElem? (i := 1381) (by decide +kernel), List.mem_of_getElem? (i := 1382) (by decide +kernel)⟩
theorem lw_p59 : lw_okq (⟨"StateJugglerModel", "isPattern", "(I)Z"⟩, 66) := ⟨⟨by decide +kernel, by decide +kernel⟩, List.mem_of_getElem? (i := 1036) (by decide +kernel), List.mem_of_getElem? (i := 1392) (by decide +kernel), List.mem_of_getElem? (i := 1393) (by decide +kernel)⟩
theorem lw_p60 : lw_okq (⟨"StateJugglerModel", "lengthOf", "(I)I"⟩, 66) := ⟨⟨by decide +kernel, by decide +kernel⟩, List.mem_of_getElem? (i := 1036) (by decide +kernel), List.mem_of_getElem? (i := 1396) (by decide +kernel), List.mem_of_getElem? (i := 1397) (by decide +kernel)⟩
theorem lw_p61 : lw_okq (⟨"StateJugglerModel", "heightAt", "(II)I"⟩, 66) := ⟨⟨by decide +kernel, by decide +kernel⟩, List.mem_of_getElem? (i := 1036) (by decide +kernel), List.mem_of_getElem? (i := 1400) (by decide +kernel), List.mem_of_getElem? (i := 1401) (by decide +kernel)⟩
theorem lw_p62 : lw_okq (⟨"StateJugglerModel", "copies", "()V"⟩, 66) := ⟨⟨by decide +kernel, by decide +kernel⟩, List.mem_of_getElem? (i := 1036) (by decide +kernel), List.mem_of_getElem? (i := 1408) (by decide +kernel), List.mem_of_getElem? (i := 1409) (by decide +kernel)⟩
theorem lw_p63 : lw_okq (⟨"StateJugglerModel", "thingsSo", "(I)I"⟩, 66) := ⟨⟨by decide +kernel, by decide +kernel⟩, List.mem_of_getElem? (i := 1036) (by decide +kernel), List.mem_of_getElem? (i := 1412) (by decide +kernel), List.mem_of_getElem? (i := 1413) (by decide +kernel)⟩
def lw_privs_4 : List (MethodName × Nat) := [(⟨"StateJugglerModel", "bounded", "(II)I"⟩, 66), (⟨"StateJugglerModel", "ends", "(I)V"⟩, 66), (⟨"StateJugglerModel", "tellPattern", "()V"⟩, 66), (⟨"StateJugglerModel", "toldInt", "(II)I"⟩, 66), (⟨"StateJugglerModel", "tellLaw", "(I)V"⟩, 66), (⟨"StateJugglerModel", "expression", "()V"⟩, 66), (⟨"StateJugglerModel", "unit", "()V"⟩, 66), (⟨"StateJugglerModel", "emit", "(II)V"⟩, 66), (⟨"StateJugglerModel", "comesOut", "(Z)V"⟩, 66), (⟨"StateJugglerModel", "term", "()V"⟩, 66), (⟨"StateJugglerModel", "isThing", "(I)Z"⟩, 66), (⟨"StateJugglerModel", "isPattern", "(I)Z"⟩, 66), (⟨"StateJugglerModel", "lengthOf", "(I)I"⟩, 66), (⟨"StateJugglerModel", "heightAt", "(II)I"⟩, 66), (⟨"StateJugglerModel", "copies", "()V"⟩, 66), (⟨"StateJugglerModel", "thingsSo", "(I)I"⟩, 66)]
theorem lw_r4 : ∀ q ∈ lw_privs_4, lw_okq q := List.forall_mem_cons.mpr ⟨lw_p48, List.forall_mem_cons.mpr ⟨lw_p49, List.forall_mem_cons.mpr ⟨lw_p50, List.forall_mem_cons.mpr ⟨lw_p51, List.forall_mem_cons.mpr ⟨lw_p52, List.forall_mem_cons.mpr ⟨lw_p53, List.forall_mem_cons.mpr ⟨lw_p54, List.forall_mem_cons.mpr ⟨lw_p55, List.forall_mem_cons.mpr ⟨lw_p56, List.forall_mem_cons.mpr ⟨lw_p57, List.forall_mem_cons.mpr ⟨lw_p58, List.forall_mem_cons.mpr ⟨lw_p59, List.forall_mem_cons.mpr ⟨lw_p60, List.forall_mem_cons.mpr ⟨lw_p61, List.forall_mem_cons.mpr ⟨lw_p62, List.forall_mem_cons.mpr ⟨lw_p63, fun _ h => absurd h List.not_mem_nil⟩⟩⟩⟩⟩⟩⟩⟩⟩⟩⟩⟩⟩⟩⟩⟩
theorem lw_p64 : lw_okq (⟨"StateJugglerModel", "tiresBy", "(III)I"⟩, 66) := ⟨⟨by decide +kernel, by decide +kernel⟩, List.mem_of_getElem? (i := 1036) (by decide +kernel), List.mem_of_getElem? (i := 1419) (by decide +kernel), List.mem_of_getElem? (i := 1420) (by decide +kernel)⟩
theorem lw_p65 : lw_okq (⟨"StateJugglerModel", "looksAt", "(III)V"⟩, 66) := ⟨⟨by decide +kernel, by decide +kernel⟩, List.mem_of_getElem? (i := 1036) (by decide +kernel), List.mem_of_getElem? (i := 1423) (by decide +kernel), List.mem_of_getElem? (i := 1424) (by decide +kernel)⟩
theorem lw_p66 : lw_okq (⟨"StateJugglerModel", "lawTells", "(II)I"⟩, 66) := ⟨⟨by decide +kernel, by decide +kernel⟩, List.mem_of_getElem? (i := 1036) (by decide +kernel), List.mem_of_getElem? (i := 1427) (by decide +kernel), List.mem_of_getElem? (i := 1428) (by decide +kernel)⟩
theorem lw_p67 : lw_okq (⟨"StateJugglerModel", "termOf", "(II)I"⟩, 66) := ⟨⟨by decide +kernel, by decide +kernel⟩, List.mem_of_getElem? (i := 1036) (by decide +kernel), List.mem_of_getElem? (i := 1431) (by decide +kernel), List.mem_of_getElem? (i := 1432) (by decide +kernel)⟩
theorem lw_p68 : lw_okq (⟨"StateJugglerModel", "dropsBy", "(III)I"⟩, 66) := ⟨⟨by decide +kernel, by decide +kernel⟩, List.mem_of_getElem? (i := 1036) (by decide +kernel), List.mem_of_getElem? (i := 1438) (by decide +kernel), List.mem_of_getElem? (i := 1439) (by decide +kernel)⟩
theorem lw_p69 : lw_okq (⟨"StateJugglerModel", "forceOf", "(II)I"⟩, 66) := ⟨⟨by decide +kernel, by decide +kernel⟩, List.mem_of_getElem? (i := 1036) (by decide +kernel), List.mem_of_getElem? (i := 1442) (by decide +kernel), List.mem_of_getElem? (i := 1443) (by decide +kernel)⟩
theorem lw_p70 : lw_okq (⟨"StateJugglerModel", "paysOf", "(II)I"⟩, 66) := ⟨⟨by decide +kernel, by decide +kernel⟩, List.mem_of_getElem? (i := 1036) (by decide +kernel), List.mem_of_getElem? (i := 1446) (by decide +kernel), List.mem_of_getElem? (i := 1447) (by decide +kernel)⟩
theorem lw_p71 : lw_okq (⟨"StateJugglerModel", "records", "()V"⟩, 66) := ⟨⟨by decide +kernel, by decide +kernel⟩, List.mem_of_getElem? (i := 1036) (by decide +kernel), List.mem_of_getElem? (i := 1454) (by decide +kernel), List.mem_of_getElem? (i := 1455) (by decide +kernel)⟩
theorem lw_p72 : lw_okq (⟨"StateJugglerModel", "uses", "(I)V"⟩, 66) := ⟨⟨by decide +kernel, by decide +kernel⟩, List.mem_of_getElem? (i := 1036) (by decide +kernel), List.mem_of_getElem? (i := 1462) (by decide +kernel), List.mem_of_getElem? (i := 1463) (by decide +kernel)⟩
theorem lw_p73 : lw_okq (⟨"StateJugglerModel", "goes", "(I)V"⟩, 66) := ⟨⟨by decide +kernel, by decide +kernel⟩, List.mem_of_getElem? (i := 1036) (by decide +kernel), List.mem_of_getElem? (i := 1477) (by decide +kernel), List.mem_of_getElem? (i := 1478) (by decide +kernel)⟩
theorem lw_p74 : lw_okq (⟨"StateJugglerModel", "beatGoes", "()V"⟩, 66) := ⟨⟨by decide +kernel, by decide +kernel⟩, List.mem_of_getElem? (i := 1036) (by decide +kernel), List.mem_of_getElem? (i := 1481) (by decide +kernel), List.mem_of_getElem? (i := 1482) (by decide +kernel)⟩
theorem lw_p75 : lw_okq (⟨"StateJugglerModel", "catchesNow", "()I"⟩, 66) := ⟨⟨by decide +kernel, by decide +kernel⟩, List.mem_of_getElem? (i := 1036) (by decide +kernel), List.mem_of_getElem? (i := 1485) (by decide +kernel), List.mem_of_getElem? (i := 1486) (by decide +kernel)⟩
theorem lw_p76 : lw_okq (⟨"StateJugglerModel", "doesLand", "(II)Z"⟩, 66) := ⟨⟨by decide +kernel, by decide +kernel⟩, List.mem_of_getElem? (i := 1036) (by decide +kernel), List.mem_of_getElem? (i := 1489) (by decide +kernel), List.mem_of_getElem? (i := 1490) (by decide +kernel)⟩
theorem lw_p77 : lw_okq (⟨"StateJugglerModel", "dropsOthers", "()V"⟩, 66) := ⟨⟨by decide +kernel, by decide +kernel⟩, List.mem_of_getElem? (i := 1036) (by decide +kernel), List.mem_of_getElem? (i := 1493) (by decide +kernel), List.mem_of_getElem? (i := 1494) (by decide +kernel)⟩
theorem lw_p78 : lw_okq (⟨"StateJugglerModel", "catches", "(I)V"⟩, 66) := ⟨⟨by decide +kernel, by decide +kernel⟩, List.mem_of_getElem? (i := 1036) (by decide +kernel), List.mem_of_getElem? (i := 1497) (by decide +kernel), List.mem_of_getElem? (i := 1498) (by decide +kernel)⟩
theorem lw_p79 : lw_okq (⟨"StateJugglerModel", "heightNow", "()I"⟩, 66) := ⟨⟨by decide +kernel, by decide +kernel⟩, List.mem_of_getElem? (i := 1036) (by decide +kernel), List.mem_of_getElem? (i := 1501) (by decide +kernel), List.mem_of_getElem? (i := 1502) (by decide +kernel)⟩
def lw_privs_5 : List (MethodName × Nat) := [(⟨"StateJugglerModel", "tiresBy", "(III)I"⟩, 66), (⟨"StateJugglerModel", "looksAt", "(III)V"⟩, 66), (⟨"StateJugglerModel", "lawTells", "(II)I"⟩, 66), (⟨"StateJugglerModel", "termOf", "(II)I"⟩, 66), (⟨"StateJugglerModel", "dropsBy", "(III)I"⟩, 66), (⟨"StateJugglerModel", "forceOf", "(II)I"⟩, 66), (⟨"StateJugglerModel", "paysOf", "(II)I"⟩, 66), (⟨"StateJugglerModel", "records", "()V"⟩, 66), (⟨"StateJugglerModel", "uses", "(I)V"⟩, 66), (⟨"StateJugglerModel", "goes", "(I)V"⟩, 66), (⟨"StateJugglerModel", "beatGoes", "()V"⟩, 66), (⟨"StateJugglerModel", "catchesNow", "()I"⟩, 66), (⟨"StateJugglerModel", "doesLand", "(II)Z"⟩, 66), (⟨"StateJugglerModel", "dropsOthers", "()V"⟩, 66), (⟨"StateJugglerModel", "catches", "(I)V"⟩, 66), (⟨"StateJugglerModel", "heightNow", "()I"⟩, 66)]
theorem lw_r5 : ∀ q ∈ lw_privs_5, lw_okq q := List.forall_mem_cons.mpr ⟨lw_p64, List.forall_mem_cons.mpr ⟨lw_p65, List.forall_mem_cons.mpr ⟨lw_p66, List.forall_mem_cons.mpr ⟨lw_p67, List.forall_mem_cons.mpr ⟨lw_p68, List.forall_mem_cons.mpr ⟨lw_p69, List.forall_mem_cons.mpr ⟨lw_p70, List.forall_mem_cons.mpr ⟨lw_p71, List.forall_mem_cons.mpr ⟨lw_p72, List.forall_mem_cons.mpr ⟨lw_p73, List.forall_mem_cons.mpr ⟨lw_p74, List.forall_mem_cons.mpr ⟨lw_p75, List.forall_mem_cons.mpr ⟨lw_p76, List.forall_mem_cons.mpr ⟨lw_p77, List.forall_mem_cons.mpr ⟨lw_p78, List.forall_mem_cons.mpr ⟨lw_p79, fun _ h => absurd h List.not_mem_nil⟩⟩⟩⟩⟩⟩⟩⟩⟩⟩⟩⟩⟩⟩⟩⟩
theorem lw_p80 : lw_okq (⟨"StateJugglerModel", "lotNow", "()I"⟩, 66) := ⟨⟨by decide +kernel, by decide +kernel⟩, List.mem_of_getElem? (i := 1036) (by decide +kernel), List.mem_of_getElem? (i := 1505) (by decide +kernel), List.mem_of_getElem? (i := 1506) (by decide +kernel)⟩
theorem lw_p81 : lw_okq (⟨"StateJugglerModel", "isThrown", "(IIII)V"⟩, 66) := ⟨⟨by decide +kernel, by decide +kernel⟩, List.mem_of_getElem? (i := 1036) (by decide +kernel), List.mem_of_getElem? (i := 1513) (by decide +kernel), List.mem_of_getElem? (i := 1514) (by decide +kernel)⟩
theorem lw_p82 : lw_okq (⟨"StateJugglerModel", "keepsOf", "(I)I"⟩, 66) := ⟨⟨by decide +kernel, by decide +kernel⟩, List.mem_of_getElem? (i := 1036) (by decide +kernel), List.mem_of_getElem? (i := 1525) (by decide +kernel), List.mem_of_getElem? (i := 1526) (by decide +kernel)⟩
theorem lw_p83 : lw_okq (⟨"StateJugglerModel", "takesPattern", "(II)V"⟩, 66) := ⟨⟨by decide +kernel, by decide +kernel⟩, List.mem_of_getElem? (i := 1036) (by decide +kernel), List.mem_of_getElem? (i := 1529) (by decide +kernel), List.mem_of_getElem? (i := 1530) (by decide +kernel)⟩
theorem lw_p84 : lw_okq (⟨"StateJugglerModel", "keeps", "()I"⟩, 66) := ⟨⟨by decide +kernel, by decide +kernel⟩, List.mem_of_getElem? (i := 1036) (by decide +kernel), List.mem_of_getElem? (i := 1533) (by decide +kernel), List.mem_of_getElem? (i := 1534) (by decide +kernel)⟩
theorem lw_p85 : lw_okq (⟨"StateJugglerModel", "isTurned", "(III)Z"⟩, 66) := ⟨⟨by decide +kernel, by decide +kernel⟩, List.mem_of_getElem? (i := 1036) (by decide +kernel), List.mem_of_getElem? (i := 1548) (by decide +kernel), List.mem_of_getElem? (i := 1549) (by decide +kernel)⟩
theorem lw_p86 : lw_okq (⟨"StateJugglerModel", "landsAt", "(I)I"⟩, 66) := ⟨⟨by decide +kernel, by decide +kernel⟩, List.mem_of_getElem? (i := 1036) (by decide +kernel), List.mem_of_getElem? (i := 1568) (by decide +kernel), List.mem_of_getElem? (i := 1569) (by decide +kernel)⟩
theorem lw_p87 : lw_okq (⟨"StateJugglerModel", "copiesStill", "()V"⟩, 66) := ⟨⟨by decide +kernel, by decide +kernel⟩, List.mem_of_getElem? (i := 1036) (by decide +kernel), List.mem_of_getElem? (i := 1576) (by decide +kernel), List.mem_of_getElem? (i := 1577) (by decide +kernel)⟩
theorem lw_p88 : lw_okq (⟨"StateJugglerModel", "aimOf", "(I)I"⟩, 66) := ⟨⟨by decide +kernel, by decide +kernel⟩, List.mem_of_getElem? (i := 1036) (by decide +kernel), List.mem_of_getElem? (i := 1589) (by decide +kernel), List.mem_of_getElem? (i := 1590) (by decide +kernel)⟩
theorem lw_p89 : lw_okq (⟨"StateJugglerModel", "fillsFar", "(I)V"⟩, 66) := ⟨⟨by decide +kernel, by decide +kernel⟩, List.mem_of_getElem? (i := 1036) (by decide +kernel), List.mem_of_getElem? (i := 1593) (by decide +kernel), List.mem_of_getElem? (i := 1594) (by decide +kernel)⟩
theorem lw_p90 : lw_okq (⟨"StateJugglerModel", "areTwoSoon", "()Z"⟩, 66) := ⟨⟨by decide +kernel, by decide +kernel⟩, List.mem_of_getElem? (i := 1036) (by decide +kernel), List.mem_of_getElem? (i := 1600) (by decide +kernel), List.mem_of_getElem? (i := 1601) (by decide +kernel)⟩
theorem lw_p91 : lw_okq (⟨"StateJugglerModel", "firstOf", "(I)I"⟩, 66) := ⟨⟨by decide +kernel, by decide +kernel⟩, List.mem_of_getElem? (i := 1036) (by decide +kernel), List.mem_of_getElem? (i := 1604) (by decide +kernel), List.mem_of_getElem? (i := 1605) (by decide +kernel)⟩
theorem lw_p92 : lw_okq (⟨"StateJugglerModel", "hasRoom", "(II)Z"⟩, 66) := ⟨⟨by decide +kernel, by decide +kernel⟩, List.mem_of_getElem? (i := 1036) (by decide +kernel), List.mem_of_getElem? (i := 1612) (by decide +kernel), List.mem_of_getElem? (i := 1613) (by decide +kernel)⟩
theorem lw_p93 : lw_okq (⟨"StateJugglerModel", "glitterBits", "(I)I"⟩, 66) := ⟨⟨by decide +kernel, by decide +kernel⟩, List.mem_of_getElem? (i := 1036) (by decide +kernel), List.mem_of_getElem? (i := 1680) (by decide +kernel), List.mem_of_getElem? (i := 1681) (by decide +kernel)⟩
theorem lw_p94 : lw_okq (⟨"StateJugglerModel", "weightsOf", "(I)I"⟩, 66) := ⟨⟨by decide +kernel, by decide +kernel⟩, List.mem_of_getElem? (i := 1036) (by decide +kernel), List.mem_of_getElem? (i := 1700) (by decide +kernel), List.mem_of_getElem? (i := 1701) (by decide +kernel)⟩
def lw_privs_6 : List (MethodName × Nat) := [(⟨"StateJugglerModel", "lotNow", "()I"⟩, 66), (⟨"StateJugglerModel", "isThrown", "(IIII)V"⟩, 66), (⟨"StateJugglerModel", "keepsOf", "(I)I"⟩, 66), (⟨"StateJugglerModel", "takesPattern", "(II)V"⟩, 66), (⟨"StateJugglerModel", "keeps", "()I"⟩, 66), (⟨"StateJugglerModel", "isTurned", "(III)Z"⟩, 66), (⟨"StateJugglerModel", "landsAt", "(I)I"⟩, 66), (⟨"StateJugglerModel", "copiesStill", "()V"⟩, 66), (⟨"StateJugglerModel", "aimOf", "(I)I"⟩, 66), (⟨"StateJugglerModel", "fillsFar", "(I)V"⟩, 66), (⟨"StateJugglerModel", "areTwoSoon", "()Z"⟩, 66), (⟨"StateJugglerModel", "firstOf", "(I)I"⟩, 66), (⟨"StateJugglerModel", "hasRoom", "(II)Z"⟩, 66), (⟨"StateJugglerModel", "glitterBits", "(I)I"⟩, 66), (⟨"StateJugglerModel", "weightsOf", "(I)I"⟩, 66)]
theorem lw_r6 : ∀ q ∈ lw_privs_6, lw_okq q := List.forall_mem_cons.mpr ⟨lw_p80, List.forall_mem_cons.mpr ⟨lw_p81, List.forall_mem_cons.mpr ⟨lw_p82, List.forall_mem_cons.mpr ⟨lw_p83, List.forall_mem_cons.mpr ⟨lw_p84, List.forall_mem_cons.mpr ⟨lw_p85, List.forall_mem_cons.mpr ⟨lw_p86, List.forall_mem_cons.mpr ⟨lw_p87, List.forall_mem_cons.mpr ⟨lw_p88, List.forall_mem_cons.mpr ⟨lw_p89, List.forall_mem_cons.mpr ⟨lw_p90, List.forall_mem_cons.mpr ⟨lw_p91, List.forall_mem_cons.mpr ⟨lw_p92, List.forall_mem_cons.mpr ⟨lw_p93, List.forall_mem_cons.mpr ⟨lw_p94, fun _ h => absurd h List.not_mem_nil⟩⟩⟩⟩⟩⟩⟩⟩⟩⟩⟩⟩⟩⟩⟩
def lw_privs : List (MethodName × Nat) := lw_privs_1 ++ (lw_privs_2 ++ (lw_privs_3 ++ (lw_privs_4 ++ (lw_privs_5 ++ (lw_privs_6)))))
def lw_tbl : List Cond := k2_sels lw_privs ++ tables_1
theorem lw_privs_ok : ∀ q ∈ lw_privs, lw_okq q := by
  show ∀ q ∈ lw_privs_1 ++ (lw_privs_2 ++ (lw_privs_3 ++ (lw_privs_4 ++ (lw_privs_5 ++ (lw_privs_6))))), lw_okq q
  exact List.forall_mem_append.mpr ⟨lw_r1, List.forall_mem_append.mpr ⟨lw_r2, List.forall_mem_append.mpr ⟨lw_r3, List.forall_mem_append.mpr ⟨lw_r4, List.forall_mem_append.mpr ⟨lw_r5, lw_r6⟩⟩⟩⟩⟩
def RX0 : String := "StateJuggler$Air"
def TX0 : u_T := fun k => match k with
  | 0 => ("StateJuggler$Air", "things", "I", false)
  | 1 => ("StateJuggler$Air", "where", "[I", true)
  | 2 => ("StateJuggler$Air", "landsIn", "[I", true)
  | 3 => ("StateJuggler$Air", "catches", "[I", true)
  | 4 => ("StateJuggler$Air", "beat", "I", false)
  | 5 => ("StateJuggler$Air", "tired", "I", false)
  | 6 => ("StateJuggler$Air", "dropped", "I", false)
  | 7 => ("StateJuggler$Air", "caught", "I", false)
  | 8 => ("StateJuggler$Air", "earned", "I", false)
  | 9 => ("StateJuggler$Air", "inUse", "I", false)
  | 10 => ("StateJuggler$Air", "sinceBeat", "I", false)
  | _ => ("StateJuggler$Air", "byHand", "I", false)
def tyX0 : Nat → FieldType := fun k => match k with
  | 0 => .int
  | 1 => .array .int
  | 2 => .array .int
  | 3 => .array .int
  | 4 => .int
  | 5 => .int
  | 6 => .int
  | 7 => .int
  | 8 => .int
  | 9 => .int
  | 10 => .int
  | _ => .int
theorem nmX0 : ∀ a, a < 12 → ∀ b, b < 12 → a ≠ b → (TX0 a).2.1 ≠ (TX0 b).2.1 := by decide +kernel
theorem tyX0_ok : ∀ k, k < 12 → parseFieldDescriptor (TX0 k).2.2.1 = some (tyX0 k) := by decide +kernel
abbrev cX0_init : ByteArray := prog_2_method_1_code
def yX0_init : MethodName := ⟨RX0, "<init>", "()V"⟩
abbrev cX0_begin : ByteArray := prog_2_method_2_code
def yX0_begin : MethodName := ⟨RX0, "begin", "(LStateJuggler$Text;)V"⟩
abbrev cX0_copy : ByteArray := prog_2_method_3_code
def yX0_copy : MethodName := ⟨RX0, "copy", "(LStateJuggler$Air;)V"⟩
abbrev cX0_isUp : ByteArray := prog_2_method_4_code
def yX0_isUp : MethodName := ⟨RX0, "isUp", "(I)Z"⟩
abbrev cX0_landsNow : ByteArray := prog_2_method_5_code
def yX0_landsNow : MethodName := ⟨RX0, "landsNow", "(I)Z"⟩
abbrev cX0_putUp : ByteArray := prog_2_method_6_code
def yX0_putUp : MethodName := ⟨RX0, "putUp", "(II)V"⟩
abbrev cX0_takeUp : ByteArray := prog_2_method_7_code
def yX0_takeUp : MethodName := ⟨RX0, "takeUp", "(I)V"⟩
abbrev cX0_drop : ByteArray := prog_2_method_8_code
def yX0_drop : MethodName := ⟨RX0, "drop", "(I)V"⟩
abbrev cX0_bitsOf : ByteArray := prog_2_method_9_code
def yX0_bitsOf : MethodName := ⟨RX0, "bitsOf", "(I)I"⟩
abbrev cX0_howManyUp : ByteArray := prog_2_method_10_code
def yX0_howManyUp : MethodName := ⟨RX0, "howManyUp", "()I"⟩
abbrev cX0_howManyLand : ByteArray := prog_2_method_11_code
def yX0_howManyLand : MethodName := ⟨RX0, "howManyLand", "()I"⟩
abbrev cX0_firstLanding : ByteArray := prog_2_method_12_code
def yX0_firstLanding : MethodName := ⟨RX0, "firstLanding", "()I"⟩
abbrev cX0_landingBits : ByteArray := prog_2_method_13_code
def yX0_landingBits : MethodName := ⟨RX0, "landingBits", "()I"⟩
abbrev cX0_twoLandAlike : ByteArray := prog_2_method_14_code
def yX0_twoLandAlike : MethodName := ⟨RX0, "twoLandAlike", "()Z"⟩
abbrev cX0_heightBy : ByteArray := prog_2_method_15_code
def yX0_heightBy : MethodName := ⟨RX0, "heightBy", "(LStateJuggler$Text;)I"⟩
def RX1 : String := "StateJuggler$Asked"
def TX1 : u_T := fun k => match k with
  | 0 => ("StateJuggler$Asked", "vars", "[I", true)
  | 1 => ("StateJuggler$Asked", "stack", "[I", true)
  | 2 => ("StateJuggler$Asked", "top", "I", false)
  | _ => ("StateJuggler$Asked", "failed", "Z", false)
def tyX1 : Nat → FieldType := fun k => match k with
  | 0 => .array .int
  | 1 => .array .int
  | 2 => .int
  | _ => .boolean
theorem nmX1 : ∀ a, a < 4 → ∀ b, b < 4 → a ≠ b → (TX1 a).2.1 ≠ (TX1 b).2.1 := by decide +kernel
theorem tyX1_ok : ∀ k, k < 4 → parseFieldDescriptor (TX1 k).2.2.1 = some (tyX1 k) := by decide +kernel
abbrev cX1_init : ByteArray := prog_3_method_1_code
def yX1_init : MethodName := ⟨RX1, "<init>", "()V"⟩
abbrev cX1_answer : ByteArray := prog_3_method_2_code
def yX1_answer : MethodName := ⟨RX1, "answer", "([II)I"⟩
abbrev cX1_reckon : ByteArray := prog_3_method_3_code
def yX1_reckon : MethodName := ⟨RX1, "reckon", "(III)I"⟩
abbrev cX1_push : ByteArray := prog_3_method_4_code
def yX1_push : MethodName := ⟨RX1, "push", "(I)V"⟩
abbrev cX1_pop : ByteArray := prog_3_method_5_code
def yX1_pop : MethodName := ⟨RX1, "pop", "()I"⟩
def RX2 : String := "StateJuggler$Hearsay"
def TX2 : u_T := fun k => match k with
  | 0 => ("StateJuggler$Hearsay", "ahead", "[I", true)
  | 1 => ("StateJuggler$Hearsay", "wasInHand", "[Z", true)
  | _ => ("StateJuggler$Hearsay", "size", "I", false)
def tyX2 : Nat → FieldType := fun k => match k with
  | 0 => .array .int
  | 1 => .array .boolean
  | _ => .int
theorem nmX2 : ∀ a, a < 3 → ∀ b, b < 3 → a ≠ b → (TX2 a).2.1 ≠ (TX2 b).2.1 := by decide +kernel
theorem tyX2_ok : ∀ k, k < 3 → parseFieldDescriptor (TX2 k).2.2.1 = some (tyX2 k) := by decide +kernel
abbrev cX2_init : ByteArray := prog_4_method_1_code
def yX2_init : MethodName := ⟨RX2, "<init>", "()V"⟩
abbrev cX2_add : ByteArray := prog_4_method_2_code
def yX2_add : MethodName := ⟨RX2, "add", "(IZ)I"⟩
abbrev cX2_agreeing : ByteArray := prog_4_method_3_code
def yX2_agreeing : MethodName := ⟨RX2, "agreeing", "(II[I)I"⟩
def RX3 : String := "StateJuggler$Heights"
abbrev cX3_close : ByteArray := prog_5_method_2_code
def yX3_close : MethodName := ⟨RX3, "close", "([II)Z"⟩
abbrev cX3_kept : ByteArray := prog_5_method_3_code
def yX3_kept : MethodName := ⟨RX3, "kept", "([II)I"⟩
abbrev cX3_highest : ByteArray := prog_5_method_4_code
def yX3_highest : MethodName := ⟨RX3, "highest", "([II)I"⟩
abbrev cX3_turns : ByteArray := prog_5_method_5_code
def yX3_turns : MethodName := ⟨RX3, "turns", "([I[II)I"⟩
abbrev cX3_rounds : ByteArray := prog_5_method_6_code
def yX3_rounds : MethodName := ⟨RX3, "rounds", "([II)I"⟩
abbrev cX3_pairsToSwap : ByteArray := prog_5_method_7_code
def yX3_pairsToSwap : MethodName := ⟨RX3, "pairsToSwap", "([II)I"⟩
abbrev cX3_landingBits : ByteArray := prog_5_method_8_code
def yX3_landingBits : MethodName := ⟨RX3, "landingBits", "([II)I"⟩
def RX4 : String := "StateJuggler$Juggler"
def TX4 : u_T := fun k => match k with
  | _ => ("StateJuggler$Juggler", "asked", "LStateJuggler$Asked;", true)
def tyX4 : Nat → FieldType := fun k => match k with
  | _ => .object "StateJuggler$Asked"
theorem nmX4 : ∀ a, a < 1 → ∀ b, b < 1 → a ≠ b → (TX4 a).2.1 ≠ (TX4 b).2.1 := by decide +kernel
theorem tyX4_ok : ∀ k, k < 1 → parseFieldDescriptor (TX4 k).2.2.1 = some (tyX4 k) := by decide +kernel
abbrev cX4_init : ByteArray := prog_6_method_1_code
def yX4_init : MethodName := ⟨RX4, "<init>", "()V"⟩
abbrev cX4_goOn : ByteArray := prog_6_method_2_code
def yX4_goOn : MethodName := ⟨RX4, "goOn", "(LStateJuggler$Text;LStateJuggler$Air;II)V"⟩
abbrev cX4_goOnSafely : ByteArray := prog_6_method_3_code
def yX4_goOnSafely : MethodName := ⟨RX4, "goOnSafely", "(LStateJuggler$Text;LStateJuggler$Air;)V"⟩
abbrev cX4_inForce : ByteArray := prog_6_method_4_code
def yX4_inForce : MethodName := ⟨RX4, "inForce", "(LStateJuggler$Text;LStateJuggler$Air;)I"⟩
abbrev cX4_oneBeat : ByteArray := prog_6_method_5_code
def yX4_oneBeat : MethodName := ⟨RX4, "oneBeat", "(LStateJuggler$Text;LStateJuggler$Air;I)V"⟩
abbrev cX4_catchOne : ByteArray := prog_6_method_6_code
def yX4_catchOne : MethodName := ⟨RX4, "catchOne", "(LStateJuggler$Text;LStateJuggler$Air;II)V"⟩
abbrev cX4_lookAt : ByteArray := prog_6_method_7_code
def yX4_lookAt : MethodName := ⟨RX4, "lookAt", "(LStateJuggler$Text;LStateJuggler$Air;II)V"⟩
abbrev cX4_asks : ByteArray := prog_6_method_8_code
def yX4_asks : MethodName := ⟨RX4, "asks", "(LStateJuggler$Text;II)I"⟩
abbrev cX4_lot : ByteArray := prog_6_method_9_code
def yX4_lot : MethodName := ⟨RX4, "lot", "(III)I"⟩
abbrev cX4_stir : ByteArray := prog_6_method_10_code
def yX4_stir : MethodName := ⟨RX4, "stir", "(II)I"⟩
def RX5 : String := "StateJuggler$Past"
def TX5 : u_T := fun k => match k with
  | 0 => ("StateJuggler$Past", "ring", "[LStateJuggler$Air;", true)
  | 1 => ("StateJuggler$Past", "next", "I", false)
  | _ => ("StateJuggler$Past", "size", "I", false)
def tyX5 : Nat → FieldType := fun k => match k with
  | 0 => .array (.object "StateJuggler$Air")
  | 1 => .int
  | _ => .int
theorem nmX5 : ∀ a, a < 3 → ∀ b, b < 3 → a ≠ b → (TX5 a).2.1 ≠ (TX5 b).2.1 := by decide +kernel
theorem tyX5_ok : ∀ k, k < 3 → parseFieldDescriptor (TX5 k).2.2.1 = some (tyX5 k) := by decide +kernel
abbrev cX5_init : ByteArray := prog_7_method_1_code
def yX5_init : MethodName := ⟨RX5, "<init>", "()V"⟩
abbrev cX5_clear : ByteArray := prog_7_method_2_code
def yX5_clear : MethodName := ⟨RX5, "clear", "()V"⟩
abbrev cX5_keep : ByteArray := prog_7_method_3_code
def yX5_keep : MethodName := ⟨RX5, "keep", "(LStateJuggler$Air;)V"⟩
abbrev cX5_giveBack : ByteArray := prog_7_method_4_code
def yX5_giveBack : MethodName := ⟨RX5, "giveBack", "(LStateJuggler$Air;)Z"⟩
def RX6 : String := "StateJuggler$Reader"
def TX6 : u_T := fun k => match k with
  | 0 => ("StateJuggler$Reader", "tape", "LStateJuggler$Tape;", true)
  | 1 => ("StateJuggler$Reader", "faultPlace", "I", false)
  | 2 => ("StateJuggler$Reader", "fault", "I", false)
  | 3 => ("StateJuggler$Reader", "laterFault", "I", false)
  | 4 => ("StateJuggler$Reader", "laterPlace", "I", false)
  | 5 => ("StateJuggler$Reader", "ahead", "I", false)
  | 6 => ("StateJuggler$Reader", "kind", "I", false)
  | 7 => ("StateJuggler$Reader", "took", "I", false)
  | 8 => ("StateJuggler$Reader", "names", "[J", true)
  | _ => ("StateJuggler$Reader", "nameCount", "I", false)
def tyX6 : Nat → FieldType := fun k => match k with
  | 0 => .object "StateJuggler$Tape"
  | 1 => .int
  | 2 => .int
  | 3 => .int
  | 4 => .int
  | 5 => .int
  | 6 => .int
  | 7 => .int
  | 8 => .array .long
  | _ => .int
theorem nmX6 : ∀ a, a < 10 → ∀ b, b < 10 → a ≠ b → (TX6 a).2.1 ≠ (TX6 b).2.1 := by decide +kernel
theorem tyX6_ok : ∀ k, k < 10 → parseFieldDescriptor (TX6 k).2.2.1 = some (tyX6 k) := by decide +kernel
abbrev cX6_init : ByteArray := prog_8_method_1_code
def yX6_init : MethodName := ⟨RX6, "<init>", "()V"⟩
abbrev cX6_readInto : ByteArray := prog_8_method_2_code
def yX6_readInto : MethodName := ⟨RX6, "readInto", "(LStateJuggler$Text;)I"⟩
abbrev cX6_take : ByteArray := prog_8_method_3_code
def yX6_take : MethodName := ⟨RX6, "take", "(I)Z"⟩
abbrev cX6_refuse : ByteArray := prog_8_method_4_code
def yX6_refuse : MethodName := ⟨RX6, "refuse", "(I)Z"⟩
abbrev cX6_noteLater : ByteArray := prog_8_method_5_code
def yX6_noteLater : MethodName := ⟨RX6, "noteLater", "(I)V"⟩
abbrev cX6_takeNumber : ByteArray := prog_8_method_6_code
def yX6_takeNumber : MethodName := ⟨RX6, "takeNumber", "(II)Z"⟩
abbrev cX6_takeName : ByteArray := prog_8_method_7_code
def yX6_takeName : MethodName := ⟨RX6, "takeName", "()Z"⟩
abbrev cX6_telling : ByteArray := prog_8_method_8_code
def yX6_telling : MethodName := ⟨RX6, "telling", "(LStateJuggler$Text;)Z"⟩
abbrev cX6_tellingThing : ByteArray := prog_8_method_9_code
def yX6_tellingThing : MethodName := ⟨RX6, "tellingThing", "(LStateJuggler$Text;)Z"⟩
abbrev cX6_tellingPattern : ByteArray := prog_8_method_10_code
def yX6_tellingPattern : MethodName := ⟨RX6, "tellingPattern", "(LStateJuggler$Text;)Z"⟩
abbrev cX6_tellingLaw : ByteArray := prog_8_method_11_code
def yX6_tellingLaw : MethodName := ⟨RX6, "tellingLaw", "(LStateJuggler$Text;I)Z"⟩
abbrev cX6_condition : ByteArray := prog_8_method_12_code
def yX6_condition : MethodName := ⟨RX6, "condition", "(LStateJuggler$Text;)Z"⟩
abbrev cX6_expression : ByteArray := prog_8_method_13_code
def yX6_expression : MethodName := ⟨RX6, "expression", "(LStateJuggler$Text;I)Z"⟩
abbrev cX6_product : ByteArray := prog_8_method_14_code
def yX6_product : MethodName := ⟨RX6, "product", "(LStateJuggler$Text;I)Z"⟩
abbrev cX6_unit : ByteArray := prog_8_method_15_code
def yX6_unit : MethodName := ⟨RX6, "unit", "(LStateJuggler$Text;I)Z"⟩
def RX7 : String := "StateJuggler$Route"
def TX7 : u_T := fun k => match k with
  | 0 => ("StateJuggler$Route", "queue", "[I", true)
  | 1 => ("StateJuggler$Route", "tail", "I", false)
  | 2 => ("StateJuggler$Route", "from", "[I", true)
  | 3 => ("StateJuggler$Route", "by", "[I", true)
  | 4 => ("StateJuggler$Route", "heights", "[I", true)
  | _ => ("StateJuggler$Route", "size", "I", false)
def tyX7 : Nat → FieldType := fun k => match k with
  | 0 => .array .int
  | 1 => .int
  | 2 => .array .int
  | 3 => .array .int
  | 4 => .array .int
  | _ => .int
theorem nmX7 : ∀ a, a < 6 → ∀ b, b < 6 → a ≠ b → (TX7 a).2.1 ≠ (TX7 b).2.1 := by decide +kernel
theorem tyX7_ok : ∀ k, k < 6 → parseFieldDescriptor (TX7 k).2.2.1 = some (tyX7 k) := by decide +kernel
abbrev cX7_init : ByteArray := prog_9_method_1_code
def yX7_init : MethodName := ⟨RX7, "<init>", "()V"⟩
abbrev cX7_find : ByteArray := prog_9_method_2_code
def yX7_find : MethodName := ⟨RX7, "find", "(II)Z"⟩
abbrev cX7_goOnFrom : ByteArray := prog_9_method_3_code
def yX7_goOnFrom : MethodName := ⟨RX7, "goOnFrom", "(I)V"⟩
abbrev cX7_meet : ByteArray := prog_9_method_4_code
def yX7_meet : MethodName := ⟨RX7, "meet", "(III)V"⟩
def RX8 : String := "StateJuggler$Rows"
def TX8 : u_T := fun k => match k with
  | 0 => ("StateJuggler$Rows", "row", "[I", true)
  | 1 => ("StateJuggler$Rows", "lowest", "[I", true)
  | 2 => ("StateJuggler$Rows", "found", "I", false)
  | 3 => ("StateJuggler$Rows", "length", "I", false)
  | _ => ("StateJuggler$Rows", "highest", "I", false)
def tyX8 : Nat → FieldType := fun k => match k with
  | 0 => .array .int
  | 1 => .array .int
  | 2 => .int
  | 3 => .int
  | _ => .int
theorem nmX8 : ∀ a, a < 5 → ∀ b, b < 5 → a ≠ b → (TX8 a).2.1 ≠ (TX8 b).2.1 := by decide +kernel
theorem tyX8_ok : ∀ k, k < 5 → parseFieldDescriptor (TX8 k).2.2.1 = some (tyX8 k) := by decide +kernel
abbrev cX8_init : ByteArray := prog_10_method_1_code
def yX8_init : MethodName := ⟨RX8, "<init>", "()V"⟩
abbrev cX8_find : ByteArray := prog_10_method_2_code
def yX8_find : MethodName := ⟨RX8, "find", "(III)V"⟩
abbrev cX8_fill : ByteArray := prog_10_method_3_code
def yX8_fill : MethodName := ⟨RX8, "fill", "(III)V"⟩
abbrev cX8_finish : ByteArray := prog_10_method_4_code
def yX8_finish : MethodName := ⟨RX8, "finish", "()V"⟩
def RX9 : String := "StateJuggler$Tape"
def TX9 : u_T := fun k => match k with
  | 0 => ("StateJuggler$Tape", "bytes", "[I", true)
  | 1 => ("StateJuggler$Tape", "size", "I", false)
  | 2 => ("StateJuggler$Tape", "kinds", "[I", true)
  | 3 => ("StateJuggler$Tape", "places", "[I", true)
  | 4 => ("StateJuggler$Tape", "values", "[J", true)
  | _ => ("StateJuggler$Tape", "at", "I", false)
def tyX9 : Nat → FieldType := fun k => match k with
  | 0 => .array .int
  | 1 => .int
  | 2 => .array .int
  | 3 => .array .int
  | 4 => .array .long
  | _ => .int
theorem nmX9 : ∀ a, a < 6 → ∀ b, b < 6 → a ≠ b → (TX9 a).2.1 ≠ (TX9 b).2.1 := by decide +kernel
theorem tyX9_ok : ∀ k, k < 6 → parseFieldDescriptor (TX9 k).2.2.1 = some (tyX9 k) := by decide +kernel
abbrev cX9_init : ByteArray := prog_11_method_1_code
def yX9_init : MethodName := ⟨RX9, "<init>", "()V"⟩
abbrev cX9_append : ByteArray := prog_11_method_2_code
def yX9_append : MethodName := ⟨RX9, "append", "(I)V"⟩
abbrev cX9_cut : ByteArray := prog_11_method_3_code
def yX9_cut : MethodName := ⟨RX9, "cut", "()V"⟩
abbrev cX9_cutOne : ByteArray := prog_11_method_4_code
def yX9_cutOne : MethodName := ⟨RX9, "cutOne", "(I)I"⟩
abbrev cX9_cutWord : ByteArray := prog_11_method_5_code
def yX9_cutWord : MethodName := ⟨RX9, "cutWord", "(I)I"⟩
abbrev cX9_cutInt : ByteArray := prog_11_method_6_code
def yX9_cutInt : MethodName := ⟨RX9, "cutInt", "(I)I"⟩
abbrev cX9_wordAt : ByteArray := prog_11_method_7_code
def yX9_wordAt : MethodName := ⟨RX9, "wordAt", "(II)I"⟩
abbrev cX9_isBlank : ByteArray := prog_11_method_8_code
def yX9_isBlank : MethodName := ⟨RX9, "isBlank", "(I)Z"⟩
abbrev cX9_isLetter : ByteArray := prog_11_method_9_code
def yX9_isLetter : MethodName := ⟨RX9, "isLetter", "(I)Z"⟩
abbrev cX9_isDigit : ByteArray := prog_11_method_10_code
def yX9_isDigit : MethodName := ⟨RX9, "isDigit", "(I)Z"⟩
def RX10 : String := "StateJuggler$Text"
def TX10 : u_T := fun k => match k with
  | 0 => ("StateJuggler$Text", "things", "I", false)
  | 1 => ("StateJuggler$Text", "weight", "[I", true)
  | 2 => ("StateJuggler$Text", "edge", "[I", true)
  | 3 => ("StateJuggler$Text", "start", "[I", true)
  | 4 => ("StateJuggler$Text", "patterns", "I", false)
  | 5 => ("StateJuggler$Text", "heights", "[[I", true)
  | 6 => ("StateJuggler$Text", "lengths", "[I", true)
  | 7 => ("StateJuggler$Text", "code", "[I", true)
  | 8 => ("StateJuggler$Text", "codeSize", "I", false)
  | 9 => ("StateJuggler$Text", "lawAt", "[I", true)
  | 10 => ("StateJuggler$Text", "rests", "I", false)
  | _ => ("StateJuggler$Text", "seed", "I", false)
def tyX10 : Nat → FieldType := fun k => match k with
  | 0 => .int
  | 1 => .array .int
  | 2 => .array .int
  | 3 => .array .int
  | 4 => .int
  | 5 => .array (.array .int)
  | 6 => .array .int
  | 7 => .array .int
  | 8 => .int
  | 9 => .array .int
  | 10 => .int
  | _ => .int
theorem nmX10 : ∀ a, a < 12 → ∀ b, b < 12 → a ≠ b → (TX10 a).2.1 ≠ (TX10 b).2.1 := by decide +kernel
theorem tyX10_ok : ∀ k, k < 12 → parseFieldDescriptor (TX10 k).2.2.1 = some (tyX10 k) := by decide +kernel
abbrev cX10_init : ByteArray := prog_12_method_1_code
def yX10_init : MethodName := ⟨RX10, "<init>", "()V"⟩
abbrev cX10_clear : ByteArray := prog_12_method_2_code
def yX10_clear : MethodName := ⟨RX10, "clear", "()V"⟩
abbrev cX10_emit : ByteArray := prog_12_method_3_code
def yX10_emit : MethodName := ⟨RX10, "emit", "(I)V"⟩
abbrev cX10_hasThing : ByteArray := prog_12_method_4_code
def yX10_hasThing : MethodName := ⟨RX10, "hasThing", "(I)Z"⟩
abbrev cX10_hasPattern : ByteArray := prog_12_method_5_code
def yX10_hasPattern : MethodName := ⟨RX10, "hasPattern", "(I)Z"⟩
def RX11 : String := "StateJuggler"
def TX11 : u_T := fun k => match k with
  | 0 => ("StateJuggler", "reader", "LStateJuggler$Reader;", true)
  | 1 => ("StateJuggler", "juggler", "LStateJuggler$Juggler;", true)
  | 2 => ("StateJuggler", "past", "LStateJuggler$Past;", true)
  | 3 => ("StateJuggler", "hearsay", "LStateJuggler$Hearsay;", true)
  | 4 => ("StateJuggler", "route", "LStateJuggler$Route;", true)
  | 5 => ("StateJuggler", "rows", "LStateJuggler$Rows;", true)
  | 6 => ("StateJuggler", "now", "LStateJuggler$Air;", true)
  | 7 => ("StateJuggler", "trial", "LStateJuggler$Air;", true)
  | 8 => ("StateJuggler", "slots", "[LStateJuggler$Air;", true)
  | 9 => ("StateJuggler", "held", "[Z", true)
  | 10 => ("StateJuggler", "hands", "[I", true)
  | 11 => ("StateJuggler", "often", "[I", true)
  | 12 => ("StateJuggler", "joint", "[I", true)
  | 13 => ("StateJuggler", "text", "LStateJuggler$Text;", false)
  | _ => ("StateJuggler", "spare", "LStateJuggler$Text;", false)
def tyX11 : Nat → FieldType := fun k => match k with
  | 0 => .object "StateJuggler$Reader"
  | 1 => .object "StateJuggler$Juggler"
  | 2 => .object "StateJuggler$Past"
  | 3 => .object "StateJuggler$Hearsay"
  | 4 => .object "StateJuggler$Route"
  | 5 => .object "StateJuggler$Rows"
  | 6 => .object "StateJuggler$Air"
  | 7 => .object "StateJuggler$Air"
  | 8 => .array (.object "StateJuggler$Air")
  | 9 => .array .boolean
  | 10 => .array .int
  | 11 => .array .int
  | 12 => .array .int
  | 13 => .object "StateJuggler$Text"
  | _ => .object "StateJuggler$Text"
theorem nmX11 : ∀ a, a < 15 → ∀ b, b < 15 → a ≠ b → (TX11 a).2.1 ≠ (TX11 b).2.1 := by decide +kernel
theorem tyX11_ok : ∀ k, k < 15 → parseFieldDescriptor (TX11 k).2.2.1 = some (tyX11 k) := by decide +kernel
abbrev cX11_init : ByteArray := prog_1_method_1_code
def yX11_init : MethodName := ⟨RX11, "<init>", "()V"⟩
abbrev cX11_feed : ByteArray := prog_1_method_2_code
def yX11_feed : MethodName := ⟨RX11, "feed", "(IIIII)I"⟩
abbrev cX11_back : ByteArray := prog_1_method_3_code
def yX11_back : MethodName := ⟨RX11, "back", "(I)I"⟩
abbrev cX11_read : ByteArray := prog_1_method_4_code
def yX11_read : MethodName := ⟨RX11, "read", "()I"⟩
abbrev cX11_beginAnew : ByteArray := prog_1_method_5_code
def yX11_beginAnew : MethodName := ⟨RX11, "beginAnew", "()V"⟩
abbrev cX11_place : ByteArray := prog_1_method_6_code
def yX11_place : MethodName := ⟨RX11, "place", "()I"⟩
abbrev cX11_thing : ByteArray := prog_1_method_7_code
def yX11_thing : MethodName := ⟨RX11, "thing", "(II)I"⟩
abbrev cX11_pattern : ByteArray := prog_1_method_8_code
def yX11_pattern : MethodName := ⟨RX11, "pattern", "(II)I"⟩
abbrev cX11_tells : ByteArray := prog_1_method_9_code
def yX11_tells : MethodName := ⟨RX11, "tells", "(III)I"⟩
abbrev cX11_count : ByteArray := prog_1_method_10_code
def yX11_count : MethodName := ⟨RX11, "count", "(I)I"⟩
abbrev cX11_slotsHeld : ByteArray := prog_1_method_11_code
def yX11_slotsHeld : MethodName := ⟨RX11, "slotsHeld", "()I"⟩
abbrev cX11_weightsOf : ByteArray := prog_1_method_12_code
def yX11_weightsOf : MethodName := ⟨RX11, "weightsOf", "(I)I"⟩
abbrev cX11_isHeight : ByteArray := prog_1_method_13_code
def yX11_isHeight : MethodName := ⟨RX11, "isHeight", "(I)Z"⟩
abbrev cX11_throwIn : ByteArray := prog_1_method_14_code
def yX11_throwIn : MethodName := ⟨RX11, "throwIn", "(II)Z"⟩
abbrev cX11_use : ByteArray := prog_1_method_15_code
def yX11_use : MethodName := ⟨RX11, "use", "(I)Z"⟩
abbrev cX11_set : ByteArray := prog_1_method_16_code
def yX11_set : MethodName := ⟨RX11, "set", "(I)Z"⟩
abbrev cX11_beats : ByteArray := prog_1_method_17_code
def yX11_beats : MethodName := ⟨RX11, "beats", "(I)I"⟩
abbrev cX11_undo : ByteArray := prog_1_method_18_code
def yX11_undo : MethodName := ⟨RX11, "undo", "()Z"⟩
abbrev cX11_hold : ByteArray := prog_1_method_19_code
def yX11_hold : MethodName := ⟨RX11, "hold", "(I)Z"⟩
abbrev cX11_restore : ByteArray := prog_1_method_20_code
def yX11_restore : MethodName := ⟨RX11, "restore", "(I)Z"⟩
abbrev cX11_closes : ByteArray := prog_1_method_21_code
def yX11_closes : MethodName := ⟨RX11, "closes", "(II)I"⟩
abbrev cX11_joined : ByteArray := prog_1_method_22_code
def yX11_joined : MethodName := ⟨RX11, "joined", "(III)I"⟩
abbrev cX11_closingOf : ByteArray := prog_1_method_23_code
def yX11_closingOf : MethodName := ⟨RX11, "closingOf", "([III)I"⟩
abbrev cX11_turned : ByteArray := prog_1_method_24_code
def yX11_turned : MethodName := ⟨RX11, "turned", "(II)I"⟩
abbrev cX11_span : ByteArray := prog_1_method_25_code
def yX11_span : MethodName := ⟨RX11, "span", "(I)I"⟩
abbrev cX11_orbits : ByteArray := prog_1_method_26_code
def yX11_orbits : MethodName := ⟨RX11, "orbits", "(I)I"⟩
abbrev cX11_swaps : ByteArray := prog_1_method_27_code
def yX11_swaps : MethodName := ⟨RX11, "swaps", "(I)I"⟩
abbrev cX11_ways : ByteArray := prog_1_method_28_code
def yX11_ways : MethodName := ⟨RX11, "ways", "(IIII)I"⟩
abbrev cX11_lands : ByteArray := prog_1_method_29_code
def yX11_lands : MethodName := ⟨RX11, "lands", "()I"⟩
abbrev cX11_inHand : ByteArray := prog_1_method_30_code
def yX11_inHand : MethodName := ⟨RX11, "inHand", "(I)I"⟩
abbrev cX11_findHands : ByteArray := prog_1_method_31_code
def yX11_findHands : MethodName := ⟨RX11, "findHands", "(I)V"⟩
abbrev cX11_clash : ByteArray := prog_1_method_32_code
def yX11_clash : MethodName := ⟨RX11, "clash", "()I"⟩
abbrev cX11_firstClash : ByteArray := prog_1_method_33_code
def yX11_firstClash : MethodName := ⟨RX11, "firstClash", "(I)I"⟩
abbrev cX11_gap : ByteArray := prog_1_method_34_code
def yX11_gap : MethodName := ⟨RX11, "gap", "()I"⟩
abbrev cX11_room : ByteArray := prog_1_method_35_code
def yX11_room : MethodName := ⟨RX11, "room", "(I)I"⟩
abbrev cX11_into : ByteArray := prog_1_method_36_code
def yX11_into : MethodName := ⟨RX11, "into", "(II)I"⟩
abbrev cX11_busiest : ByteArray := prog_1_method_37_code
def yX11_busiest : MethodName := ⟨RX11, "busiest", "(II)I"⟩
abbrev cX11_isSpan : ByteArray := prog_1_method_38_code
def yX11_isSpan : MethodName := ⟨RX11, "isSpan", "(I)Z"⟩
abbrev cX11_load : ByteArray := prog_1_method_39_code
def yX11_load : MethodName := ⟨RX11, "load", "(I)I"⟩
abbrev cX11_rule : ByteArray := prog_1_method_40_code
def yX11_rule : MethodName := ⟨RX11, "rule", "(I)I"⟩
abbrev cX11_order : ByteArray := prog_1_method_41_code
def yX11_order : MethodName := ⟨RX11, "order", "(I)I"⟩
abbrev cX11_handover : ByteArray := prog_1_method_42_code
def yX11_handover : MethodName := ⟨RX11, "handover", "()I"⟩
abbrev cX11_limit : ByteArray := prog_1_method_43_code
def yX11_limit : MethodName := ⟨RX11, "limit", "(I)I"⟩
abbrev cX11_down : ByteArray := prog_1_method_44_code
def yX11_down : MethodName := ⟨RX11, "down", "()I"⟩
abbrev cX11_light : ByteArray := prog_1_method_45_code
def yX11_light : MethodName := ⟨RX11, "light", "(II)I"⟩
abbrev cX11_then : ByteArray := prog_1_method_46_code
def yX11_then : MethodName := ⟨RX11, "then", "(II)I"⟩
abbrev cX11_year : ByteArray := prog_1_method_47_code
def yX11_year : MethodName := ⟨RX11, "year", "(II)I"⟩
abbrev cX11_tell : ByteArray := prog_1_method_48_code
def yX11_tell : MethodName := ⟨RX11, "tell", "(IZ)I"⟩
abbrev cX11_forget : ByteArray := prog_1_method_49_code
def yX11_forget : MethodName := ⟨RX11, "forget", "()I"⟩
abbrev cX11_glitters : ByteArray := prog_1_method_50_code
def yX11_glitters : MethodName := ⟨RX11, "glitters", "(II)I"⟩
abbrev cX11_watch : ByteArray := prog_1_method_51_code
def yX11_watch : MethodName := ⟨RX11, "watch", "(I)I"⟩
def RX12 : String := "StateJugglerModel"
def TX12 : u_T := fun k => match k with
  | 0 => ("StateJugglerModel", "thrown", "I", false)
  | 1 => ("StateJugglerModel", "tape", "[B", true)
  | 2 => ("StateJugglerModel", "taped", "I", false)
  | 3 => ("StateJugglerModel", "text", "[B", true)
  | 4 => ("StateJugglerModel", "size", "I", false)
  | 5 => ("StateJugglerModel", "tKind", "[I", true)
  | 6 => ("StateJugglerModel", "tPlace", "[I", true)
  | 7 => ("StateJugglerModel", "tValue", "[I", true)
  | 8 => ("StateJugglerModel", "tName", "[J", true)
  | 9 => ("StateJugglerModel", "keys", "[J", true)
  | 10 => ("StateJugglerModel", "tokens", "I", false)
  | 11 => ("StateJugglerModel", "t", "I", false)
  | 12 => ("StateJugglerModel", "open", "I", false)
  | 13 => ("StateJugglerModel", "fault", "I", false)
  | 14 => ("StateJugglerModel", "faultPlace", "I", false)
  | 15 => ("StateJugglerModel", "worst", "I", false)
  | 16 => ("StateJugglerModel", "worstPlace", "I", false)
  | 17 => ("StateJugglerModel", "place", "I", false)
  | 18 => ("StateJugglerModel", "live", "I", false)
  | 19 => ("StateJugglerModel", "side", "I", false)
  | 20 => ("StateJugglerModel", "names", "I", false)
  | 21 => ("StateJugglerModel", "nameOf", "[J", true)
  | 22 => ("StateJugglerModel", "things", "[I", true)
  | 23 => ("StateJugglerModel", "weightOf", "[I", true)
  | 24 => ("StateJugglerModel", "edgeOf", "[I", true)
  | 25 => ("StateJugglerModel", "landsTold", "[I", true)
  | 26 => ("StateJugglerModel", "patterns", "[I", true)
  | 27 => ("StateJugglerModel", "longOf", "[I", true)
  | 28 => ("StateJugglerModel", "heightOf", "[I", true)
  | 29 => ("StateJugglerModel", "rests", "[I", true)
  | 30 => ("StateJugglerModel", "seed", "[I", true)
  | 31 => ("StateJugglerModel", "lawFirst", "[I", true)
  | 32 => ("StateJugglerModel", "lawLast", "[I", true)
  | 33 => ("StateJugglerModel", "branches", "I", false)
  | 34 => ("StateJugglerModel", "hasTest", "[Z", true)
  | 35 => ("StateJugglerModel", "testFrom", "[I", true)
  | 36 => ("StateJugglerModel", "testMid", "[I", true)
  | 37 => ("StateJugglerModel", "testTo", "[I", true)
  | 38 => ("StateJugglerModel", "termTo", "[I", true)
  | 39 => ("StateJugglerModel", "codes", "I", false)
  | 40 => ("StateJugglerModel", "code", "[I", true)
  | 41 => ("StateJugglerModel", "codeInt", "[I", true)
  | 42 => ("StateJugglerModel", "waits", "[I", true)
  | 43 => ("StateJugglerModel", "waiting", "I", false)
  | 44 => ("StateJugglerModel", "variables", "[I", true)
  | 45 => ("StateJugglerModel", "pile", "[I", true)
  | 46 => ("StateJugglerModel", "isBroken", "Z", false)
  | 47 => ("StateJugglerModel", "now", "[I", true)
  | 48 => ("StateJugglerModel", "row", "[I", true)
  | 49 => ("StateJugglerModel", "lots", "I", false)
  | 50 => ("StateJugglerModel", "isStill", "Z", false)
  | 51 => ("StateJugglerModel", "caughtNow", "I", false)
  | 52 => ("StateJugglerModel", "twoLanded", "Z", false)
  | 53 => ("StateJugglerModel", "forceNow", "I", false)
  | 54 => ("StateJugglerModel", "undos", "I", false)
  | 55 => ("StateJugglerModel", "history", "[I", true)
  | 56 => ("StateJugglerModel", "throwsOf", "[I", true)
  | 57 => ("StateJugglerModel", "throwsMany", "I", false)
  | 58 => ("StateJugglerModel", "farOf", "[I", true)
  | 59 => ("StateJugglerModel", "oftenOf", "[I", true)
  | 60 => ("StateJugglerModel", "tolds", "I", false)
  | 61 => ("StateJugglerModel", "toldBeat", "[I", true)
  | 62 => ("StateJugglerModel", "toldHand", "[Z", true)
  | 63 => ("StateJugglerModel", "handsOf", "[I", true)
  | 64 => ("StateJugglerModel", "isHeld", "[Z", true)
  | _ => ("StateJugglerModel", "heldRows", "[I", true)
def tyX12 : Nat → FieldType := fun k => match k with
  | 0 => .int
  | 1 => .array .byte
  | 2 => .int
  | 3 => .array .byte
  | 4 => .int
  | 5 => .array .int
  | 6 => .array .int
  | 7 => .array .int
  | 8 => .array .long
  | 9 => .array .long
  | 10 => .int
  | 11 => .int
  | 12 => .int
  | 13 => .int
  | 14 => .int
  | 15 => .int
  | 16 => .int
  | 17 => .int
  | 18 => .int
  | 19 => .int
  | 20 => .int
  | 21 => .array .long
  | 22 => .array .int
  | 23 => .array .int
  | 24 => .array .int
  | 25 => .array .int
  | 26 => .array .int
  | 27 => .array .int
  | 28 => .array .int
  | 29 => .array .int
  | 30 => .array .int
  | 31 => .array .int
  | 32 => .array .int
  | 33 => .int
  | 34 => .array .boolean
  | 35 => .array .int
  | 36 => .array .int
  | 37 => .array .int
  | 38 => .array .int
  | 39 => .int
  | 40 => .array .int
  | 41 => .array .int
  | 42 => .array .int
  | 43 => .int
  | 44 => .array .int
  | 45 => .array .int
  | 46 => .boolean
  | 47 => .array .int
  | 48 => .array .int
  | 49 => .int
  | 50 => .boolean
  | 51 => .int
  | 52 => .boolean
  | 53 => .int
  | 54 => .int
  | 55 => .array .int
  | 56 => .array .int
  | 57 => .int
  | 58 => .array .int
  | 59 => .array .int
  | 60 => .int
  | 61 => .array .int
  | 62 => .array .boolean
  | 63 => .array .int
  | 64 => .array .boolean
  | _ => .array .int
theorem nmX12 : ∀ a, a < 66 → ∀ b, b < 66 → a ≠ b → (TX12 a).2.1 ≠ (TX12 b).2.1 := by decide +kernel
theorem tyX12_ok : ∀ k, k < 66 → parseFieldDescriptor (TX12 k).2.2.1 = some (tyX12 k) := by decide +kernel
abbrev cX12_init : ByteArray := prog_14_method_2_code
def yX12_init : MethodName := ⟨RX12, "<init>", "()V"⟩
abbrev cX12_feed : ByteArray := prog_14_method_3_code
def yX12_feed : MethodName := ⟨RX12, "feed", "(IIIII)I"⟩
abbrev cX12_put : ByteArray := prog_14_method_4_code
def yX12_put : MethodName := ⟨RX12, "put", "(I)V"⟩
abbrev cX12_back : ByteArray := prog_14_method_5_code
def yX12_back : MethodName := ⟨RX12, "back", "(I)I"⟩
abbrev cX12_byteAt : ByteArray := prog_14_method_6_code
def yX12_byteAt : MethodName := ⟨RX12, "byteAt", "(I)I"⟩
abbrev cX12_isDigit : ByteArray := prog_14_method_7_code
def yX12_isDigit : MethodName := ⟨RX12, "isDigit", "(I)Z"⟩
abbrev cX12_isLetter : ByteArray := prog_14_method_8_code
def yX12_isLetter : MethodName := ⟨RX12, "isLetter", "(I)Z"⟩
abbrev cX12_appends : ByteArray := prog_14_method_9_code
def yX12_appends : MethodName := ⟨RX12, "appends", "(JI)J"⟩
abbrev cX12_word : ByteArray := prog_14_method_10_code
def yX12_word : MethodName := ⟨RX12, "word", "(IIIIIII)J"⟩
abbrev cX12_token : ByteArray := prog_14_method_11_code
def yX12_token : MethodName := ⟨RX12, "token", "(IIIJ)V"⟩
abbrev cX12_cut : ByteArray := prog_14_method_12_code
def yX12_cut : MethodName := ⟨RX12, "cut", "()V"⟩
abbrev cX12_sign : ByteArray := prog_14_method_13_code
def yX12_sign : MethodName := ⟨RX12, "sign", "(III)I"⟩
abbrev cX12_is : ByteArray := prog_14_method_14_code
def yX12_is : MethodName := ⟨RX12, "is", "(I)Z"⟩
abbrev cX12_fail : ByteArray := prog_14_method_15_code
def yX12_fail : MethodName := ⟨RX12, "fail", "(I)V"⟩
abbrev cX12_wrong : ByteArray := prog_14_method_16_code
def yX12_wrong : MethodName := ⟨RX12, "wrong", "(II)V"⟩
abbrev cX12_goesOn : ByteArray := prog_14_method_17_code
def yX12_goesOn : MethodName := ⟨RX12, "goesOn", "()V"⟩
abbrev cX12_must : ByteArray := prog_14_method_18_code
def yX12_must : MethodName := ⟨RX12, "must", "(I)V"⟩
abbrev cX12_plain : ByteArray := prog_14_method_19_code
def yX12_plain : MethodName := ⟨RX12, "plain", "(I)V"⟩
abbrev cX12_read : ByteArray := prog_14_method_20_code
def yX12_read : MethodName := ⟨RX12, "read", "()I"⟩
abbrev cX12_place : ByteArray := prog_14_method_21_code
def yX12_place : MethodName := ⟨RX12, "place", "()I"⟩
abbrev cX12_roomFor : ByteArray := prog_14_method_22_code
def yX12_roomFor : MethodName := ⟨RX12, "roomFor", "(II)V"⟩
abbrev cX12_toldInt : ByteArray := prog_14_method_23_code
def yX12_toldInt : MethodName := ⟨RX12, "toldInt", "(II)I"⟩
abbrev cX12_tellOne : ByteArray := prog_14_method_24_code
def yX12_tellOne : MethodName := ⟨RX12, "tellOne", "()V"⟩
abbrev cX12_named : ByteArray := prog_14_method_25_code
def yX12_named : MethodName := ⟨RX12, "named", "()I"⟩
abbrev cX12_ends : ByteArray := prog_14_method_26_code
def yX12_ends : MethodName := ⟨RX12, "ends", "(I)V"⟩
abbrev cX12_bounded : ByteArray := prog_14_method_27_code
def yX12_bounded : MethodName := ⟨RX12, "bounded", "(II)I"⟩
abbrev cX12_tellThing : ByteArray := prog_14_method_28_code
def yX12_tellThing : MethodName := ⟨RX12, "tellThing", "()V"⟩
abbrev cX12_tellPattern : ByteArray := prog_14_method_29_code
def yX12_tellPattern : MethodName := ⟨RX12, "tellPattern", "()V"⟩
abbrev cX12_tellLaw : ByteArray := prog_14_method_30_code
def yX12_tellLaw : MethodName := ⟨RX12, "tellLaw", "(I)V"⟩
abbrev cX12_term : ByteArray := prog_14_method_31_code
def yX12_term : MethodName := ⟨RX12, "term", "()V"⟩
abbrev cX12_emit : ByteArray := prog_14_method_32_code
def yX12_emit : MethodName := ⟨RX12, "emit", "(II)V"⟩
abbrev cX12_comesOut : ByteArray := prog_14_method_33_code
def yX12_comesOut : MethodName := ⟨RX12, "comesOut", "(Z)V"⟩
abbrev cX12_expression : ByteArray := prog_14_method_34_code
def yX12_expression : MethodName := ⟨RX12, "expression", "()V"⟩
abbrev cX12_unit : ByteArray := prog_14_method_35_code
def yX12_unit : MethodName := ⟨RX12, "unit", "()V"⟩
abbrev cX12_termOf : ByteArray := prog_14_method_36_code
def yX12_termOf : MethodName := ⟨RX12, "termOf", "(II)I"⟩
abbrev cX12_in : ByteArray := prog_14_method_37_code
def yX12_in : MethodName := ⟨RX12, "in", "(III)Z"⟩
abbrev cX12_held : ByteArray := prog_14_method_38_code
def yX12_held : MethodName := ⟨RX12, "held", "(III)I"⟩
abbrev cX12_bits : ByteArray := prog_14_method_39_code
def yX12_bits : MethodName := ⟨RX12, "bits", "(I)I"⟩
abbrev cX12_isThing : ByteArray := prog_14_method_40_code
def yX12_isThing : MethodName := ⟨RX12, "isThing", "(I)Z"⟩
abbrev cX12_isPattern : ByteArray := prog_14_method_41_code
def yX12_isPattern : MethodName := ⟨RX12, "isPattern", "(I)Z"⟩
abbrev cX12_begins : ByteArray := prog_14_method_42_code
def yX12_begins : MethodName := ⟨RX12, "begins", "()V"⟩
abbrev cX12_keepsRow : ByteArray := prog_14_method_43_code
def yX12_keepsRow : MethodName := ⟨RX12, "keepsRow", "()V"⟩
abbrev cX12_copies : ByteArray := prog_14_method_44_code
def yX12_copies : MethodName := ⟨RX12, "copies", "()V"⟩
abbrev cX12_copiesStill : ByteArray := prog_14_method_45_code
def yX12_copiesStill : MethodName := ⟨RX12, "copiesStill", "()V"⟩
abbrev cX12_mixed : ByteArray := prog_14_method_46_code
def yX12_mixed : MethodName := ⟨RX12, "mixed", "(II)I"⟩
abbrev cX12_lotNow : ByteArray := prog_14_method_47_code
def yX12_lotNow : MethodName := ⟨RX12, "lotNow", "()I"⟩
abbrev cX12_lengthOf : ByteArray := prog_14_method_48_code
def yX12_lengthOf : MethodName := ⟨RX12, "lengthOf", "(I)I"⟩
abbrev cX12_heightAt : ByteArray := prog_14_method_49_code
def yX12_heightAt : MethodName := ⟨RX12, "heightAt", "(II)I"⟩
abbrev cX12_heightNow : ByteArray := prog_14_method_50_code
def yX12_heightNow : MethodName := ⟨RX12, "heightNow", "()I"⟩
abbrev cX12_thingsSo : ByteArray := prog_14_method_51_code
def yX12_thingsSo : MethodName := ⟨RX12, "thingsSo", "(I)I"⟩
abbrev cX12_doesLand : ByteArray := prog_14_method_52_code
def yX12_doesLand : MethodName := ⟨RX12, "doesLand", "(II)Z"⟩
abbrev cX12_landsAt : ByteArray := prog_14_method_53_code
def yX12_landsAt : MethodName := ⟨RX12, "landsAt", "(I)I"⟩
abbrev cX12_catchesNow : ByteArray := prog_14_method_54_code
def yX12_catchesNow : MethodName := ⟨RX12, "catchesNow", "()I"⟩
abbrev cX12_looksAt : ByteArray := prog_14_method_55_code
def yX12_looksAt : MethodName := ⟨RX12, "looksAt", "(III)V"⟩
abbrev cX12_lawTells : ByteArray := prog_14_method_56_code
def yX12_lawTells : MethodName := ⟨RX12, "lawTells", "(II)I"⟩
abbrev cX12_tiresBy : ByteArray := prog_14_method_57_code
def yX12_tiresBy : MethodName := ⟨RX12, "tiresBy", "(III)I"⟩
abbrev cX12_dropsBy : ByteArray := prog_14_method_58_code
def yX12_dropsBy : MethodName := ⟨RX12, "dropsBy", "(III)I"⟩
abbrev cX12_forceOf : ByteArray := prog_14_method_59_code
def yX12_forceOf : MethodName := ⟨RX12, "forceOf", "(II)I"⟩
abbrev cX12_paysOf : ByteArray := prog_14_method_60_code
def yX12_paysOf : MethodName := ⟨RX12, "paysOf", "(II)I"⟩
abbrev cX12_dropsOthers : ByteArray := prog_14_method_61_code
def yX12_dropsOthers : MethodName := ⟨RX12, "dropsOthers", "()V"⟩
abbrev cX12_isThrown : ByteArray := prog_14_method_62_code
def yX12_isThrown : MethodName := ⟨RX12, "isThrown", "(IIII)V"⟩
abbrev cX12_catches : ByteArray := prog_14_method_63_code
def yX12_catches : MethodName := ⟨RX12, "catches", "(I)V"⟩
abbrev cX12_beatGoes : ByteArray := prog_14_method_64_code
def yX12_beatGoes : MethodName := ⟨RX12, "beatGoes", "()V"⟩
abbrev cX12_goes : ByteArray := prog_14_method_65_code
def yX12_goes : MethodName := ⟨RX12, "goes", "(I)V"⟩
abbrev cX12_thing : ByteArray := prog_14_method_66_code
def yX12_thing : MethodName := ⟨RX12, "thing", "(II)I"⟩
abbrev cX12_pattern : ByteArray := prog_14_method_67_code
def yX12_pattern : MethodName := ⟨RX12, "pattern", "(II)I"⟩
abbrev cX12_tells : ByteArray := prog_14_method_68_code
def yX12_tells : MethodName := ⟨RX12, "tells", "(III)I"⟩
abbrev cX12_records : ByteArray := prog_14_method_69_code
def yX12_records : MethodName := ⟨RX12, "records", "()V"⟩
abbrev cX12_throwIn : ByteArray := prog_14_method_70_code
def yX12_throwIn : MethodName := ⟨RX12, "throwIn", "(II)Z"⟩
abbrev cX12_uses : ByteArray := prog_14_method_71_code
def yX12_uses : MethodName := ⟨RX12, "uses", "(I)V"⟩
abbrev cX12_use : ByteArray := prog_14_method_72_code
def yX12_use : MethodName := ⟨RX12, "use", "(I)Z"⟩
abbrev cX12_set : ByteArray := prog_14_method_73_code
def yX12_set : MethodName := ⟨RX12, "set", "(I)Z"⟩
abbrev cX12_beats : ByteArray := prog_14_method_74_code
def yX12_beats : MethodName := ⟨RX12, "beats", "(I)I"⟩
abbrev cX12_undo : ByteArray := prog_14_method_75_code
def yX12_undo : MethodName := ⟨RX12, "undo", "()Z"⟩
abbrev cX12_takesPattern : ByteArray := prog_14_method_76_code
def yX12_takesPattern : MethodName := ⟨RX12, "takesPattern", "(II)V"⟩
abbrev cX12_keeps : ByteArray := prog_14_method_77_code
def yX12_keeps : MethodName := ⟨RX12, "keeps", "()I"⟩
abbrev cX12_keepsOf : ByteArray := prog_14_method_78_code
def yX12_keepsOf : MethodName := ⟨RX12, "keepsOf", "(I)I"⟩
abbrev cX12_told : ByteArray := prog_14_method_79_code
def yX12_told : MethodName := ⟨RX12, "told", "(II)I"⟩
abbrev cX12_closes : ByteArray := prog_14_method_80_code
def yX12_closes : MethodName := ⟨RX12, "closes", "(II)I"⟩
abbrev cX12_joined : ByteArray := prog_14_method_81_code
def yX12_joined : MethodName := ⟨RX12, "joined", "(III)I"⟩
abbrev cX12_isTurned : ByteArray := prog_14_method_82_code
def yX12_isTurned : MethodName := ⟨RX12, "isTurned", "(III)Z"⟩
abbrev cX12_turned : ByteArray := prog_14_method_83_code
def yX12_turned : MethodName := ⟨RX12, "turned", "(II)I"⟩
abbrev cX12_span : ByteArray := prog_14_method_84_code
def yX12_span : MethodName := ⟨RX12, "span", "(I)I"⟩
abbrev cX12_orbits : ByteArray := prog_14_method_85_code
def yX12_orbits : MethodName := ⟨RX12, "orbits", "(I)I"⟩
abbrev cX12_swaps : ByteArray := prog_14_method_86_code
def yX12_swaps : MethodName := ⟨RX12, "swaps", "(I)I"⟩
abbrev cX12_lands : ByteArray := prog_14_method_87_code
def yX12_lands : MethodName := ⟨RX12, "lands", "()I"⟩
abbrev cX12_inHand : ByteArray := prog_14_method_88_code
def yX12_inHand : MethodName := ⟨RX12, "inHand", "(I)I"⟩
abbrev cX12_clash : ByteArray := prog_14_method_89_code
def yX12_clash : MethodName := ⟨RX12, "clash", "()I"⟩
abbrev cX12_aimOf : ByteArray := prog_14_method_90_code
def yX12_aimOf : MethodName := ⟨RX12, "aimOf", "(I)I"⟩
abbrev cX12_nextOf : ByteArray := prog_14_method_91_code
def yX12_nextOf : MethodName := ⟨RX12, "nextOf", "(II)I"⟩
abbrev cX12_fillsFar : ByteArray := prog_14_method_92_code
def yX12_fillsFar : MethodName := ⟨RX12, "fillsFar", "(I)V"⟩
abbrev cX12_firstOf : ByteArray := prog_14_method_93_code
def yX12_firstOf : MethodName := ⟨RX12, "firstOf", "(I)I"⟩
abbrev cX12_areTwoSoon : ByteArray := prog_14_method_94_code
def yX12_areTwoSoon : MethodName := ⟨RX12, "areTwoSoon", "()Z"⟩
abbrev cX12_into : ByteArray := prog_14_method_95_code
def yX12_into : MethodName := ⟨RX12, "into", "(II)I"⟩
abbrev cX12_hasRoom : ByteArray := prog_14_method_96_code
def yX12_hasRoom : MethodName := ⟨RX12, "hasRoom", "(II)Z"⟩
abbrev cX12_room : ByteArray := prog_14_method_97_code
def yX12_room : MethodName := ⟨RX12, "room", "(I)I"⟩
abbrev cX12_handover : ByteArray := prog_14_method_98_code
def yX12_handover : MethodName := ⟨RX12, "handover", "()I"⟩
abbrev cX12_limit : ByteArray := prog_14_method_99_code
def yX12_limit : MethodName := ⟨RX12, "limit", "(I)I"⟩
abbrev cX12_isSome : ByteArray := prog_14_method_100_code
def yX12_isSome : MethodName := ⟨RX12, "isSome", "(I)Z"⟩
abbrev cX12_isLong : ByteArray := prog_14_method_101_code
def yX12_isLong : MethodName := ⟨RX12, "isLong", "(I)Z"⟩
abbrev cX12_busiest : ByteArray := prog_14_method_102_code
def yX12_busiest : MethodName := ⟨RX12, "busiest", "(II)I"⟩
abbrev cX12_load : ByteArray := prog_14_method_103_code
def yX12_load : MethodName := ⟨RX12, "load", "(I)I"⟩
abbrev cX12_gap : ByteArray := prog_14_method_104_code
def yX12_gap : MethodName := ⟨RX12, "gap", "()I"⟩
abbrev cX12_order : ByteArray := prog_14_method_105_code
def yX12_order : MethodName := ⟨RX12, "order", "(I)I"⟩
abbrev cX12_ways : ByteArray := prog_14_method_106_code
def yX12_ways : MethodName := ⟨RX12, "ways", "(IIII)I"⟩
abbrev cX12_light : ByteArray := prog_14_method_107_code
def yX12_light : MethodName := ⟨RX12, "light", "(II)I"⟩
abbrev cX12_rule : ByteArray := prog_14_method_108_code
def yX12_rule : MethodName := ⟨RX12, "rule", "(I)I"⟩
abbrev cX12_down : ByteArray := prog_14_method_109_code
def yX12_down : MethodName := ⟨RX12, "down", "()I"⟩
abbrev cX12_then : ByteArray := prog_14_method_110_code
def yX12_then : MethodName := ⟨RX12, "then", "(II)I"⟩
abbrev cX12_year : ByteArray := prog_14_method_111_code
def yX12_year : MethodName := ⟨RX12, "year", "(II)I"⟩
abbrev cX12_tell : ByteArray := prog_14_method_112_code
def yX12_tell : MethodName := ⟨RX12, "tell", "(IZ)I"⟩
abbrev cX12_forget : ByteArray := prog_14_method_113_code
def yX12_forget : MethodName := ⟨RX12, "forget", "()I"⟩
abbrev cX12_glitterBits : ByteArray := prog_14_method_114_code
def yX12_glitterBits : MethodName := ⟨RX12, "glitterBits", "(I)I"⟩
abbrev cX12_glitters : ByteArray := prog_14_method_115_code
def yX12_glitters : MethodName := ⟨RX12, "glitters", "(II)I"⟩
abbrev cX12_watch : ByteArray := prog_14_method_116_code
def yX12_watch : MethodName := ⟨RX12, "watch", "(I)I"⟩
abbrev cX12_hold : ByteArray := prog_14_method_117_code
def yX12_hold : MethodName := ⟨RX12, "hold", "(I)Z"⟩
abbrev cX12_restore : ByteArray := prog_14_method_118_code
def yX12_restore : MethodName := ⟨RX12, "restore", "(I)Z"⟩
abbrev cX12_weightsOf : ByteArray := prog_14_method_119_code
def yX12_weightsOf : MethodName := ⟨RX12, "weightsOf", "(I)I"⟩
abbrev cX12_count : ByteArray := prog_14_method_120_code
def yX12_count : MethodName := ⟨RX12, "count", "(I)I"⟩
def RJ6 : String := "java/lang/Integer"
abbrev cJ6_bitCount_0f7a4 : ByteArray := prog_16_method_49_code
def yJ6_bitCount_0f7a4 : MethodName := ⟨RJ6, "bitCount", "(I)I"⟩
def RJ9 : String := "java/lang/Math"
abbrev cJ9_floorMod_7cf53 : ByteArray := prog_17_method_50_code
def yJ9_floorMod_7cf53 : MethodName := ⟨RJ9, "floorMod", "(II)I"⟩
def RJ0 : String := "java/lang/String"
abbrev cJ0_length_8abf5 : ByteArray := prog_18_method_54_code
def yJ0_length_8abf5 : MethodName := ⟨RJ0, "length", "()I"⟩
abbrev cJ0_charAt_5068e : ByteArray := prog_18_method_56_code
def yJ0_charAt_5068e : MethodName := ⟨RJ0, "charAt", "(I)C"⟩
abbrev cJ0_indexOf_0f7a4 : ByteArray := prog_18_method_79_code
def yJ0_indexOf_0f7a4 : MethodName := ⟨RJ0, "indexOf", "(I)I"⟩
abbrev cJ0_indexOf_7cf53 : ByteArray := prog_18_method_80_code
def yJ0_indexOf_7cf53 : MethodName := ⟨RJ0, "indexOf", "(II)I"⟩
abbrev cJ0_coder_7d493 : ByteArray := prog_18_method_152_code
def yJ0_coder_7d493 : MethodName := ⟨RJ0, "coder", "()B"⟩
abbrev cJ0_isLatin1_aae02 : ByteArray := prog_18_method_154_code
def yJ0_isLatin1_aae02 : MethodName := ⟨RJ0, "isLatin1", "()Z"⟩
abbrev cJ0_checkIndex_df160 : ByteArray := prog_18_method_155_code
def yJ0_checkIndex_df160 : MethodName := ⟨RJ0, "checkIndex", "(II)V"⟩
def RJ1 : String := "java/lang/StringLatin1"
abbrev cJ1_charAt_3b067 : ByteArray := prog_19_method_2_code
def yJ1_charAt_3b067 : MethodName := ⟨RJ1, "charAt", "([BI)C"⟩
abbrev cJ1_canEncode_9a6ad : ByteArray := prog_19_method_4_code
def yJ1_canEncode_9a6ad : MethodName := ⟨RJ1, "canEncode", "(I)Z"⟩
abbrev cJ1_indexOf_4cfef : ByteArray := prog_19_method_22_code
def yJ1_indexOf_4cfef : MethodName := ⟨RJ1, "indexOf", "([BIII)I"⟩
abbrev cJ1_indexOfChar_4cfef : ByteArray := prog_19_method_23_code
def yJ1_indexOfChar_4cfef : MethodName := ⟨RJ1, "indexOfChar", "([BIII)I"⟩
def RJ7 : String := "java/util/Arrays"
abbrev cJ7_fill_53178 : ByteArray := prog_22_method_103_code
def yJ7_fill_53178 : MethodName := ⟨RJ7, "fill", "([II)V"⟩
def RJ3 : String := "jdk/internal/util/Preconditions"
abbrev cJ3_checkIndex_8e157 : ByteArray := prog_23_method_11_code
def yJ3_checkIndex_8e157 : MethodName := ⟨RJ3, "checkIndex", "(IILjava/util/function/BiFunction;)I"⟩
def RL : String := "StateJugglerLaw"
abbrev vwCl : List vw_C := [(RX0, TX0, 12), (RX1, TX1, 4), (RX2, TX2, 3), (RX4, TX4, 1), (RX5, TX5, 3), (RX6, TX6, 10), (RX7, TX7, 6), (RX8, TX8, 5), (RX9, TX9, 6), (RX10, TX10, 12), (RX11, TX11, 15), (RX12, TX12, 66)]


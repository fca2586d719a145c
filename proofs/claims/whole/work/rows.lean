section
-- ===== PART A: goes FIRST, ahead of the names: the tables' words, and 'selects' of the private methods out of them =====
/-- a private method of a class that the tables say can be made, by its rows of tables_1 -/
def lw_okq (q : MethodName × Nat) : Prop := (q.1.cls ≠ "java/lang/invoke/MethodHandle" ∧ q.1.cls ≠ "java/lang/invoke/VarHandle") ∧ Cond.instantiable q.1.cls q.2 ∈ tables_1 ∧ Cond.privateMethod q.1 ∈ tables_1 ∧ Cond.instanceMethod q.1 ∈ tables_1
theorem lw_p0 : lw_okq (⟨"WornWeights$World", "draw", "()I"⟩, 12) := ⟨⟨by decide +kernel, by decide +kernel⟩, List.mem_of_getElem? (i := 29) (by decide +kernel), List.mem_of_getElem? (i := 369) (by decide +kernel), List.mem_of_getElem? (i := 370) (by decide +kernel)⟩
theorem lw_p1 : lw_okq (⟨"WornWeights", "sayOrRefuse", "(III)I"⟩, 10) := ⟨⟨by decide +kernel, by decide +kernel⟩, List.mem_of_getElem? (i := 21) (by decide +kernel), List.mem_of_getElem? (i := 383) (by decide +kernel), List.mem_of_getElem? (i := 384) (by decide +kernel)⟩
theorem lw_p2 : lw_okq (⟨"WornWeights$Reader", "goOn", "()V"⟩, 9) := ⟨⟨by decide +kernel, by decide +kernel⟩, List.mem_of_getElem? (i := 127) (by decide +kernel), List.mem_of_getElem? (i := 591) (by decide +kernel), List.mem_of_getElem? (i := 592) (by decide +kernel)⟩
theorem lw_p3 : lw_okq (⟨"WornWeights$Reader", "endOfRow", "(III)I"⟩, 9) := ⟨⟨by decide +kernel, by decide +kernel⟩, List.mem_of_getElem? (i := 127) (by decide +kernel), List.mem_of_getElem? (i := 595) (by decide +kernel), List.mem_of_getElem? (i := 596) (by decide +kernel)⟩
theorem lw_p4 : lw_okq (⟨"WornWeights$Reader", "readKey", "()V"⟩, 9) := ⟨⟨by decide +kernel, by decide +kernel⟩, List.mem_of_getElem? (i := 127) (by decide +kernel), List.mem_of_getElem? (i := 604) (by decide +kernel), List.mem_of_getElem? (i := 605) (by decide +kernel)⟩
theorem lw_p5 : lw_okq (⟨"WornWeights$Reader", "isWord", "(Ljava/lang/String;)Z"⟩, 9) := ⟨⟨by decide +kernel, by decide +kernel⟩, List.mem_of_getElem? (i := 127) (by decide +kernel), List.mem_of_getElem? (i := 609) (by decide +kernel), List.mem_of_getElem? (i := 610) (by decide +kernel)⟩
theorem lw_p6 : lw_okq (⟨"WornWeights$Reader", "stop", "()V"⟩, 9) := ⟨⟨by decide +kernel, by decide +kernel⟩, List.mem_of_getElem? (i := 127) (by decide +kernel), List.mem_of_getElem? (i := 663) (by decide +kernel), List.mem_of_getElem? (i := 664) (by decide +kernel)⟩
theorem lw_p7 : lw_okq (⟨"WornWeights$Reader", "readLevel", "(III)V"⟩, 9) := ⟨⟨by decide +kernel, by decide +kernel⟩, List.mem_of_getElem? (i := 127) (by decide +kernel), List.mem_of_getElem? (i := 667) (by decide +kernel), List.mem_of_getElem? (i := 668) (by decide +kernel)⟩
theorem lw_p8 : lw_okq (⟨"WornWeights$Reader", "readPiece", "(II)V"⟩, 9) := ⟨⟨by decide +kernel, by decide +kernel⟩, List.mem_of_getElem? (i := 127) (by decide +kernel), List.mem_of_getElem? (i := 671) (by decide +kernel), List.mem_of_getElem? (i := 672) (by decide +kernel)⟩
theorem lw_p9 : lw_okq (⟨"WornWeights$Reader", "numberAhead", "()I"⟩, 9) := ⟨⟨by decide +kernel, by decide +kernel⟩, List.mem_of_getElem? (i := 127) (by decide +kernel), List.mem_of_getElem? (i := 675) (by decide +kernel), List.mem_of_getElem? (i := 676) (by decide +kernel)⟩
theorem lw_p10 : lw_okq (⟨"WornWeights$Reader", "addPiece", "(I)V"⟩, 9) := ⟨⟨by decide +kernel, by decide +kernel⟩, List.mem_of_getElem? (i := 127) (by decide +kernel), List.mem_of_getElem? (i := 679) (by decide +kernel), List.mem_of_getElem? (i := 680) (by decide +kernel)⟩
theorem lw_p11 : lw_okq (⟨"WornWeights$Reader", "addStep", "(I)V"⟩, 9) := ⟨⟨by decide +kernel, by decide +kernel⟩, List.mem_of_getElem? (i := 127) (by decide +kernel), List.mem_of_getElem? (i := 683) (by decide +kernel), List.mem_of_getElem? (i := 684) (by decide +kernel)⟩
theorem lw_p12 : lw_okq (⟨"WornWeights$Reader", "nameAhead", "()I"⟩, 9) := ⟨⟨by decide +kernel, by decide +kernel⟩, List.mem_of_getElem? (i := 127) (by decide +kernel), List.mem_of_getElem? (i := 687) (by decide +kernel), List.mem_of_getElem? (i := 688) (by decide +kernel)⟩
theorem lw_p13 : lw_okq (⟨"WornWeights$Reader", "readClose", "()V"⟩, 9) := ⟨⟨by decide +kernel, by decide +kernel⟩, List.mem_of_getElem? (i := 127) (by decide +kernel), List.mem_of_getElem? (i := 749) (by decide +kernel), List.mem_of_getElem? (i := 750) (by decide +kernel)⟩
theorem lw_p14 : lw_okq (⟨"WornWeights", "sheetAt", "(I)LWornWeights$Sheet;"⟩, 10) := ⟨⟨by decide +kernel, by decide +kernel⟩, List.mem_of_getElem? (i := 21) (by decide +kernel), List.mem_of_getElem? (i := 818) (by decide +kernel), List.mem_of_getElem? (i := 819) (by decide +kernel)⟩
theorem lw_p15 : lw_okq (⟨"WornWeights", "slotAt", "(I)LWornWeights$Slot;"⟩, 10) := ⟨⟨by decide +kernel, by decide +kernel⟩, List.mem_of_getElem? (i := 21) (by decide +kernel), List.mem_of_getElem? (i := 874) (by decide +kernel), List.mem_of_getElem? (i := 875) (by decide +kernel)⟩
def lw_privs_1 : List (MethodName × Nat) := [(⟨"WornWeights$World", "draw", "()I"⟩, 12), (⟨"WornWeights", "sayOrRefuse", "(III)I"⟩, 10), (⟨"WornWeights$Reader", "goOn", "()V"⟩, 9), (⟨"WornWeights$Reader", "endOfRow", "(III)I"⟩, 9), (⟨"WornWeights$Reader", "readKey", "()V"⟩, 9), (⟨"WornWeights$Reader", "isWord", "(Ljava/lang/String;)Z"⟩, 9), (⟨"WornWeights$Reader", "stop", "()V"⟩, 9), (⟨"WornWeights$Reader", "readLevel", "(III)V"⟩, 9), (⟨"WornWeights$Reader", "readPiece", "(II)V"⟩, 9), (⟨"WornWeights$Reader", "numberAhead", "()I"⟩, 9), (⟨"WornWeights$Reader", "addPiece", "(I)V"⟩, 9), (⟨"WornWeights$Reader", "addStep", "(I)V"⟩, 9), (⟨"WornWeights$Reader", "nameAhead", "()I"⟩, 9), (⟨"WornWeights$Reader", "readClose", "()V"⟩, 9), (⟨"WornWeights", "sheetAt", "(I)LWornWeights$Sheet;"⟩, 10), (⟨"WornWeights", "slotAt", "(I)LWornWeights$Slot;"⟩, 10)]
theorem lw_r1 : ∀ q ∈ lw_privs_1, lw_okq q := List.forall_mem_cons.mpr ⟨lw_p0, List.forall_mem_cons.mpr ⟨lw_p1, List.forall_mem_cons.mpr ⟨lw_p2, List.forall_mem_cons.mpr ⟨lw_p3, List.forall_mem_cons.mpr ⟨lw_p4, List.forall_mem_cons.mpr ⟨lw_p5, List.forall_mem_cons.mpr ⟨lw_p6, List.forall_mem_cons.mpr ⟨lw_p7, List.forall_mem_cons.mpr ⟨lw_p8, List.forall_mem_cons.mpr ⟨lw_p9, List.forall_mem_cons.mpr ⟨lw_p10, List.forall_mem_cons.mpr ⟨lw_p11, List.forall_mem_cons.mpr ⟨lw_p12, List.forall_mem_cons.mpr ⟨lw_p13, List.forall_mem_cons.mpr ⟨lw_p14, List.forall_mem_cons.mpr ⟨lw_p15, fun _ h => absurd h List.not_mem_nil⟩⟩⟩⟩⟩⟩⟩⟩⟩⟩⟩⟩⟩⟩⟩⟩
theorem lw_p16 : lw_okq (⟨"WornWeights", "stands", "(III)Z"⟩, 10) := ⟨⟨by decide +kernel, by decide +kernel⟩, List.mem_of_getElem? (i := 21) (by decide +kernel), List.mem_of_getElem? (i := 913) (by decide +kernel), List.mem_of_getElem? (i := 914) (by decide +kernel)⟩
theorem lw_p17 : lw_okq (⟨"WornWeightsModel", "comes", "(II)V"⟩, 30) := ⟨⟨by decide +kernel, by decide +kernel⟩, List.mem_of_getElem? (i := 929) (by decide +kernel), List.mem_of_getElem? (i := 1037) (by decide +kernel), List.mem_of_getElem? (i := 1038) (by decide +kernel)⟩
theorem lw_p18 : lw_okq (⟨"WornWeightsModel", "sets", "(III)V"⟩, 30) := ⟨⟨by decide +kernel, by decide +kernel⟩, List.mem_of_getElem? (i := 929) (by decide +kernel), List.mem_of_getElem? (i := 1041) (by decide +kernel), List.mem_of_getElem? (i := 1042) (by decide +kernel)⟩
theorem lw_p19 : lw_okq (⟨"WornWeightsModel", "isWeight", "(I)Z"⟩, 30) := ⟨⟨by decide +kernel, by decide +kernel⟩, List.mem_of_getElem? (i := 929) (by decide +kernel), List.mem_of_getElem? (i := 1049) (by decide +kernel), List.mem_of_getElem? (i := 1050) (by decide +kernel)⟩
theorem lw_p20 : lw_okq (⟨"WornWeightsModel", "of", "(II)I"⟩, 30) := ⟨⟨by decide +kernel, by decide +kernel⟩, List.mem_of_getElem? (i := 929) (by decide +kernel), List.mem_of_getElem? (i := 1053) (by decide +kernel), List.mem_of_getElem? (i := 1054) (by decide +kernel)⟩
theorem lw_p21 : lw_okq (⟨"WornWeightsModel", "loses", "(I)I"⟩, 30) := ⟨⟨by decide +kernel, by decide +kernel⟩, List.mem_of_getElem? (i := 929) (by decide +kernel), List.mem_of_getElem? (i := 1057) (by decide +kernel), List.mem_of_getElem? (i := 1058) (by decide +kernel)⟩
theorem lw_p22 : lw_okq (⟨"WornWeightsModel", "losesIf", "(III)I"⟩, 30) := ⟨⟨by decide +kernel, by decide +kernel⟩, List.mem_of_getElem? (i := 929) (by decide +kernel), List.mem_of_getElem? (i := 1061) (by decide +kernel), List.mem_of_getElem? (i := 1062) (by decide +kernel)⟩
theorem lw_p23 : lw_okq (⟨"WornWeightsModel", "counts", "(I)I"⟩, 30) := ⟨⟨by decide +kernel, by decide +kernel⟩, List.mem_of_getElem? (i := 929) (by decide +kernel), List.mem_of_getElem? (i := 1065) (by decide +kernel), List.mem_of_getElem? (i := 1066) (by decide +kernel)⟩
theorem lw_p24 : lw_okq (⟨"WornWeightsModel", "textAt", "(I)I"⟩, 30) := ⟨⟨by decide +kernel, by decide +kernel⟩, List.mem_of_getElem? (i := 929) (by decide +kernel), List.mem_of_getElem? (i := 1069) (by decide +kernel), List.mem_of_getElem? (i := 1070) (by decide +kernel)⟩
theorem lw_p25 : lw_okq (⟨"WornWeightsModel", "worked", "(I)I"⟩, 30) := ⟨⟨by decide +kernel, by decide +kernel⟩, List.mem_of_getElem? (i := 929) (by decide +kernel), List.mem_of_getElem? (i := 1073) (by decide +kernel), List.mem_of_getElem? (i := 1074) (by decide +kernel)⟩
theorem lw_p26 : lw_okq (⟨"WornWeightsModel", "losesAtFall", "(I)I"⟩, 30) := ⟨⟨by decide +kernel, by decide +kernel⟩, List.mem_of_getElem? (i := 929) (by decide +kernel), List.mem_of_getElem? (i := 1083) (by decide +kernel), List.mem_of_getElem? (i := 1084) (by decide +kernel)⟩
theorem lw_p27 : lw_okq (⟨"WornWeightsModel", "worth", "(I)I"⟩, 30) := ⟨⟨by decide +kernel, by decide +kernel⟩, List.mem_of_getElem? (i := 929) (by decide +kernel), List.mem_of_getElem? (i := 1087) (by decide +kernel), List.mem_of_getElem? (i := 1088) (by decide +kernel)⟩
theorem lw_p28 : lw_okq (⟨"WornWeightsModel", "becomes", "(II)I"⟩, 30) := ⟨⟨by decide +kernel, by decide +kernel⟩, List.mem_of_getElem? (i := 929) (by decide +kernel), List.mem_of_getElem? (i := 1103) (by decide +kernel), List.mem_of_getElem? (i := 1104) (by decide +kernel)⟩
theorem lw_p29 : lw_okq (⟨"WornWeightsModel", "drawn", "()I"⟩, 30) := ⟨⟨by decide +kernel, by decide +kernel⟩, List.mem_of_getElem? (i := 929) (by decide +kernel), List.mem_of_getElem? (i := 1125) (by decide +kernel), List.mem_of_getElem? (i := 1126) (by decide +kernel)⟩
theorem lw_p30 : lw_okq (⟨"WornWeightsModel", "mayWeigh", "(III)I"⟩, 30) := ⟨⟨by decide +kernel, by decide +kernel⟩, List.mem_of_getElem? (i := 929) (by decide +kernel), List.mem_of_getElem? (i := 1138) (by decide +kernel), List.mem_of_getElem? (i := 1139) (by decide +kernel)⟩
theorem lw_p31 : lw_okq (⟨"WornWeightsModel", "isSet", "(I)Z"⟩, 30) := ⟨⟨by decide +kernel, by decide +kernel⟩, List.mem_of_getElem? (i := 929) (by decide +kernel), List.mem_of_getElem? (i := 1142) (by decide +kernel), List.mem_of_getElem? (i := 1143) (by decide +kernel)⟩
def lw_privs_2 : List (MethodName × Nat) := [(⟨"WornWeights", "stands", "(III)Z"⟩, 10), (⟨"WornWeightsModel", "comes", "(II)V"⟩, 30), (⟨"WornWeightsModel", "sets", "(III)V"⟩, 30), (⟨"WornWeightsModel", "isWeight", "(I)Z"⟩, 30), (⟨"WornWeightsModel", "of", "(II)I"⟩, 30), (⟨"WornWeightsModel", "loses", "(I)I"⟩, 30), (⟨"WornWeightsModel", "losesIf", "(III)I"⟩, 30), (⟨"WornWeightsModel", "counts", "(I)I"⟩, 30), (⟨"WornWeightsModel", "textAt", "(I)I"⟩, 30), (⟨"WornWeightsModel", "worked", "(I)I"⟩, 30), (⟨"WornWeightsModel", "losesAtFall", "(I)I"⟩, 30), (⟨"WornWeightsModel", "worth", "(I)I"⟩, 30), (⟨"WornWeightsModel", "becomes", "(II)I"⟩, 30), (⟨"WornWeightsModel", "drawn", "()I"⟩, 30), (⟨"WornWeightsModel", "mayWeigh", "(III)I"⟩, 30), (⟨"WornWeightsModel", "isSet", "(I)Z"⟩, 30)]
theorem lw_r2 : ∀ q ∈ lw_privs_2, lw_okq q := List.forall_mem_cons.mpr ⟨lw_p16, List.forall_mem_cons.mpr ⟨lw_p17, List.forall_mem_cons.mpr ⟨lw_p18, List.forall_mem_cons.mpr ⟨lw_p19, List.forall_mem_cons.mpr ⟨lw_p20, List.forall_mem_cons.mpr ⟨lw_p21, List.forall_mem_cons.mpr ⟨lw_p22, List.forall_mem_cons.mpr ⟨lw_p23, List.forall_mem_cons.mpr ⟨lw_p24, List.forall_mem_cons.mpr ⟨lw_p25, List.forall_mem_cons.mpr ⟨lw_p26, List.forall_mem_cons.mpr ⟨lw_p27, List.forall_mem_cons.mpr ⟨lw_p28, List.forall_mem_cons.mpr ⟨lw_p29, List.forall_mem_cons.mpr ⟨lw_p30, List.forall_mem_cons.mpr ⟨lw_p31, fun _ h => absurd h List.not_mem_nil⟩⟩⟩⟩⟩⟩⟩⟩⟩⟩⟩⟩⟩⟩⟩⟩
theorem lw_p32 : lw_okq (⟨"WornWeightsModel", "saysBy", "(IIII)I"⟩, 30) := ⟨⟨by decide +kernel, by decide +kernel⟩, List.mem_of_getElem? (i := 929) (by decide +kernel), List.mem_of_getElem? (i := 1147) (by decide +kernel), List.mem_of_getElem? (i := 1148) (by decide +kernel)⟩
theorem lw_p33 : lw_okq (⟨"WornWeightsModel", "sumOf", "(II)I"⟩, 30) := ⟨⟨by decide +kernel, by decide +kernel⟩, List.mem_of_getElem? (i := 929) (by decide +kernel), List.mem_of_getElem? (i := 1151) (by decide +kernel), List.mem_of_getElem? (i := 1152) (by decide +kernel)⟩
theorem lw_p34 : lw_okq (⟨"WornWeightsModel", "writes", "(IIIII)V"⟩, 30) := ⟨⟨by decide +kernel, by decide +kernel⟩, List.mem_of_getElem? (i := 929) (by decide +kernel), List.mem_of_getElem? (i := 1160) (by decide +kernel), List.mem_of_getElem? (i := 1161) (by decide +kernel)⟩
theorem lw_p35 : lw_okq (⟨"WornWeightsModel", "falls", "(I)I"⟩, 30) := ⟨⟨by decide +kernel, by decide +kernel⟩, List.mem_of_getElem? (i := 929) (by decide +kernel), List.mem_of_getElem? (i := 1168) (by decide +kernel), List.mem_of_getElem? (i := 1169) (by decide +kernel)⟩
theorem lw_p36 : lw_okq (⟨"WornWeightsModel", "takes", "(II)I"⟩, 30) := ⟨⟨by decide +kernel, by decide +kernel⟩, List.mem_of_getElem? (i := 929) (by decide +kernel), List.mem_of_getElem? (i := 1176) (by decide +kernel), List.mem_of_getElem? (i := 1177) (by decide +kernel)⟩
theorem lw_p37 : lw_okq (⟨"WornWeightsModel", "lawful", "(I)I"⟩, 30) := ⟨⟨by decide +kernel, by decide +kernel⟩, List.mem_of_getElem? (i := 929) (by decide +kernel), List.mem_of_getElem? (i := 1185) (by decide +kernel), List.mem_of_getElem? (i := 1186) (by decide +kernel)⟩
theorem lw_p38 : lw_okq (⟨"WornWeightsModel", "day", "()I"⟩, 30) := ⟨⟨by decide +kernel, by decide +kernel⟩, List.mem_of_getElem? (i := 929) (by decide +kernel), List.mem_of_getElem? (i := 1194) (by decide +kernel), List.mem_of_getElem? (i := 1195) (by decide +kernel)⟩
theorem lw_p39 : lw_okq (⟨"WornWeightsModel", "fits", "(II)Z"⟩, 30) := ⟨⟨by decide +kernel, by decide +kernel⟩, List.mem_of_getElem? (i := 929) (by decide +kernel), List.mem_of_getElem? (i := 1205) (by decide +kernel), List.mem_of_getElem? (i := 1206) (by decide +kernel)⟩
theorem lw_p40 : lw_okq (⟨"WornWeightsModel", "behindOf", "(II)I"⟩, 30) := ⟨⟨by decide +kernel, by decide +kernel⟩, List.mem_of_getElem? (i := 929) (by decide +kernel), List.mem_of_getElem? (i := 1214) (by decide +kernel), List.mem_of_getElem? (i := 1215) (by decide +kernel)⟩
theorem lw_p41 : lw_okq (⟨"WornWeightsModel", "canBy", "(I)I"⟩, 30) := ⟨⟨by decide +kernel, by decide +kernel⟩, List.mem_of_getElem? (i := 929) (by decide +kernel), List.mem_of_getElem? (i := 1226) (by decide +kernel), List.mem_of_getElem? (i := 1227) (by decide +kernel)⟩
theorem lw_p42 : lw_okq (⟨"WornWeightsModel", "allOf", "(I)I"⟩, 30) := ⟨⟨by decide +kernel, by decide +kernel⟩, List.mem_of_getElem? (i := 929) (by decide +kernel), List.mem_of_getElem? (i := 1249) (by decide +kernel), List.mem_of_getElem? (i := 1250) (by decide +kernel)⟩
theorem lw_p43 : lw_okq (⟨"WornWeightsModel", "fitting", "(I)I"⟩, 30) := ⟨⟨by decide +kernel, by decide +kernel⟩, List.mem_of_getElem? (i := 929) (by decide +kernel), List.mem_of_getElem? (i := 1257) (by decide +kernel), List.mem_of_getElem? (i := 1258) (by decide +kernel)⟩
theorem lw_p44 : lw_okq (⟨"WornWeightsModel", "parse", "()I"⟩, 30) := ⟨⟨by decide +kernel, by decide +kernel⟩, List.mem_of_getElem? (i := 929) (by decide +kernel), List.mem_of_getElem? (i := 1277) (by decide +kernel), List.mem_of_getElem? (i := 1278) (by decide +kernel)⟩
theorem lw_p45 : lw_okq (⟨"WornWeightsModel", "nextToken", "()V"⟩, 30) := ⟨⟨by decide +kernel, by decide +kernel⟩, List.mem_of_getElem? (i := 929) (by decide +kernel), List.mem_of_getElem? (i := 1281) (by decide +kernel), List.mem_of_getElem? (i := 1282) (by decide +kernel)⟩
theorem lw_p46 : lw_okq (⟨"WornWeightsModel", "isLetter", "(I)Z"⟩, 30) := ⟨⟨by decide +kernel, by decide +kernel⟩, List.mem_of_getElem? (i := 929) (by decide +kernel), List.mem_of_getElem? (i := 1285) (by decide +kernel), List.mem_of_getElem? (i := 1286) (by decide +kernel)⟩
theorem lw_p47 : lw_okq (⟨"WornWeightsModel", "isDigit", "(I)Z"⟩, 30) := ⟨⟨by decide +kernel, by decide +kernel⟩, List.mem_of_getElem? (i := 929) (by decide +kernel), List.mem_of_getElem? (i := 1291) (by decide +kernel), List.mem_of_getElem? (i := 1292) (by decide +kernel)⟩
def lw_privs_3 : List (MethodName × Nat) := [(⟨"WornWeightsModel", "saysBy", "(IIII)I"⟩, 30), (⟨"WornWeightsModel", "sumOf", "(II)I"⟩, 30), (⟨"WornWeightsModel", "writes", "(IIIII)V"⟩, 30), (⟨"WornWeightsModel", "falls", "(I)I"⟩, 30), (⟨"WornWeightsModel", "takes", "(II)I"⟩, 30), (⟨"WornWeightsModel", "lawful", "(I)I"⟩, 30), (⟨"WornWeightsModel", "day", "()I"⟩, 30), (⟨"WornWeightsModel", "fits", "(II)Z"⟩, 30), (⟨"WornWeightsModel", "behindOf", "(II)I"⟩, 30), (⟨"WornWeightsModel", "canBy", "(I)I"⟩, 30), (⟨"WornWeightsModel", "allOf", "(I)I"⟩, 30), (⟨"WornWeightsModel", "fitting", "(I)I"⟩, 30), (⟨"WornWeightsModel", "parse", "()I"⟩, 30), (⟨"WornWeightsModel", "nextToken", "()V"⟩, 30), (⟨"WornWeightsModel", "isLetter", "(I)Z"⟩, 30), (⟨"WornWeightsModel", "isDigit", "(I)Z"⟩, 30)]
theorem lw_r3 : ∀ q ∈ lw_privs_3, lw_okq q := List.forall_mem_cons.mpr ⟨lw_p32, List.forall_mem_cons.mpr ⟨lw_p33, List.forall_mem_cons.mpr ⟨lw_p34, List.forall_mem_cons.mpr ⟨lw_p35, List.forall_mem_cons.mpr ⟨lw_p36, List.forall_mem_cons.mpr ⟨lw_p37, List.forall_mem_cons.mpr ⟨lw_p38, List.forall_mem_cons.mpr ⟨lw_p39, List.forall_mem_cons.mpr ⟨lw_p40, List.forall_mem_cons.mpr ⟨lw_p41, List.forall_mem_cons.mpr ⟨lw_p42, List.forall_mem_cons.mpr ⟨lw_p43, List.forall_mem_cons.mpr ⟨lw_p44, List.forall_mem_cons.mpr ⟨lw_p45, List.forall_mem_cons.mpr ⟨lw_p46, List.forall_mem_cons.mpr ⟨lw_p47, fun _ h => absurd h List.not_mem_nil⟩⟩⟩⟩⟩⟩⟩⟩⟩⟩⟩⟩⟩⟩⟩⟩
theorem lw_p48 : lw_okq (⟨"WornWeightsModel", "key", "()I"⟩, 30) := ⟨⟨by decide +kernel, by decide +kernel⟩, List.mem_of_getElem? (i := 929) (by decide +kernel), List.mem_of_getElem? (i := 1297) (by decide +kernel), List.mem_of_getElem? (i := 1298) (by decide +kernel)⟩
theorem lw_p49 : lw_okq (⟨"WornWeightsModel", "isWordAt", "(IIII)Z"⟩, 30) := ⟨⟨by decide +kernel, by decide +kernel⟩, List.mem_of_getElem? (i := 929) (by decide +kernel), List.mem_of_getElem? (i := 1301) (by decide +kernel), List.mem_of_getElem? (i := 1302) (by decide +kernel)⟩
theorem lw_p50 : lw_okq (⟨"WornWeightsModel", "either", "(I)Z"⟩, 30) := ⟨⟨by decide +kernel, by decide +kernel⟩, List.mem_of_getElem? (i := 929) (by decide +kernel), List.mem_of_getElem? (i := 1305) (by decide +kernel), List.mem_of_getElem? (i := 1306) (by decide +kernel)⟩
theorem lw_p51 : lw_okq (⟨"WornWeightsModel", "both", "(I)Z"⟩, 30) := ⟨⟨by decide +kernel, by decide +kernel⟩, List.mem_of_getElem? (i := 929) (by decide +kernel), List.mem_of_getElem? (i := 1309) (by decide +kernel), List.mem_of_getElem? (i := 1310) (by decide +kernel)⟩
theorem lw_p52 : lw_okq (⟨"WornWeightsModel", "test", "(I)Z"⟩, 30) := ⟨⟨by decide +kernel, by decide +kernel⟩, List.mem_of_getElem? (i := 929) (by decide +kernel), List.mem_of_getElem? (i := 1313) (by decide +kernel), List.mem_of_getElem? (i := 1314) (by decide +kernel)⟩
theorem lw_p53 : lw_okq (⟨"WornWeightsModel", "sum", "(I)Z"⟩, 30) := ⟨⟨by decide +kernel, by decide +kernel⟩, List.mem_of_getElem? (i := 929) (by decide +kernel), List.mem_of_getElem? (i := 1317) (by decide +kernel), List.mem_of_getElem? (i := 1318) (by decide +kernel)⟩
theorem lw_p54 : lw_okq (⟨"WornWeightsModel", "term", "(I)Z"⟩, 30) := ⟨⟨by decide +kernel, by decide +kernel⟩, List.mem_of_getElem? (i := 929) (by decide +kernel), List.mem_of_getElem? (i := 1321) (by decide +kernel), List.mem_of_getElem? (i := 1322) (by decide +kernel)⟩
theorem lw_p55 : lw_okq (⟨"WornWeightsModel", "part0", "(I)Z"⟩, 30) := ⟨⟨by decide +kernel, by decide +kernel⟩, List.mem_of_getElem? (i := 929) (by decide +kernel), List.mem_of_getElem? (i := 1325) (by decide +kernel), List.mem_of_getElem? (i := 1326) (by decide +kernel)⟩
theorem lw_p56 : lw_okq (⟨"WornWeightsModel", "step", "(II)V"⟩, 30) := ⟨⟨by decide +kernel, by decide +kernel⟩, List.mem_of_getElem? (i := 929) (by decide +kernel), List.mem_of_getElem? (i := 1329) (by decide +kernel), List.mem_of_getElem? (i := 1330) (by decide +kernel)⟩
theorem lw_p57 : lw_okq (⟨"WornWeightsModel", "isSign", "(I)Z"⟩, 30) := ⟨⟨by decide +kernel, by decide +kernel⟩, List.mem_of_getElem? (i := 929) (by decide +kernel), List.mem_of_getElem? (i := 1336) (by decide +kernel), List.mem_of_getElem? (i := 1337) (by decide +kernel)⟩
theorem lw_p58 : lw_okq (⟨"WornWeightsModel", "isText", "(I)Z"⟩, 30) := ⟨⟨by decide +kernel, by decide +kernel⟩, List.mem_of_getElem? (i := 929) (by decide +kernel), List.mem_of_getElem? (i := 1344) (by decide +kernel), List.mem_of_getElem? (i := 1345) (by decide +kernel)⟩
theorem lw_p59 : lw_okq (⟨"WornWeightsModel", "setAside", "([I[I)V"⟩, 30) := ⟨⟨by decide +kernel, by decide +kernel⟩, List.mem_of_getElem? (i := 929) (by decide +kernel), List.mem_of_getElem? (i := 1411) (by decide +kernel), List.mem_of_getElem? (i := 1412) (by decide +kernel)⟩
def lw_privs_4 : List (MethodName × Nat) := [(⟨"WornWeightsModel", "key", "()I"⟩, 30), (⟨"WornWeightsModel", "isWordAt", "(IIII)Z"⟩, 30), (⟨"WornWeightsModel", "either", "(I)Z"⟩, 30), (⟨"WornWeightsModel", "both", "(I)Z"⟩, 30), (⟨"WornWeightsModel", "test", "(I)Z"⟩, 30), (⟨"WornWeightsModel", "sum", "(I)Z"⟩, 30), (⟨"WornWeightsModel", "term", "(I)Z"⟩, 30), (⟨"WornWeightsModel", "part0", "(I)Z"⟩, 30), (⟨"WornWeightsModel", "step", "(II)V"⟩, 30), (⟨"WornWeightsModel", "isSign", "(I)Z"⟩, 30), (⟨"WornWeightsModel", "isText", "(I)Z"⟩, 30), (⟨"WornWeightsModel", "setAside", "([I[I)V"⟩, 30)]
theorem lw_r4 : ∀ q ∈ lw_privs_4, lw_okq q := List.forall_mem_cons.mpr ⟨lw_p48, List.forall_mem_cons.mpr ⟨lw_p49, List.forall_mem_cons.mpr ⟨lw_p50, List.forall_mem_cons.mpr ⟨lw_p51, List.forall_mem_cons.mpr ⟨lw_p52, List.forall_mem_cons.mpr ⟨lw_p53, List.forall_mem_cons.mpr ⟨lw_p54, List.forall_mem_cons.mpr ⟨lw_p55, List.forall_mem_cons.mpr ⟨lw_p56, List.forall_mem_cons.mpr ⟨lw_p57, List.forall_mem_cons.mpr ⟨lw_p58, List.forall_mem_cons.mpr ⟨lw_p59, fun _ h => absurd h List.not_mem_nil⟩⟩⟩⟩⟩⟩⟩⟩⟩⟩⟩⟩
def lw_privs : List (MethodName × Nat) := lw_privs_1 ++ (lw_privs_2 ++ (lw_privs_3 ++ (lw_privs_4)))
def lw_tbl : List Cond := k2_sels lw_privs ++ tables_1
theorem lw_privs_ok : ∀ q ∈ lw_privs, lw_okq q := by
  show ∀ q ∈ lw_privs_1 ++ (lw_privs_2 ++ (lw_privs_3 ++ (lw_privs_4))), lw_okq q
  exact List.forall_mem_append.mpr ⟨lw_r1, List.forall_mem_append.mpr ⟨lw_r2, List.forall_mem_append.mpr ⟨lw_r3, lw_r4⟩⟩⟩
end
section
def RX0 : String := "WornWeights$Book"
def TX0 : u_T := fun k => match k with
  | 0 => ("WornWeights$Book", "row", "[I", true)
  | _ => ("WornWeights$Book", "count", "I", false)
def tyX0 : Nat → FieldType := fun k => match k with
  | 0 => .array .int
  | _ => .int
theorem nmX0 : ∀ a, a < 2 → ∀ b, b < 2 → a ≠ b → (TX0 a).2.1 ≠ (TX0 b).2.1 := by decide +kernel
theorem tyX0_ok : ∀ k, k < 2 → parseFieldDescriptor (TX0 k).2.2.1 = some (tyX0 k) := by decide +kernel
abbrev cX0_init : ByteArray := prog_2_method_1_code
def yX0_init : MethodName := ⟨RX0, "<init>", "()V"⟩
abbrev cX0_becomeAs : ByteArray := prog_2_method_2_code
def yX0_becomeAs : MethodName := ⟨RX0, "becomeAs", "(LWornWeights$Book;)V"⟩
abbrev cX0_has : ByteArray := prog_2_method_3_code
def yX0_has : MethodName := ⟨RX0, "has", "(I)Z"⟩
abbrev cX0_read : ByteArray := prog_2_method_4_code
def yX0_read : MethodName := ⟨RX0, "read", "(II)I"⟩
abbrev cX0_write : ByteArray := prog_2_method_5_code
def yX0_write : MethodName := ⟨RX0, "write", "(IIIII)V"⟩
def RX1 : String := "WornWeights$Reader"
def TX1 : u_T := fun k => match k with
  | 0 => ("WornWeights$Reader", "tape", "LWornWeights$Tape;", true)
  | 1 => ("WornWeights$Reader", "ahead", "I", false)
  | 2 => ("WornWeights$Reader", "start", "I", false)
  | 3 => ("WornWeights$Reader", "end", "I", false)
  | 4 => ("WornWeights$Reader", "fault", "I", false)
  | 5 => ("WornWeights$Reader", "key", "I", false)
  | 6 => ("WornWeights$Reader", "pieces", "I", false)
  | 7 => ("WornWeights$Reader", "steps", "[I", true)
  | _ => ("WornWeights$Reader", "stepCount", "I", false)
def tyX1 : Nat → FieldType := fun k => match k with
  | 0 => .object "WornWeights$Tape"
  | 1 => .int
  | 2 => .int
  | 3 => .int
  | 4 => .int
  | 5 => .int
  | 6 => .int
  | 7 => .array .int
  | _ => .int
theorem nmX1 : ∀ a, a < 9 → ∀ b, b < 9 → a ≠ b → (TX1 a).2.1 ≠ (TX1 b).2.1 := by decide +kernel
theorem tyX1_ok : ∀ k, k < 9 → parseFieldDescriptor (TX1 k).2.2.1 = some (tyX1 k) := by decide +kernel
abbrev cX1_init : ByteArray := prog_3_method_1_code
def yX1_init : MethodName := ⟨RX1, "<init>", "()V"⟩
abbrev cX1_readTape : ByteArray := prog_3_method_2_code
def yX1_readTape : MethodName := ⟨RX1, "readTape", "()LWornWeights$Text;"⟩
abbrev cX1_faultPlace : ByteArray := prog_3_method_3_code
def yX1_faultPlace : MethodName := ⟨RX1, "faultPlace", "()I"⟩
abbrev cX1_stop : ByteArray := prog_3_method_4_code
def yX1_stop : MethodName := ⟨RX1, "stop", "()V"⟩
abbrev cX1_goOn : ByteArray := prog_3_method_5_code
def yX1_goOn : MethodName := ⟨RX1, "goOn", "()V"⟩
abbrev cX1_endOfRow : ByteArray := prog_3_method_6_code
def yX1_endOfRow : MethodName := ⟨RX1, "endOfRow", "(III)I"⟩
abbrev cX1_isWord : ByteArray := prog_3_method_7_code
def yX1_isWord : MethodName := ⟨RX1, "isWord", "(Ljava/lang/String;)Z"⟩
abbrev cX1_readKey : ByteArray := prog_3_method_8_code
def yX1_readKey : MethodName := ⟨RX1, "readKey", "()V"⟩
abbrev cX1_readLevel : ByteArray := prog_3_method_9_code
def yX1_readLevel : MethodName := ⟨RX1, "readLevel", "(III)V"⟩
abbrev cX1_levelOf : ByteArray := prog_3_method_10_code
def yX1_levelOf : MethodName := ⟨RX1, "levelOf", "(I)I"⟩
abbrev cX1_readPiece : ByteArray := prog_3_method_11_code
def yX1_readPiece : MethodName := ⟨RX1, "readPiece", "(II)V"⟩
abbrev cX1_readClose : ByteArray := prog_3_method_12_code
def yX1_readClose : MethodName := ⟨RX1, "readClose", "()V"⟩
abbrev cX1_numberAhead : ByteArray := prog_3_method_13_code
def yX1_numberAhead : MethodName := ⟨RX1, "numberAhead", "()I"⟩
abbrev cX1_nameAhead : ByteArray := prog_3_method_14_code
def yX1_nameAhead : MethodName := ⟨RX1, "nameAhead", "()I"⟩
abbrev cX1_addPiece : ByteArray := prog_3_method_15_code
def yX1_addPiece : MethodName := ⟨RX1, "addPiece", "(I)V"⟩
abbrev cX1_addStep : ByteArray := prog_3_method_16_code
def yX1_addStep : MethodName := ⟨RX1, "addStep", "(I)V"⟩
def RX2 : String := "WornWeights$Sheet"
def TX2 : u_T := fun k => match k with
  | 0 => ("WornWeights$Sheet", "sort", "I", false)
  | 1 => ("WornWeights$Sheet", "size", "I", false)
  | _ => ("WornWeights$Sheet", "places", "[I", true)
def tyX2 : Nat → FieldType := fun k => match k with
  | 0 => .int
  | 1 => .int
  | _ => .array .int
theorem nmX2 : ∀ a, a < 3 → ∀ b, b < 3 → a ≠ b → (TX2 a).2.1 ≠ (TX2 b).2.1 := by decide +kernel
theorem tyX2_ok : ∀ k, k < 3 → parseFieldDescriptor (TX2 k).2.2.1 = some (tyX2 k) := by decide +kernel
abbrev cX2_init : ByteArray := prog_4_method_1_code
def yX2_init : MethodName := ⟨RX2, "<init>", "()V"⟩
abbrev cX2_become : ByteArray := prog_4_method_2_code
def yX2_become : MethodName := ⟨RX2, "become", "(II)V"⟩
abbrev cX2_becomeAs : ByteArray := prog_4_method_3_code
def yX2_becomeAs : MethodName := ⟨RX2, "becomeAs", "(LWornWeights$Sheet;)V"⟩
abbrev cX2_isMissing : ByteArray := prog_4_method_4_code
def yX2_isMissing : MethodName := ⟨RX2, "isMissing", "()Z"⟩
abbrev cX2_has : ByteArray := prog_4_method_5_code
def yX2_has : MethodName := ⟨RX2, "has", "(I)Z"⟩
abbrev cX2_hasNumber : ByteArray := prog_4_method_6_code
def yX2_hasNumber : MethodName := ⟨RX2, "hasNumber", "(I)Z"⟩
abbrev cX2_hasRow : ByteArray := prog_4_method_7_code
def yX2_hasRow : MethodName := ⟨RX2, "hasRow", "(II)Z"⟩
def RX3 : String := "WornWeights$Slot"
def TX3 : u_T := fun k => match k with
  | 0 => ("WornWeights$Slot", "thing", "I", false)
  | 1 => ("WornWeights$Slot", "number", "I", false)
  | 2 => ("WornWeights$Slot", "weight", "LWornWeights$Weight;", true)
  | _ => ("WornWeights$Slot", "sheet", "LWornWeights$Sheet;", true)
def tyX3 : Nat → FieldType := fun k => match k with
  | 0 => .int
  | 1 => .int
  | 2 => .object "WornWeights$Weight"
  | _ => .object "WornWeights$Sheet"
theorem nmX3 : ∀ a, a < 4 → ∀ b, b < 4 → a ≠ b → (TX3 a).2.1 ≠ (TX3 b).2.1 := by decide +kernel
theorem tyX3_ok : ∀ k, k < 4 → parseFieldDescriptor (TX3 k).2.2.1 = some (tyX3 k) := by decide +kernel
abbrev cX3_init : ByteArray := prog_5_method_1_code
def yX3_init : MethodName := ⟨RX3, "<init>", "()V"⟩
def RX4 : String := "WornWeights$Tape"
def TX4 : u_T := fun k => match k with
  | 0 => ("WornWeights$Tape", "bytes", "[I", true)
  | _ => ("WornWeights$Tape", "length", "I", false)
def tyX4 : Nat → FieldType := fun k => match k with
  | 0 => .array .int
  | _ => .int
theorem nmX4 : ∀ a, a < 2 → ∀ b, b < 2 → a ≠ b → (TX4 a).2.1 ≠ (TX4 b).2.1 := by decide +kernel
theorem tyX4_ok : ∀ k, k < 2 → parseFieldDescriptor (TX4 k).2.2.1 = some (tyX4 k) := by decide +kernel
abbrev cX4_init : ByteArray := prog_6_method_1_code
def yX4_init : MethodName := ⟨RX4, "<init>", "()V"⟩
abbrev cX4_addNumber : ByteArray := prog_6_method_2_code
def yX4_addNumber : MethodName := ⟨RX4, "addNumber", "(I)V"⟩
abbrev cX4_byteAt : ByteArray := prog_6_method_3_code
def yX4_byteAt : MethodName := ⟨RX4, "byteAt", "(I)I"⟩
def RX5 : String := "WornWeights$Text"
def TX5 : u_T := fun k => match k with
  | 0 => ("WornWeights$Text", "key", "I", true)
  | 1 => ("WornWeights$Text", "pieces", "I", true)
  | 2 => ("WornWeights$Text", "steps", "[I", true)
  | _ => ("WornWeights$Text", "stack", "[I", true)
def tyX5 : Nat → FieldType := fun k => match k with
  | 0 => .int
  | 1 => .int
  | 2 => .array .int
  | _ => .array .int
theorem nmX5 : ∀ a, a < 4 → ∀ b, b < 4 → a ≠ b → (TX5 a).2.1 ≠ (TX5 b).2.1 := by decide +kernel
theorem tyX5_ok : ∀ k, k < 4 → parseFieldDescriptor (TX5 k).2.2.1 = some (tyX5 k) := by decide +kernel
abbrev cX5_init : ByteArray := prog_7_method_1_code
def yX5_init : MethodName := ⟨RX5, "<init>", "(II[I)V"⟩
abbrev cX5_gives : ByteArray := prog_7_method_2_code
def yX5_gives : MethodName := ⟨RX5, "gives", "(III)I"⟩
abbrev cX5_valueOf : ByteArray := prog_7_method_3_code
def yX5_valueOf : MethodName := ⟨RX5, "valueOf", "(IIII)I"⟩
abbrev cX5_joined : ByteArray := prog_7_method_4_code
def yX5_joined : MethodName := ⟨RX5, "joined", "(III)I"⟩
def RX6 : String := "WornWeights$Weight"
def TX6 : u_T := fun k => match k with
  | 0 => ("WornWeights$Weight", "kind", "I", false)
  | 1 => ("WornWeights$Weight", "stamp", "I", false)
  | 2 => ("WornWeights$Weight", "grains", "I", false)
  | _ => ("WornWeights$Weight", "times", "I", false)
def tyX6 : Nat → FieldType := fun k => match k with
  | 0 => .int
  | 1 => .int
  | 2 => .int
  | _ => .int
theorem nmX6 : ∀ a, a < 4 → ∀ b, b < 4 → a ≠ b → (TX6 a).2.1 ≠ (TX6 b).2.1 := by decide +kernel
theorem tyX6_ok : ∀ k, k < 4 → parseFieldDescriptor (TX6 k).2.2.1 = some (tyX6 k) := by decide +kernel
abbrev cX6_init : ByteArray := prog_8_method_1_code
def yX6_init : MethodName := ⟨RX6, "<init>", "()V"⟩
abbrev cX6_becomeAs : ByteArray := prog_8_method_2_code
def yX6_becomeAs : MethodName := ⟨RX6, "becomeAs", "(LWornWeights$Weight;)V"⟩
abbrev cX6_stampAnew : ByteArray := prog_8_method_3_code
def yX6_stampAnew : MethodName := ⟨RX6, "stampAnew", "(II)V"⟩
abbrev cX6_isOf : ByteArray := prog_8_method_4_code
def yX6_isOf : MethodName := ⟨RX6, "isOf", "(I)Z"⟩
abbrev cX6_lossBy : ByteArray := prog_8_method_5_code
def yX6_lossBy : MethodName := ⟨RX6, "lossBy", "(I)I"⟩
abbrev cX6_worth : ByteArray := prog_8_method_6_code
def yX6_worth : MethodName := ⟨RX6, "worth", "()I"⟩
def RX7 : String := "WornWeights$World"
def TX7 : u_T := fun k => match k with
  | 0 => ("WornWeights$World", "weights", "[LWornWeights$Weight;", true)
  | 1 => ("WornWeights$World", "weightCount", "I", false)
  | 2 => ("WornWeights$World", "arms", "[I", true)
  | 3 => ("WornWeights$World", "book", "LWornWeights$Book;", true)
  | 4 => ("WornWeights$World", "shot", "I", false)
  | 5 => ("WornWeights$World", "day", "I", false)
  | 6 => ("WornWeights$World", "z", "I", false)
  | 7 => ("WornWeights$World", "texts", "[LWornWeights$Text;", true)
  | 8 => ("WornWeights$World", "textCount", "I", false)
  | 9 => ("WornWeights$World", "counting", "[I", true)
  | 10 => ("WornWeights$World", "spare", "LWornWeights$Weight;", true)
  | _ => ("WornWeights$World", "order", "[I", true)
def tyX7 : Nat → FieldType := fun k => match k with
  | 0 => .array (.object "WornWeights$Weight")
  | 1 => .int
  | 2 => .array .int
  | 3 => .object "WornWeights$Book"
  | 4 => .int
  | 5 => .int
  | 6 => .int
  | 7 => .array (.object "WornWeights$Text")
  | 8 => .int
  | 9 => .array .int
  | 10 => .object "WornWeights$Weight"
  | _ => .array .int
theorem nmX7 : ∀ a, a < 12 → ∀ b, b < 12 → a ≠ b → (TX7 a).2.1 ≠ (TX7 b).2.1 := by decide +kernel
theorem tyX7_ok : ∀ k, k < 12 → parseFieldDescriptor (TX7 k).2.2.1 = some (tyX7 k) := by decide +kernel
abbrev cX7_init : ByteArray := prog_9_method_1_code
def yX7_init : MethodName := ⟨RX7, "<init>", "()V"⟩
abbrev cX7_becomeAs : ByteArray := prog_9_method_2_code
def yX7_becomeAs : MethodName := ⟨RX7, "becomeAs", "(LWornWeights$World;)V"⟩
abbrev cX7_hasRoom : ByteArray := prog_9_method_3_code
def yX7_hasRoom : MethodName := ⟨RX7, "hasRoom", "()Z"⟩
abbrev cX7_weightAt : ByteArray := prog_9_method_4_code
def yX7_weightAt : MethodName := ⟨RX7, "weightAt", "(I)LWornWeights$Weight;"⟩
abbrev cX7_addWeight : ByteArray := prog_9_method_5_code
def yX7_addWeight : MethodName := ⟨RX7, "addWeight", "(II)I"⟩
abbrev cX7_draw : ByteArray := prog_9_method_6_code
def yX7_draw : MethodName := ⟨RX7, "draw", "()I"⟩
abbrev cX7_drawWeight : ByteArray := prog_9_method_7_code
def yX7_drawWeight : MethodName := ⟨RX7, "drawWeight", "()V"⟩
abbrev cX7_armAt : ByteArray := prog_9_method_8_code
def yX7_armAt : MethodName := ⟨RX7, "armAt", "(II)I"⟩
abbrev cX7_bendArm : ByteArray := prog_9_method_9_code
def yX7_bendArm : MethodName := ⟨RX7, "bendArm", "(III)V"⟩
abbrev cX7_setCount : ByteArray := prog_9_method_10_code
def yX7_setCount : MethodName := ⟨RX7, "setCount", "()I"⟩
abbrev cX7_allSet : ByteArray := prog_9_method_11_code
def yX7_allSet : MethodName := ⟨RX7, "allSet", "()I"⟩
abbrev cX7_isSet : ByteArray := prog_9_method_12_code
def yX7_isSet : MethodName := ⟨RX7, "isSet", "(I)Z"⟩
abbrev cX7_grainsOf : ByteArray := prog_9_method_13_code
def yX7_grainsOf : MethodName := ⟨RX7, "grainsOf", "(I)I"⟩
abbrev cX7_stampsOf : ByteArray := prog_9_method_14_code
def yX7_stampsOf : MethodName := ⟨RX7, "stampsOf", "(I)I"⟩
abbrev cX7_sayOf : ByteArray := prog_9_method_15_code
def yX7_sayOf : MethodName := ⟨RX7, "sayOf", "(IIII)I"⟩
abbrev cX7_fits : ByteArray := prog_9_method_16_code
def yX7_fits : MethodName := ⟨RX7, "fits", "(II)Z"⟩
abbrev cX7_fitCount : ByteArray := prog_9_method_17_code
def yX7_fitCount : MethodName := ⟨RX7, "fitCount", "(I)I"⟩
abbrev cX7_weighingLoss : ByteArray := prog_9_method_18_code
def yX7_weighingLoss : MethodName := ⟨RX7, "weighingLoss", "(LWornWeights$Weight;)I"⟩
abbrev cX7_fallLoss : ByteArray := prog_9_method_19_code
def yX7_fallLoss : MethodName := ⟨RX7, "fallLoss", "(LWornWeights$Weight;)I"⟩
abbrev cX7_lawFor : ByteArray := prog_9_method_20_code
def yX7_lawFor : MethodName := ⟨RX7, "lawFor", "(LWornWeights$Weight;)I"⟩
abbrev cX7_fineOf : ByteArray := prog_9_method_21_code
def yX7_fineOf : MethodName := ⟨RX7, "fineOf", "(LWornWeights$Weight;)I"⟩
abbrev cX7_wearOnce : ByteArray := prog_9_method_22_code
def yX7_wearOnce : MethodName := ⟨RX7, "wearOnce", "(LWornWeights$Weight;)V"⟩
abbrev cX7_wearAll : ByteArray := prog_9_method_23_code
def yX7_wearAll : MethodName := ⟨RX7, "wearAll", "(I)V"⟩
abbrev cX7_letFall : ByteArray := prog_9_method_24_code
def yX7_letFall : MethodName := ⟨RX7, "letFall", "(LWornWeights$Weight;)I"⟩
abbrev cX7_giveShot : ByteArray := prog_9_method_25_code
def yX7_giveShot : MethodName := ⟨RX7, "giveShot", "(LWornWeights$Weight;I)I"⟩
abbrev cX7_makeRight : ByteArray := prog_9_method_26_code
def yX7_makeRight : MethodName := ⟨RX7, "makeRight", "()I"⟩
abbrev cX7_passDay : ByteArray := prog_9_method_27_code
def yX7_passDay : MethodName := ⟨RX7, "passDay", "()I"⟩
abbrev cX7_spareOf : ByteArray := prog_9_method_28_code
def yX7_spareOf : MethodName := ⟨RX7, "spareOf", "(LWornWeights$Weight;)LWornWeights$Weight;"⟩
abbrev cX7_sortByGrains : ByteArray := prog_9_method_29_code
def yX7_sortByGrains : MethodName := ⟨RX7, "sortByGrains", "()V"⟩
abbrev cX7_reachOf : ByteArray := prog_9_method_30_code
def yX7_reachOf : MethodName := ⟨RX7, "reachOf", "(I)I"⟩
abbrev cX7_lightestFor : ByteArray := prog_9_method_31_code
def yX7_lightestFor : MethodName := ⟨RX7, "lightestFor", "(I)I"⟩
abbrev cX7_textAt : ByteArray := prog_9_method_32_code
def yX7_textAt : MethodName := ⟨RX7, "textAt", "(I)LWornWeights$Text;"⟩
abbrev cX7_addText : ByteArray := prog_9_method_33_code
def yX7_addText : MethodName := ⟨RX7, "addText", "(LWornWeights$Text;)I"⟩
abbrev cX7_countingText : ByteArray := prog_9_method_34_code
def yX7_countingText : MethodName := ⟨RX7, "countingText", "(I)I"⟩
def RX8 : String := "WornWeights"
def TX8 : u_T := fun k => match k with
  | 0 => ("WornWeights", "live", "LWornWeights$World;", true)
  | 1 => ("WornWeights", "image", "LWornWeights$World;", true)
  | 2 => ("WornWeights", "trial", "LWornWeights$World;", true)
  | 3 => ("WornWeights", "kept", "Z", false)
  | 4 => ("WornWeights", "reader", "LWornWeights$Reader;", true)
  | 5 => ("WornWeights", "tape", "LWornWeights$Tape;", true)
  | 6 => ("WornWeights", "sheets", "[LWornWeights$Sheet;", true)
  | 7 => ("WornWeights", "slots", "[LWornWeights$Slot;", true)
  | 8 => ("WornWeights", "waiting", "[I", true)
  | _ => ("WornWeights", "waitingCount", "I", false)
def tyX8 : Nat → FieldType := fun k => match k with
  | 0 => .object "WornWeights$World"
  | 1 => .object "WornWeights$World"
  | 2 => .object "WornWeights$World"
  | 3 => .boolean
  | 4 => .object "WornWeights$Reader"
  | 5 => .object "WornWeights$Tape"
  | 6 => .array (.object "WornWeights$Sheet")
  | 7 => .array (.object "WornWeights$Slot")
  | 8 => .array .int
  | _ => .int
theorem nmX8 : ∀ a, a < 10 → ∀ b, b < 10 → a ≠ b → (TX8 a).2.1 ≠ (TX8 b).2.1 := by decide +kernel
theorem tyX8_ok : ∀ k, k < 10 → parseFieldDescriptor (TX8 k).2.2.1 = some (tyX8 k) := by decide +kernel
abbrev cX8_init : ByteArray := prog_1_method_1_code
def yX8_init : MethodName := ⟨RX8, "<init>", "()V"⟩
abbrev cX8_weight : ByteArray := prog_1_method_2_code
def yX8_weight : MethodName := ⟨RX8, "weight", "(II)I"⟩
abbrev cX8_told : ByteArray := prog_1_method_3_code
def yX8_told : MethodName := ⟨RX8, "told", "(II)I"⟩
abbrev cX8_as : ByteArray := prog_1_method_4_code
def yX8_as : MethodName := ⟨RX8, "as", "(II)I"⟩
abbrev cX8_turns : ByteArray := prog_1_method_5_code
def yX8_turns : MethodName := ⟨RX8, "turns", "(II)I"⟩
abbrev cX8_file : ByteArray := prog_1_method_6_code
def yX8_file : MethodName := ⟨RX8, "file", "(II)I"⟩
abbrev cX8_arm : ByteArray := prog_1_method_7_code
def yX8_arm : MethodName := ⟨RX8, "arm", "(III)I"⟩
abbrev cX8_deal : ByteArray := prog_1_method_8_code
def yX8_deal : MethodName := ⟨RX8, "deal", "(I)I"⟩
abbrev cX8_seed : ByteArray := prog_1_method_9_code
def yX8_seed : MethodName := ⟨RX8, "seed", "(I)I"⟩
abbrev cX8_weigh : ByteArray := prog_1_method_10_code
def yX8_weigh : MethodName := ⟨RX8, "weigh", "(III)I"⟩
abbrev cX8_said : ByteArray := prog_1_method_11_code
def yX8_said : MethodName := ⟨RX8, "said", "(III)I"⟩
abbrev cX8_fall : ByteArray := prog_1_method_12_code
def yX8_fall : MethodName := ⟨RX8, "fall", "(I)I"⟩
abbrev cX8_shoot : ByteArray := prog_1_method_13_code
def yX8_shoot : MethodName := ⟨RX8, "shoot", "(II)I"⟩
abbrev cX8_monday : ByteArray := prog_1_method_14_code
def yX8_monday : MethodName := ⟨RX8, "monday", "()I"⟩
abbrev cX8_days : ByteArray := prog_1_method_15_code
def yX8_days : MethodName := ⟨RX8, "days", "(I)I"⟩
abbrev cX8_page : ByteArray := prog_1_method_16_code
def yX8_page : MethodName := ⟨RX8, "page", "(II)I"⟩
abbrev cX8_behind : ByteArray := prog_1_method_17_code
def yX8_behind : MethodName := ⟨RX8, "behind", "(II)I"⟩
abbrev cX8_lasts : ByteArray := prog_1_method_18_code
def yX8_lasts : MethodName := ⟨RX8, "lasts", "(II)I"⟩
abbrev cX8_canWeigh : ByteArray := prog_1_method_19_code
def yX8_canWeigh : MethodName := ⟨RX8, "canWeigh", "(I)I"⟩
abbrev cX8_smallest : ByteArray := prog_1_method_20_code
def yX8_smallest : MethodName := ⟨RX8, "smallest", "(I)I"⟩
abbrev cX8_gain : ByteArray := prog_1_method_21_code
def yX8_gain : MethodName := ⟨RX8, "gain", "(II)I"⟩
abbrev cX8_pound : ByteArray := prog_1_method_22_code
def yX8_pound : MethodName := ⟨RX8, "pound", "(I)I"⟩
abbrev cX8_falseOne : ByteArray := prog_1_method_23_code
def yX8_falseOne : MethodName := ⟨RX8, "falseOne", "()I"⟩
abbrev cX8_fine : ByteArray := prog_1_method_24_code
def yX8_fine : MethodName := ⟨RX8, "fine", "(I)I"⟩
abbrev cX8_feed : ByteArray := prog_1_method_25_code
def yX8_feed : MethodName := ⟨RX8, "feed", "(III)I"⟩
abbrev cX8_trim : ByteArray := prog_1_method_26_code
def yX8_trim : MethodName := ⟨RX8, "trim", "(I)I"⟩
abbrev cX8_text : ByteArray := prog_1_method_27_code
def yX8_text : MethodName := ⟨RX8, "text", "()I"⟩
abbrev cX8_textTold : ByteArray := prog_1_method_28_code
def yX8_textTold : MethodName := ⟨RX8, "textTold", "(II)I"⟩
abbrev cX8_why : ByteArray := prog_1_method_29_code
def yX8_why : MethodName := ⟨RX8, "why", "(I)I"⟩
abbrev cX8_sheet : ByteArray := prog_1_method_30_code
def yX8_sheet : MethodName := ⟨RX8, "sheet", "(III)I"⟩
abbrev cX8_mark : ByteArray := prog_1_method_31_code
def yX8_mark : MethodName := ⟨RX8, "mark", "(III)I"⟩
abbrev cX8_pour : ByteArray := prog_1_method_32_code
def yX8_pour : MethodName := ⟨RX8, "pour", "(I)I"⟩
abbrev cX8_reads : ByteArray := prog_1_method_33_code
def yX8_reads : MethodName := ⟨RX8, "reads", "(II)I"⟩
abbrev cX8_copy : ByteArray := prog_1_method_34_code
def yX8_copy : MethodName := ⟨RX8, "copy", "(IIIII)I"⟩
abbrev cX8_lay : ByteArray := prog_1_method_35_code
def yX8_lay : MethodName := ⟨RX8, "lay", "(III)I"⟩
abbrev cX8_ask : ByteArray := prog_1_method_36_code
def yX8_ask : MethodName := ⟨RX8, "ask", "(II)I"⟩
abbrev cX8_item : ByteArray := prog_1_method_37_code
def yX8_item : MethodName := ⟨RX8, "item", "(II)I"⟩
abbrev cX8_rest : ByteArray := prog_1_method_38_code
def yX8_rest : MethodName := ⟨RX8, "rest", "(II)I"⟩
abbrev cX8_tell : ByteArray := prog_1_method_39_code
def yX8_tell : MethodName := ⟨RX8, "tell", "(I)I"⟩
abbrev cX8_check : ByteArray := prog_1_method_40_code
def yX8_check : MethodName := ⟨RX8, "check", "(I)I"⟩
abbrev cX8_keep : ByteArray := prog_1_method_41_code
def yX8_keep : MethodName := ⟨RX8, "keep", "()I"⟩
abbrev cX8_back : ByteArray := prog_1_method_42_code
def yX8_back : MethodName := ⟨RX8, "back", "()I"⟩
abbrev cX8_count : ByteArray := prog_1_method_43_code
def yX8_count : MethodName := ⟨RX8, "count", "(I)I"⟩
abbrev cX8_sayOrRefuse : ByteArray := prog_1_method_44_code
def yX8_sayOrRefuse : MethodName := ⟨RX8, "sayOrRefuse", "(III)I"⟩
abbrev cX8_sheetAt : ByteArray := prog_1_method_45_code
def yX8_sheetAt : MethodName := ⟨RX8, "sheetAt", "(I)LWornWeights$Sheet;"⟩
abbrev cX8_slotAt : ByteArray := prog_1_method_46_code
def yX8_slotAt : MethodName := ⟨RX8, "slotAt", "(I)LWornWeights$Slot;"⟩
abbrev cX8_stands : ByteArray := prog_1_method_47_code
def yX8_stands : MethodName := ⟨RX8, "stands", "(III)Z"⟩
abbrev cX8_isKind : ByteArray := prog_1_method_48_code
def yX8_isKind : MethodName := ⟨RX8, "isKind", "(I)Z"⟩
abbrev cX8_within : ByteArray := prog_1_method_49_code
def yX8_within : MethodName := ⟨RX8, "within", "(III)Z"⟩
abbrev cX8_held : ByteArray := prog_1_method_50_code
def yX8_held : MethodName := ⟨RX8, "held", "(III)I"⟩
abbrev cX8_commonDivisor : ByteArray := prog_1_method_51_code
def yX8_commonDivisor : MethodName := ⟨RX8, "commonDivisor", "(II)I"⟩
def RX9 : String := "WornWeightsModel"
def TX9 : u_T := fun k => match k with
  | 0 => ("WornWeightsModel", "s", "[I", true)
  | 1 => ("WornWeightsModel", "image", "[I", true)
  | 2 => ("WornWeightsModel", "aside", "[I", true)
  | 3 => ("WornWeightsModel", "hasImage", "Z", false)
  | 4 => ("WornWeightsModel", "tSort", "[I", true)
  | 5 => ("WornWeightsModel", "tSize", "[I", true)
  | 6 => ("WornWeightsModel", "tNumber", "[I", true)
  | 7 => ("WornWeightsModel", "held", "[I", true)
  | 8 => ("WornWeightsModel", "heldNumber", "[I", true)
  | 9 => ("WornWeightsModel", "heldWorth", "[I", true)
  | 10 => ("WornWeightsModel", "heldSize", "[I", true)
  | 11 => ("WornWeightsModel", "heldRow", "[I", true)
  | 12 => ("WornWeightsModel", "tape", "[I", true)
  | 13 => ("WornWeightsModel", "taped", "I", false)
  | 14 => ("WornWeightsModel", "begin", "I", false)
  | 15 => ("WornWeightsModel", "behind", "I", false)
  | 16 => ("WornWeightsModel", "token", "I", false)
  | 17 => ("WornWeightsModel", "number", "I", false)
  | 18 => ("WornWeightsModel", "letter", "I", false)
  | 19 => ("WornWeightsModel", "deep", "I", false)
  | 20 => ("WornWeightsModel", "turned", "I", false)
  | 21 => ("WornWeightsModel", "laid", "I", false)
  | 22 => ("WornWeightsModel", "laidAt", "I", false)
  | 23 => ("WornWeightsModel", "said", "I", false)
  | 24 => ("WornWeightsModel", "named", "[I", true)
  | 25 => ("WornWeightsModel", "pile", "[I", true)
  | 26 => ("WornWeightsModel", "carried", "[I", true)
  | 27 => ("WornWeightsModel", "waits", "[I", true)
  | 28 => ("WornWeightsModel", "waiting", "I", false)
  | _ => ("WornWeightsModel", "rowDue", "[I", true)
def tyX9 : Nat → FieldType := fun k => match k with
  | 0 => .array .int
  | 1 => .array .int
  | 2 => .array .int
  | 3 => .boolean
  | 4 => .array .int
  | 5 => .array .int
  | 6 => .array .int
  | 7 => .array .int
  | 8 => .array .int
  | 9 => .array .int
  | 10 => .array .int
  | 11 => .array .int
  | 12 => .array .int
  | 13 => .int
  | 14 => .int
  | 15 => .int
  | 16 => .int
  | 17 => .int
  | 18 => .int
  | 19 => .int
  | 20 => .int
  | 21 => .int
  | 22 => .int
  | 23 => .int
  | 24 => .array .int
  | 25 => .array .int
  | 26 => .array .int
  | 27 => .array .int
  | 28 => .int
  | _ => .array .int
theorem nmX9 : ∀ a, a < 30 → ∀ b, b < 30 → a ≠ b → (TX9 a).2.1 ≠ (TX9 b).2.1 := by decide +kernel
theorem tyX9_ok : ∀ k, k < 30 → parseFieldDescriptor (TX9 k).2.2.1 = some (tyX9 k) := by decide +kernel
abbrev cX9_init : ByteArray := prog_11_method_1_code
def yX9_init : MethodName := ⟨RX9, "<init>", "()V"⟩
abbrev cX9_isIn : ByteArray := prog_11_method_2_code
def yX9_isIn : MethodName := ⟨RX9, "isIn", "(JJJ)Z"⟩
abbrev cX9_orNone : ByteArray := prog_11_method_3_code
def yX9_orNone : MethodName := ⟨RX9, "orNone", "(I)I"⟩
abbrev cX9_within : ByteArray := prog_11_method_4_code
def yX9_within : MethodName := ⟨RX9, "within", "(II)I"⟩
abbrev cX9_becomes : ByteArray := prog_11_method_5_code
def yX9_becomes : MethodName := ⟨RX9, "becomes", "(II)I"⟩
abbrev cX9_textAt : ByteArray := prog_11_method_6_code
def yX9_textAt : MethodName := ⟨RX9, "textAt", "(I)I"⟩
abbrev cX9_of : ByteArray := prog_11_method_7_code
def yX9_of : MethodName := ⟨RX9, "of", "(II)I"⟩
abbrev cX9_sets : ByteArray := prog_11_method_8_code
def yX9_sets : MethodName := ⟨RX9, "sets", "(III)V"⟩
abbrev cX9_isWeight : ByteArray := prog_11_method_9_code
def yX9_isWeight : MethodName := ⟨RX9, "isWeight", "(I)Z"⟩
abbrev cX9_isSet : ByteArray := prog_11_method_10_code
def yX9_isSet : MethodName := ⟨RX9, "isSet", "(I)Z"⟩
abbrev cX9_isText : ByteArray := prog_11_method_11_code
def yX9_isText : MethodName := ⟨RX9, "isText", "(I)Z"⟩
abbrev cX9_drawn : ByteArray := prog_11_method_12_code
def yX9_drawn : MethodName := ⟨RX9, "drawn", "()I"⟩
abbrev cX9_ones : ByteArray := prog_11_method_13_code
def yX9_ones : MethodName := ⟨RX9, "ones", "(I)I"⟩
abbrev cX9_sumOf : ByteArray := prog_11_method_14_code
def yX9_sumOf : MethodName := ⟨RX9, "sumOf", "(II)I"⟩
abbrev cX9_allOf : ByteArray := prog_11_method_15_code
def yX9_allOf : MethodName := ⟨RX9, "allOf", "(I)I"⟩
abbrev cX9_comes : ByteArray := prog_11_method_16_code
def yX9_comes : MethodName := ⟨RX9, "comes", "(II)V"⟩
abbrev cX9_weight : ByteArray := prog_11_method_17_code
def yX9_weight : MethodName := ⟨RX9, "weight", "(II)I"⟩
abbrev cX9_losesIf : ByteArray := prog_11_method_18_code
def yX9_losesIf : MethodName := ⟨RX9, "losesIf", "(III)I"⟩
abbrev cX9_loses : ByteArray := prog_11_method_19_code
def yX9_loses : MethodName := ⟨RX9, "loses", "(I)I"⟩
abbrev cX9_losesAtFall : ByteArray := prog_11_method_20_code
def yX9_losesAtFall : MethodName := ⟨RX9, "losesAtFall", "(I)I"⟩
abbrev cX9_worth : ByteArray := prog_11_method_21_code
def yX9_worth : MethodName := ⟨RX9, "worth", "(I)I"⟩
abbrev cX9_told : ByteArray := prog_11_method_22_code
def yX9_told : MethodName := ⟨RX9, "told", "(II)I"⟩
abbrev cX9_isOf : ByteArray := prog_11_method_23_code
def yX9_isOf : MethodName := ⟨RX9, "isOf", "(II)Z"⟩
abbrev cX9_as : ByteArray := prog_11_method_24_code
def yX9_as : MethodName := ⟨RX9, "as", "(II)I"⟩
abbrev cX9_turns : ByteArray := prog_11_method_25_code
def yX9_turns : MethodName := ⟨RX9, "turns", "(II)I"⟩
abbrev cX9_file : ByteArray := prog_11_method_26_code
def yX9_file : MethodName := ⟨RX9, "file", "(II)I"⟩
abbrev cX9_isBalance : ByteArray := prog_11_method_27_code
def yX9_isBalance : MethodName := ⟨RX9, "isBalance", "(I)Z"⟩
abbrev cX9_arm : ByteArray := prog_11_method_28_code
def yX9_arm : MethodName := ⟨RX9, "arm", "(III)I"⟩
abbrev cX9_deal : ByteArray := prog_11_method_29_code
def yX9_deal : MethodName := ⟨RX9, "deal", "(I)I"⟩
abbrev cX9_seed : ByteArray := prog_11_method_30_code
def yX9_seed : MethodName := ⟨RX9, "seed", "(I)I"⟩
abbrev cX9_saysBy : ByteArray := prog_11_method_31_code
def yX9_saysBy : MethodName := ⟨RX9, "saysBy", "(IIII)I"⟩
abbrev cX9_mayWeigh : ByteArray := prog_11_method_32_code
def yX9_mayWeigh : MethodName := ⟨RX9, "mayWeigh", "(III)I"⟩
abbrev cX9_said : ByteArray := prog_11_method_33_code
def yX9_said : MethodName := ⟨RX9, "said", "(III)I"⟩
abbrev cX9_writes : ByteArray := prog_11_method_34_code
def yX9_writes : MethodName := ⟨RX9, "writes", "(IIIII)V"⟩
abbrev cX9_weigh : ByteArray := prog_11_method_35_code
def yX9_weigh : MethodName := ⟨RX9, "weigh", "(III)I"⟩
abbrev cX9_falls : ByteArray := prog_11_method_36_code
def yX9_falls : MethodName := ⟨RX9, "falls", "(I)I"⟩
abbrev cX9_fall : ByteArray := prog_11_method_37_code
def yX9_fall : MethodName := ⟨RX9, "fall", "(I)I"⟩
abbrev cX9_takes : ByteArray := prog_11_method_38_code
def yX9_takes : MethodName := ⟨RX9, "takes", "(II)I"⟩
abbrev cX9_shoot : ByteArray := prog_11_method_39_code
def yX9_shoot : MethodName := ⟨RX9, "shoot", "(II)I"⟩
abbrev cX9_lawful : ByteArray := prog_11_method_40_code
def yX9_lawful : MethodName := ⟨RX9, "lawful", "(I)I"⟩
abbrev cX9_monday : ByteArray := prog_11_method_41_code
def yX9_monday : MethodName := ⟨RX9, "monday", "()I"⟩
abbrev cX9_day : ByteArray := prog_11_method_42_code
def yX9_day : MethodName := ⟨RX9, "day", "()I"⟩
abbrev cX9_days : ByteArray := prog_11_method_43_code
def yX9_days : MethodName := ⟨RX9, "days", "(I)I"⟩
abbrev cX9_fits : ByteArray := prog_11_method_44_code
def yX9_fits : MethodName := ⟨RX9, "fits", "(II)Z"⟩
abbrev cX9_page : ByteArray := prog_11_method_45_code
def yX9_page : MethodName := ⟨RX9, "page", "(II)I"⟩
abbrev cX9_behindOf : ByteArray := prog_11_method_46_code
def yX9_behindOf : MethodName := ⟨RX9, "behindOf", "(II)I"⟩
abbrev cX9_behind : ByteArray := prog_11_method_47_code
def yX9_behind : MethodName := ⟨RX9, "behind", "(II)I"⟩
abbrev cX9_lasts : ByteArray := prog_11_method_48_code
def yX9_lasts : MethodName := ⟨RX9, "lasts", "(II)I"⟩
abbrev cX9_canBy : ByteArray := prog_11_method_49_code
def yX9_canBy : MethodName := ⟨RX9, "canBy", "(I)I"⟩
abbrev cX9_canWeigh : ByteArray := prog_11_method_50_code
def yX9_canWeigh : MethodName := ⟨RX9, "canWeigh", "(I)I"⟩
abbrev cX9_smallest : ByteArray := prog_11_method_51_code
def yX9_smallest : MethodName := ⟨RX9, "smallest", "(I)I"⟩
abbrev cX9_gain : ByteArray := prog_11_method_52_code
def yX9_gain : MethodName := ⟨RX9, "gain", "(II)I"⟩
abbrev cX9_pound : ByteArray := prog_11_method_53_code
def yX9_pound : MethodName := ⟨RX9, "pound", "(I)I"⟩
abbrev cX9_fitting : ByteArray := prog_11_method_54_code
def yX9_fitting : MethodName := ⟨RX9, "fitting", "(I)I"⟩
abbrev cX9_falseOne : ByteArray := prog_11_method_55_code
def yX9_falseOne : MethodName := ⟨RX9, "falseOne", "()I"⟩
abbrev cX9_fine : ByteArray := prog_11_method_56_code
def yX9_fine : MethodName := ⟨RX9, "fine", "(I)I"⟩
abbrev cX9_feed : ByteArray := prog_11_method_57_code
def yX9_feed : MethodName := ⟨RX9, "feed", "(III)I"⟩
abbrev cX9_trim : ByteArray := prog_11_method_58_code
def yX9_trim : MethodName := ⟨RX9, "trim", "(I)I"⟩
abbrev cX9_isLetter : ByteArray := prog_11_method_59_code
def yX9_isLetter : MethodName := ⟨RX9, "isLetter", "(I)Z"⟩
abbrev cX9_isDigit : ByteArray := prog_11_method_60_code
def yX9_isDigit : MethodName := ⟨RX9, "isDigit", "(I)Z"⟩
abbrev cX9_nextToken : ByteArray := prog_11_method_61_code
def yX9_nextToken : MethodName := ⟨RX9, "nextToken", "()V"⟩
abbrev cX9_isSign : ByteArray := prog_11_method_62_code
def yX9_isSign : MethodName := ⟨RX9, "isSign", "(I)Z"⟩
abbrev cX9_isWordAt : ByteArray := prog_11_method_63_code
def yX9_isWordAt : MethodName := ⟨RX9, "isWordAt", "(IIII)Z"⟩
abbrev cX9_key : ByteArray := prog_11_method_64_code
def yX9_key : MethodName := ⟨RX9, "key", "()I"⟩
abbrev cX9_isName : ByteArray := prog_11_method_65_code
def yX9_isName : MethodName := ⟨RX9, "isName", "(II)Z"⟩
abbrev cX9_step : ByteArray := prog_11_method_66_code
def yX9_step : MethodName := ⟨RX9, "step", "(II)V"⟩
abbrev cX9_either : ByteArray := prog_11_method_67_code
def yX9_either : MethodName := ⟨RX9, "either", "(I)Z"⟩
abbrev cX9_both : ByteArray := prog_11_method_68_code
def yX9_both : MethodName := ⟨RX9, "both", "(I)Z"⟩
abbrev cX9_test : ByteArray := prog_11_method_69_code
def yX9_test : MethodName := ⟨RX9, "test", "(I)Z"⟩
abbrev cX9_sum : ByteArray := prog_11_method_70_code
def yX9_sum : MethodName := ⟨RX9, "sum", "(I)Z"⟩
abbrev cX9_term : ByteArray := prog_11_method_71_code
def yX9_term : MethodName := ⟨RX9, "term", "(I)Z"⟩
abbrev cX9_part0 : ByteArray := prog_11_method_72_code
def yX9_part0 : MethodName := ⟨RX9, "part0", "(I)Z"⟩
abbrev cX9_parse : ByteArray := prog_11_method_73_code
def yX9_parse : MethodName := ⟨RX9, "parse", "()I"⟩
abbrev cX9_text : ByteArray := prog_11_method_74_code
def yX9_text : MethodName := ⟨RX9, "text", "()I"⟩
abbrev cX9_textTold : ByteArray := prog_11_method_75_code
def yX9_textTold : MethodName := ⟨RX9, "textTold", "(II)I"⟩
abbrev cX9_counts : ByteArray := prog_11_method_76_code
def yX9_counts : MethodName := ⟨RX9, "counts", "(I)I"⟩
abbrev cX9_why : ByteArray := prog_11_method_77_code
def yX9_why : MethodName := ⟨RX9, "why", "(I)I"⟩
abbrev cX9_joined : ByteArray := prog_11_method_78_code
def yX9_joined : MethodName := ⟨RX9, "joined", "(III)I"⟩
abbrev cX9_worked : ByteArray := prog_11_method_79_code
def yX9_worked : MethodName := ⟨RX9, "worked", "(I)I"⟩
abbrev cX9_isSheet : ByteArray := prog_11_method_80_code
def yX9_isSheet : MethodName := ⟨RX9, "isSheet", "(I)Z"⟩
abbrev cX9_sheet : ByteArray := prog_11_method_81_code
def yX9_sheet : MethodName := ⟨RX9, "sheet", "(III)I"⟩
abbrev cX9_mark : ByteArray := prog_11_method_82_code
def yX9_mark : MethodName := ⟨RX9, "mark", "(III)I"⟩
abbrev cX9_pour : ByteArray := prog_11_method_83_code
def yX9_pour : MethodName := ⟨RX9, "pour", "(I)I"⟩
abbrev cX9_reads : ByteArray := prog_11_method_84_code
def yX9_reads : MethodName := ⟨RX9, "reads", "(II)I"⟩
abbrev cX9_copy : ByteArray := prog_11_method_85_code
def yX9_copy : MethodName := ⟨RX9, "copy", "(IIIII)I"⟩
abbrev cX9_isSlot : ByteArray := prog_11_method_86_code
def yX9_isSlot : MethodName := ⟨RX9, "isSlot", "(I)Z"⟩
abbrev cX9_lay : ByteArray := prog_11_method_87_code
def yX9_lay : MethodName := ⟨RX9, "lay", "(III)I"⟩
abbrev cX9_ask : ByteArray := prog_11_method_88_code
def yX9_ask : MethodName := ⟨RX9, "ask", "(II)I"⟩
abbrev cX9_item : ByteArray := prog_11_method_89_code
def yX9_item : MethodName := ⟨RX9, "item", "(II)I"⟩
abbrev cX9_rest : ByteArray := prog_11_method_90_code
def yX9_rest : MethodName := ⟨RX9, "rest", "(II)I"⟩
abbrev cX9_tell : ByteArray := prog_11_method_91_code
def yX9_tell : MethodName := ⟨RX9, "tell", "(I)I"⟩
abbrev cX9_setAside : ByteArray := prog_11_method_92_code
def yX9_setAside : MethodName := ⟨RX9, "setAside", "([I[I)V"⟩
abbrev cX9_check : ByteArray := prog_11_method_93_code
def yX9_check : MethodName := ⟨RX9, "check", "(I)I"⟩
abbrev cX9_keep : ByteArray := prog_11_method_94_code
def yX9_keep : MethodName := ⟨RX9, "keep", "()I"⟩
abbrev cX9_back : ByteArray := prog_11_method_95_code
def yX9_back : MethodName := ⟨RX9, "back", "()I"⟩
abbrev cX9_count : ByteArray := prog_11_method_96_code
def yX9_count : MethodName := ⟨RX9, "count", "(I)I"⟩
def RJx145de : String := "java/io/Serializable"
def RJx9f9b0 : String := "java/lang/CharSequence"
def RJ11 : String := "java/lang/Character"
abbrev cJ11_isValidCodePoint_9a6ad : ByteArray := prog_12_method_11_code
def yJ11_isValidCodePoint_9a6ad : MethodName := ⟨RJ11, "isValidCodePoint", "(I)Z"⟩
abbrev cJ11_highSurrogate_5068e : ByteArray := prog_12_method_28_code
def yJ11_highSurrogate_5068e : MethodName := ⟨RJ11, "highSurrogate", "(I)C"⟩
abbrev cJ11_lowSurrogate_5068e : ByteArray := prog_12_method_29_code
def yJ11_lowSurrogate_5068e : MethodName := ⟨RJ11, "lowSurrogate", "(I)C"⟩
def RJx8e188 : String := "java/lang/Cloneable"
def RJxb160c : String := "java/lang/Comparable"
def RJ6 : String := "java/lang/Integer"
abbrev cJ6_bitCount_0f7a4 : ByteArray := prog_14_method_49_code
def yJ6_bitCount_0f7a4 : MethodName := ⟨RJ6, "bitCount", "(I)I"⟩
def RJ9 : String := "java/lang/Math"
abbrev cJ9_max_7cf53 : ByteArray := prog_15_method_65_code
def yJ9_max_7cf53 : MethodName := ⟨RJ9, "max", "(II)I"⟩
abbrev cJ9_min_7cf53 : ByteArray := prog_15_method_69_code
def yJ9_min_7cf53 : MethodName := ⟨RJ9, "min", "(II)I"⟩
def RJ0 : String := "java/lang/String"
abbrev cJ0_length_8abf5 : ByteArray := prog_16_method_54_code
def yJ0_length_8abf5 : MethodName := ⟨RJ0, "length", "()I"⟩
abbrev cJ0_charAt_5068e : ByteArray := prog_16_method_56_code
def yJ0_charAt_5068e : MethodName := ⟨RJ0, "charAt", "(I)C"⟩
abbrev cJ0_indexOf_0f7a4 : ByteArray := prog_16_method_79_code
def yJ0_indexOf_0f7a4 : MethodName := ⟨RJ0, "indexOf", "(I)I"⟩
abbrev cJ0_indexOf_7cf53 : ByteArray := prog_16_method_80_code
def yJ0_indexOf_7cf53 : MethodName := ⟨RJ0, "indexOf", "(II)I"⟩
abbrev cJ0_coder_7d493 : ByteArray := prog_16_method_152_code
def yJ0_coder_7d493 : MethodName := ⟨RJ0, "coder", "()B"⟩
abbrev cJ0_isLatin1_aae02 : ByteArray := prog_16_method_154_code
def yJ0_isLatin1_aae02 : MethodName := ⟨RJ0, "isLatin1", "()Z"⟩
abbrev cJ0_checkIndex_df160 : ByteArray := prog_16_method_155_code
def yJ0_checkIndex_df160 : MethodName := ⟨RJ0, "checkIndex", "(II)V"⟩
abbrev cJ0_checkBoundsBeginEnd_23922 : ByteArray := prog_16_method_158_code
def yJ0_checkBoundsBeginEnd_23922 : MethodName := ⟨RJ0, "checkBoundsBeginEnd", "(III)V"⟩
def RJ1 : String := "java/lang/StringLatin1"
abbrev cJ1_charAt_3b067 : ByteArray := prog_17_method_2_code
def yJ1_charAt_3b067 : MethodName := ⟨RJ1, "charAt", "([BI)C"⟩
abbrev cJ1_canEncode_9a6ad : ByteArray := prog_17_method_4_code
def yJ1_canEncode_9a6ad : MethodName := ⟨RJ1, "canEncode", "(I)Z"⟩
abbrev cJ1_indexOf_4cfef : ByteArray := prog_17_method_22_code
def yJ1_indexOf_4cfef : MethodName := ⟨RJ1, "indexOf", "([BIII)I"⟩
abbrev cJ1_indexOfChar_4cfef : ByteArray := prog_17_method_23_code
def yJ1_indexOfChar_4cfef : MethodName := ⟨RJ1, "indexOfChar", "([BIII)I"⟩
def RJ2 : String := "java/lang/StringUTF16"
abbrev cJ2_getChar_3b067 : ByteArray := prog_18_method_5_code
def yJ2_getChar_3b067 : MethodName := ⟨RJ2, "getChar", "([BI)C"⟩
abbrev cJ2_length_9d52b : ByteArray := prog_18_method_6_code
def yJ2_length_9d52b : MethodName := ⟨RJ2, "length", "([B)I"⟩
abbrev cJ2_indexOf_4cfef : ByteArray := prog_18_method_40_code
def yJ2_indexOf_4cfef : MethodName := ⟨RJ2, "indexOf", "([BIII)I"⟩
abbrev cJ2_indexOfChar_4cfef : ByteArray := prog_18_method_47_code
def yJ2_indexOfChar_4cfef : MethodName := ⟨RJ2, "indexOfChar", "([BIII)I"⟩
abbrev cJ2_indexOfCharUnsafe_4cfef : ByteArray := prog_18_method_48_code
def yJ2_indexOfCharUnsafe_4cfef : MethodName := ⟨RJ2, "indexOfCharUnsafe", "([BIII)I"⟩
abbrev cJ2_indexOfSupplementary_4cfef : ByteArray := prog_18_method_49_code
def yJ2_indexOfSupplementary_4cfef : MethodName := ⟨RJ2, "indexOfSupplementary", "([BIII)I"⟩
abbrev cJ2_charAt_3b067 : ByteArray := prog_18_method_83_code
def yJ2_charAt_3b067 : MethodName := ⟨RJ2, "charAt", "([BI)C"⟩
abbrev cJ2_checkIndex_2214a : ByteArray := prog_18_method_91_code
def yJ2_checkIndex_2214a : MethodName := ⟨RJ2, "checkIndex", "(I[B)V"⟩
abbrev cJ2_checkBoundsBeginEnd_d044e : ByteArray := prog_18_method_93_code
def yJ2_checkBoundsBeginEnd_d044e : MethodName := ⟨RJ2, "checkBoundsBeginEnd", "(II[B)V"⟩
def RJ10 : String := "java/lang/System"
def RJxfd54e : String := "java/lang/constant/Constable"
def RJx3cf43 : String := "java/lang/constant/ConstantDesc"
def RJ7 : String := "java/util/Arrays"
abbrev cJ7_fill_53178 : ByteArray := prog_20_method_103_code
def yJ7_fill_53178 : MethodName := ⟨RJ7, "fill", "([II)V"⟩
abbrev cJ7_copyOf_59c91 : ByteArray := prog_20_method_123_code
def yJ7_copyOf_59c91 : MethodName := ⟨RJ7, "copyOf", "([II)[I"⟩
def RJ3 : String := "jdk/internal/util/Preconditions"
abbrev cJ3_checkIndex_8e157 : ByteArray := prog_21_method_11_code
def yJ3_checkIndex_8e157 : MethodName := ⟨RJ3, "checkIndex", "(IILjava/util/function/BiFunction;)I"⟩
abbrev cJ3_checkFromToIndex_8c36e : ByteArray := prog_21_method_12_code
def yJ3_checkFromToIndex_8c36e : MethodName := ⟨RJ3, "checkFromToIndex", "(IIILjava/util/function/BiFunction;)I"⟩
def RL : String := "WornWeightsLaw"
abbrev cL_law : ByteArray := code
def yL_law : MethodName := ⟨RL, "law", "([I)Z"⟩
abbrev vwCl : List vw_C := [(RX0, TX0, 2), (RX1, TX1, 9), (RX2, TX2, 3), (RX3, TX3, 4), (RX4, TX4, 2), (RX5, TX5, 4), (RX6, TX6, 4), (RX7, TX7, 12), (RX8, TX8, 10), (RX9, TX9, 30)]
/-- the good words of the tables: all that a method may rest on -/
def GW : List Cond := lw_tbl.filter goodWord
theorem gw {w : Cond} (i : Nat) (h : lw_tbl[i]? = some w) (hg : goodWord w = true) : w ∈ GW := List.mem_filter.mpr ⟨List.mem_of_getElem? h, hg⟩
theorem GW_in {w : Cond} (h : w ∈ GW) : w ∈ lw_tbl := (List.mem_filter.mp h).1
theorem GW_good {c : Cond} (h : c ∈ GW) : GoodIn GW (c :: GW) := by
  intro w hw
  rcases List.mem_cons.mp hw with h1 | h1
  · subst h1
    exact ⟨h, good_of_word (List.mem_filter.mp h).2⟩
  · exact ⟨h1, good_of_word (List.mem_filter.mp h1).2⟩
set_option maxRecDepth 20000 in
theorem fwX0 : ∀ w ∈ u_ws RX0 TX0 2, w ∈ GW := by
  have h : ∀ j, j < 2 → lw_tbl[([106, 108] : List Nat).getD j 0]? = some (u_lay RX0 TX0 j) ∧ goodWord (u_lay RX0 TX0 j) = true := by decide +kernel
  intro w hw
  obtain ⟨j, hj, rfl⟩ := List.mem_map.mp hw
  have hj := List.mem_range.mp hj
  exact gw _ (h j hj).1 (h j hj).2
set_option maxRecDepth 20000 in
theorem fwX1 : ∀ w ∈ u_ws RX1 TX1 9, w ∈ GW := by
  have h : ∀ j, j < 9 → lw_tbl[([217, 219, 221, 223, 225, 227, 229, 231, 233] : List Nat).getD j 0]? = some (u_lay RX1 TX1 j) ∧ goodWord (u_lay RX1 TX1 j) = true := by decide +kernel
  intro w hw
  obtain ⟨j, hj, rfl⟩ := List.mem_map.mp hw
  have hj := List.mem_range.mp hj
  exact gw _ (h j hj).1 (h j hj).2
set_option maxRecDepth 20000 in
theorem fwX2 : ∀ w ∈ u_ws RX2 TX2 3, w ∈ GW := by
  have h : ∀ j, j < 3 → lw_tbl[([251, 253, 255] : List Nat).getD j 0]? = some (u_lay RX2 TX2 j) ∧ goodWord (u_lay RX2 TX2 j) = true := by decide +kernel
  intro w hw
  obtain ⟨j, hj, rfl⟩ := List.mem_map.mp hw
  have hj := List.mem_range.mp hj
  exact gw _ (h j hj).1 (h j hj).2
set_option maxRecDepth 20000 in
theorem fwX3 : ∀ w ∈ u_ws RX3 TX3 4, w ∈ GW := by
  have h : ∀ j, j < 4 → lw_tbl[([274, 276, 278, 280] : List Nat).getD j 0]? = some (u_lay RX3 TX3 j) ∧ goodWord (u_lay RX3 TX3 j) = true := by decide +kernel
  intro w hw
  obtain ⟨j, hj, rfl⟩ := List.mem_map.mp hw
  have hj := List.mem_range.mp hj
  exact gw _ (h j hj).1 (h j hj).2
set_option maxRecDepth 20000 in
theorem fwX4 : ∀ w ∈ u_ws RX4 TX4 2, w ∈ GW := by
  have h : ∀ j, j < 2 → lw_tbl[([202, 204] : List Nat).getD j 0]? = some (u_lay RX4 TX4 j) ∧ goodWord (u_lay RX4 TX4 j) = true := by decide +kernel
  intro w hw
  obtain ⟨j, hj, rfl⟩ := List.mem_map.mp hw
  have hj := List.mem_range.mp hj
  exact gw _ (h j hj).1 (h j hj).2
set_option maxRecDepth 20000 in
theorem fwX5 : ∀ w ∈ u_ws RX5 TX5 4, w ∈ GW := by
  have h : ∀ j, j < 4 → lw_tbl[([841, 843, 845, 847] : List Nat).getD j 0]? = some (u_lay RX5 TX5 j) ∧ goodWord (u_lay RX5 TX5 j) = true := by decide +kernel
  intro w hw
  obtain ⟨j, hj, rfl⟩ := List.mem_map.mp hw
  have hj := List.mem_range.mp hj
  exact gw _ (h j hj).1 (h j hj).2
set_option maxRecDepth 20000 in
theorem fwX6 : ∀ w ∈ u_ws RX6 TX6 4, w ∈ GW := by
  have h : ∀ j, j < 4 → lw_tbl[([131, 133, 135, 137] : List Nat).getD j 0]? = some (u_lay RX6 TX6 j) ∧ goodWord (u_lay RX6 TX6 j) = true := by decide +kernel
  intro w hw
  obtain ⟨j, hj, rfl⟩ := List.mem_map.mp hw
  have hj := List.mem_range.mp hj
  exact gw _ (h j hj).1 (h j hj).2
set_option maxRecDepth 20000 in
theorem fwX7 : ∀ w ∈ u_ws RX7 TX7 12, w ∈ GW := by
  have h : ∀ j, j < 12 → lw_tbl[([161, 163, 165, 167, 169, 171, 173, 175, 177, 179, 181, 183] : List Nat).getD j 0]? = some (u_lay RX7 TX7 j) ∧ goodWord (u_lay RX7 TX7 j) = true := by decide +kernel
  intro w hw
  obtain ⟨j, hj, rfl⟩ := List.mem_map.mp hw
  have hj := List.mem_range.mp hj
  exact gw _ (h j hj).1 (h j hj).2
set_option maxRecDepth 20000 in
theorem fwX8 : ∀ w ∈ u_ws RX8 TX8 10, w ∈ GW := by
  have h : ∀ j, j < 10 → lw_tbl[([293, 295, 297, 299, 301, 303, 305, 307, 309, 311] : List Nat).getD j 0]? = some (u_lay RX8 TX8 j) ∧ goodWord (u_lay RX8 TX8 j) = true := by decide +kernel
  intro w hw
  obtain ⟨j, hj, rfl⟩ := List.mem_map.mp hw
  have hj := List.mem_range.mp hj
  exact gw _ (h j hj).1 (h j hj).2
set_option maxRecDepth 20000 in
theorem fwX9 : ∀ w ∈ u_ws RX9 TX9 30, w ∈ GW := by
  have h : ∀ j, j < 30 → lw_tbl[([1024, 1026, 1028, 1030, 1032, 1034, 1036, 1038, 1040, 1042, 1044, 1046, 1048, 1050, 1052, 1054, 1056, 1058, 1060, 1062, 1064, 1066, 1068, 1070, 1072, 1074, 1076, 1078, 1080, 1082] : List Nat).getD j 0]? = some (u_lay RX9 TX9 j) ∧ goodWord (u_lay RX9 TX9 j) = true := by decide +kernel
  intro w hw
  obtain ⟨j, hj, rfl⟩ := List.mem_map.mp hw
  have hj := List.mem_range.mp hj
  exact gw _ (h j hj).1 (h j hj).2
end
section
/-! ===== the pool: addresses and kinds; int fields, ref fields (by 32 * kind + slot, then address); lengths; int rows, ref rows ===== -/
abbrev pS : Type := (List Nat × (Nat → Nat)) × ((Nat → Nat → Int32) × (Nat → Nat → Option Nat)) × (Nat → Nat) × ((Nat → Nat → Int32) × (Nat → Nat → Option Nat))
def gL (S : pS) : List Nat := S.1.1
def gK (S : pS) : Nat → Nat := S.1.2
def gI (S : pS) : Nat → Nat → Int32 := S.2.1.1
def gR (S : pS) : Nat → Nat → Option Nat := S.2.1.2
def gN (S : pS) : Nat → Nat := S.2.2.1
def gX (S : pS) : Nat → Nat → Int32 := S.2.2.2.1
def gY (S : pS) : Nat → Nat → Option Nat := S.2.2.2.2
def sI (S : pS) (f a : Nat) (v : Int32) : pS := (S.1, (va_up (gI S) f (va_up (gI S f) a v), gR S), S.2.2)
def sR (S : pS) (f a : Nat) (v : Option Nat) : pS := (S.1, (gI S, va_up (gR S) f (va_up (gR S f) a v)), S.2.2)
def sX (S : pS) (a : Nat) (r : Nat → Int32) : pS := (S.1, S.2.1, gN S, va_up (gX S) a r, gY S)
def sY (S : pS) (a : Nat) (r : Nat → Option Nat) : pS := (S.1, S.2.1, gN S, gX S, va_up (gY S) a r)
def nO (S : pS) (a k : Nat) : pS := ((gL S ++ [a], va_up (gK S) a k), (fun f => va_up (gI S f) a 0, fun f => va_up (gR S f) a none), S.2.2)
def nX (S : pS) (a n : Nat) : pS := ((gL S ++ [a], va_up (gK S) a 10), S.2.1, va_up (gN S) a n, va_up (gX S) a (fun _ => 0), gY S)
def nY (S : pS) (a k n : Nat) : pS := ((gL S ++ [a], va_up (gK S) a k), S.2.1, va_up (gN S) a n, gX S, va_up (gY S) a (fun _ => none))
def hk (S : pS) (a k : Nat) : Prop := a ∈ gL S ∧ gK S a = k
/-! tables of the ten classes -/
def nF : Nat → Nat
  | 0 => 2
  | 1 => 9
  | 2 => 3
  | 3 => 4
  | 4 => 2
  | 5 => 4
  | 6 => 4
  | 7 => 12
  | 8 => 10
  | _ => 30
def TF : Nat → u_T
  | 0 => TX0
  | 1 => TX1
  | 2 => TX2
  | 3 => TX3
  | 4 => TX4
  | 5 => TX5
  | 6 => TX6
  | 7 => TX7
  | 8 => TX8
  | _ => TX9
def RF : Nat → String
  | 0 => RX0
  | 1 => RX1
  | 2 => RX2
  | 3 => RX3
  | 4 => RX4
  | 5 => RX5
  | 6 => RX6
  | 7 => RX7
  | 8 => RX8
  | _ => RX9
def tyF : Nat → Nat → FieldType
  | 0 => tyX0
  | 1 => tyX1
  | 2 => tyX2
  | 3 => tyX3
  | 4 => tyX4
  | 5 => tyX5
  | 6 => tyX6
  | 7 => tyX7
  | 8 => tyX8
  | _ => tyX9
theorem ten {P : Nat → Prop} (h0 : P 0) (h1 : P 1) (h2 : P 2) (h3 : P 3) (h4 : P 4) (h5 : P 5) (h6 : P 6) (h7 : P 7) (h8 : P 8) (h9 : P 9) : ∀ k, k < 10 → P k := by
  intro k hk
  match k, hk with
  | 0, _ => exact h0
  | 1, _ => exact h1
  | 2, _ => exact h2
  | 3, _ => exact h3
  | 4, _ => exact h4
  | 5, _ => exact h5
  | 6, _ => exact h6
  | 7, _ => exact h7
  | 8, _ => exact h8
  | 9, _ => exact h9
  | k + 10, h => exact absurd h (by omega)
theorem F_cl : ∀ k, k < 10 → vwCl[k]? = some (RF k, TF k, nF k) := ten rfl rfl rfl rfl rfl rfl rfl rfl rfl rfl
theorem F_ty : ∀ k, k < 10 → ∀ j, j < nF k → parseFieldDescriptor (TF k j).2.2.1 = some (tyF k j) := ten tyX0_ok tyX1_ok tyX2_ok tyX3_ok tyX4_ok tyX5_ok tyX6_ok tyX7_ok tyX8_ok tyX9_ok
theorem F_nm : ∀ k, k < 10 → ∀ a, a < nF k → ∀ b, b < nF k → a ≠ b → (TF k a).2.1 ≠ (TF k b).2.1 := ten nmX0 nmX1 nmX2 nmX3 nmX4 nmX5 nmX6 nmX7 nmX8 nmX9
theorem F_ws : ∀ k, k < 10 → ∀ w ∈ u_ws (RF k) (TF k) (nF k), w ∈ GW := ten fwX0 fwX1 fwX2 fwX3 fwX4 fwX5 fwX6 fwX7 fwX8 fwX9
def fint (k j : Nat) : Bool := match tyF k j with
  | .int => true
  | .boolean => true
  | _ => false
def fo (S : pS) (k a : Nat) : List Value := (List.range (nF k)).map fun j => if fint k j then .int (gI S (32 * k + j) a) else va_rf (gR S (32 * k + j) a)
def pF (cy : Nat → ClassId) (S : pS) : Nat → va_E := fun a => if gK S a < 10 then .inr (gK S a, fo S (gK S a) a) else if gK S a = 10 then .inl (cy 10, gN S a, .inl (gX S a)) else .inl (cy (gK S a), gN S a, .inr (.inr (.inr (.inr (gY S a)))))
def aC : Nat → String
  | 11 => RX2
  | 12 => RX3
  | 13 => RX5
  | _ => RX6
def tys (cy : Nat → ClassId) : List (ClassId × FieldType) := [(cy 10, .int), (cy 11, .object RX2), (cy 12, .object RX3), (cy 13, .object RX5), (cy 14, .object RX6)]
theorem tys_at (cy : Nat → ClassId) {k : Nat} (h1 : 10 < k) (h2 : k < 15) : (tys cy)[k - 10]? = some (cy k, .object (aC k)) := by
  match k, h1, h2 with
  | 11, _, _ => rfl
  | 12, _, _ => rfl
  | 13, _, _ => rfl
  | 14, _, _ => rfl
/-! how writes show in the pool's rows -/
theorem gI_sI (S : pS) (f a : Nat) (v : Int32) (g b : Nat) : gI (sI S f a v) g b = if g = f ∧ b = a then v else gI S g b := by
  simp only [sI, gI, va_up]
  by_cases h1 : g = f
  · subst h1
    by_cases h2 : b = a <;> simp [h2, va_up]
  · simp [h1]
theorem gR_sR (S : pS) (f a : Nat) (v : Option Nat) (g b : Nat) : gR (sR S f a v) g b = if g = f ∧ b = a then v else gR S g b := by
  simp only [sR, gR, va_up]
  by_cases h1 : g = f
  · subst h1
    by_cases h2 : b = a <;> simp [h2, va_up]
  · simp [h1]
theorem fo_len (S : pS) (k a : Nat) : (fo S k a).length = nF k := by simp [fo]
theorem fo_at (S : pS) (k a : Nat) {j : Nat} (hj : j < nF k) : (fo S k a)[j]? = some (if fint k j then .int (gI S (32 * k + j) a) else va_rf (gR S (32 * k + j) a)) := by
  simp [fo, List.getElem?_map, List.getElem?_range hj]
theorem fo_sI_ne (S : pS) (f a : Nat) (v : Int32) (k b : Nat) (h : b ≠ a) : fo (sI S f a v) k b = fo S k b := by
  unfold fo
  apply List.map_congr_left
  intro j _
  have e : gI (sI S f a v) (32 * k + j) b = gI S (32 * k + j) b := by rw [gI_sI, if_neg (fun q => h q.2)]
  rw [e]
  rfl
theorem fo_sR_ne (S : pS) (f a : Nat) (v : Option Nat) (k b : Nat) (h : b ≠ a) : fo (sR S f a v) k b = fo S k b := by
  unfold fo
  apply List.map_congr_left
  intro j _
  have e : gR (sR S f a v) (32 * k + j) b = gR S (32 * k + j) b := by rw [gR_sR, if_neg (fun q => h q.2)]
  rw [e]
  rfl
theorem fo_sI (S : pS) (k j a : Nat) (v : Int32) (hj : j < nF k) (hf : fint k j = true) : fo (sI S (32 * k + j) a v) k a = (fo S k a).set j (.int v) := by
  apply List.ext_getElem?
  intro i
  by_cases hi : i < nF k
  · rw [fo_at _ _ _ hi]
    by_cases hij : i = j
    · subst hij
      have e : gI (sI S (32 * k + i) a v) (32 * k + i) a = v := by rw [gI_sI, if_pos ⟨rfl, rfl⟩]
      rw [List.getElem?_set_self (by rw [fo_len]; exact hi), e, if_pos hf]
    · have e : gI (sI S (32 * k + j) a v) (32 * k + i) a = gI S (32 * k + i) a := by rw [gI_sI, if_neg (fun q => hij (by omega))]
      rw [List.getElem?_set_ne (Ne.symm hij), fo_at _ _ _ hi, e]
      rfl
  · rw [List.getElem?_eq_none (by rw [fo_len]; omega), List.getElem?_eq_none (by rw [List.length_set, fo_len]; omega)]
theorem fo_sR (S : pS) (k j a : Nat) (v : Option Nat) (hj : j < nF k) (hf : fint k j = false) : fo (sR S (32 * k + j) a v) k a = (fo S k a).set j (va_rf v) := by
  apply List.ext_getElem?
  intro i
  by_cases hi : i < nF k
  · rw [fo_at _ _ _ hi]
    by_cases hij : i = j
    · subst hij
      have e : gR (sR S (32 * k + i) a v) (32 * k + i) a = v := by rw [gR_sR, if_pos ⟨rfl, rfl⟩]
      rw [List.getElem?_set_self (by rw [fo_len]; exact hi), e, hf]
      rfl
    · have e : gR (sR S (32 * k + j) a v) (32 * k + i) a = gR S (32 * k + i) a := by rw [gR_sR, if_neg (fun q => hij (by omega))]
      rw [List.getElem?_set_ne (Ne.symm hij), fo_at _ _ _ hi, e]
      rfl
  · rw [List.getElem?_eq_none (by rw [fo_len]; omega), List.getElem?_eq_none (by rw [List.length_set, fo_len]; omega)]
theorem pF_obj (cy : Nat → ClassId) (S : pS) {a k : Nat} (hk : gK S a = k) (h : k < 10) : pF cy S a = .inr (k, fo S k a) := by
  unfold pF
  rw [hk, if_pos h]
theorem pF_int (cy : Nat → ClassId) (S : pS) {a : Nat} (hk : gK S a = 10) : pF cy S a = .inl (cy 10, gN S a, .inl (gX S a)) := by
  unfold pF
  rw [hk, if_neg (by omega), if_pos rfl]
theorem pF_ref (cy : Nat → ClassId) (S : pS) {a k : Nat} (hk : gK S a = k) (h : 10 < k) : pF cy S a = .inl (cy k, gN S a, .inr (.inr (.inr (.inr (gY S a))))) := by
  unfold pF
  rw [hk, if_neg (by omega), if_neg (by omega)]
theorem pF_sI (cy : Nat → ClassId) (S : pS) {a k j : Nat} (v : Int32) (hk : gK S a = k) (h : k < 10) (hj : j < nF k) (hf : fint k j = true) (b : Nat) : va_up (pF cy S) a (.inr (k, (fo S k a).set j (.int v))) b = pF cy (sI S (32 * k + j) a v) b := by
  by_cases hb : b = a
  · subst hb
    rw [va_up_self, pF_obj cy _ (show gK (sI S (32 * k + j) b v) b = k from hk) h, fo_sI S k j b v hj hf]
  · rw [va_up_ne _ _ hb]
    unfold pF
    show (if gK S b < 10 then _ else _) = (if gK S b < 10 then _ else _)
    rw [fo_sI_ne _ _ _ _ _ _ hb]
    rfl
theorem pF_sR (cy : Nat → ClassId) (S : pS) {a k j : Nat} (v : Option Nat) (hk : gK S a = k) (h : k < 10) (hj : j < nF k) (hf : fint k j = false) (b : Nat) : va_up (pF cy S) a (.inr (k, (fo S k a).set j (va_rf v))) b = pF cy (sR S (32 * k + j) a v) b := by
  by_cases hb : b = a
  · subst hb
    rw [va_up_self, pF_obj cy _ (show gK (sR S (32 * k + j) b v) b = k from hk) h, fo_sR S k j b v hj hf]
  · rw [va_up_ne _ _ hb]
    unfold pF
    show (if gK S b < 10 then _ else _) = (if gK S b < 10 then _ else _)
    rw [fo_sR_ne _ _ _ _ _ _ hb]
    rfl
theorem pF_sX (cy : Nat → ClassId) (S : pS) {a : Nat} (r : Nat → Int32) (hk : gK S a = 10) (b : Nat) : va_up (pF cy S) a (.inl (cy 10, gN S a, .inl r)) b = pF cy (sX S a r) b := by
  by_cases hb : b = a
  · subst hb
    rw [va_up_self, pF_int cy (sX S b r) hk]
    show _ = (Sum.inl (cy 10, gN S b, Sum.inl (va_up (gX S) b r b)) : va_E)
    rw [va_up_self]
  · rw [va_up_ne _ _ hb]
    unfold pF
    show (if gK S b < 10 then _ else _) = (if gK S b < 10 then _ else if gK S b = 10 then Sum.inl (cy 10, gN S b, Sum.inl (va_up (gX S) a r b)) else _)
    rw [va_up_ne _ _ hb]
    rfl
theorem pF_sY (cy : Nat → ClassId) (S : pS) {a k : Nat} (r : Nat → Option Nat) (hk : gK S a = k) (h : 10 < k) (b : Nat) : va_up (pF cy S) a (.inl (cy k, gN S a, .inr (.inr (.inr (.inr r))))) b = pF cy (sY S a r) b := by
  by_cases hb : b = a
  · subst hb
    rw [va_up_self, pF_ref cy (sY S b r) hk h]
    show _ = (Sum.inl (cy k, gN S b, Sum.inr (Sum.inr (Sum.inr (Sum.inr (va_up (gY S) b r b))))) : va_E)
    rw [va_up_self]
  · rw [va_up_ne _ _ hb]
    unfold pF
    show (if gK S b < 10 then _ else _) = (if gK S b < 10 then _ else if gK S b = 10 then _ else Sum.inl (cy (gK S b), gN S b, Sum.inr (Sum.inr (Sum.inr (Sum.inr (va_up (gY S) a r b))))))
    rw [va_up_ne _ _ hb]
    rfl
theorem fo_nO_ne (S : pS) (a k0 k b : Nat) (h : b ≠ a) : fo (nO S a k0) k b = fo S k b := by
  unfold fo
  apply List.map_congr_left
  intro j _
  show (if fint k j then Value.int (va_up (gI S (32 * k + j)) a 0 b) else va_rf (va_up (gR S (32 * k + j)) a none b)) = _
  rw [va_up_ne _ _ h, va_up_ne _ _ h]
def f0 (k : Nat) : List Value := (List.range (nF k)).map fun j => if fint k j then .int 0 else .null
theorem pF_nO (cy : Nat → ClassId) (S : pS) (a k : Nat) (h : k < 10) (b : Nat) : va_up (pF cy S) a (.inr (k, f0 k)) b = pF cy (nO S a k) b := by
  by_cases hb : b = a
  · subst hb
    rw [va_up_self, pF_obj cy (nO S b k) (show va_up (gK S) b k b = k from va_up_self _ _ _) h]
    congr 2
    unfold f0 fo
    apply List.map_congr_left
    intro j _
    show _ = (if fint k j then Value.int (va_up (gI S (32 * k + j)) b 0 b) else va_rf (va_up (gR S (32 * k + j)) b none b))
    rw [va_up_self, va_up_self]
    rfl
  · rw [va_up_ne _ _ hb]
    unfold pF
    show _ = (if va_up (gK S) a k b < 10 then Sum.inr (va_up (gK S) a k b, fo (nO S a k) (va_up (gK S) a k b) b) else if va_up (gK S) a k b = 10 then _ else Sum.inl (cy (va_up (gK S) a k b), _, _))
    rw [va_up_ne _ _ hb, fo_nO_ne _ _ _ _ _ hb]
    rfl
theorem pF_nX (cy : Nat → ClassId) (S : pS) (a n : Nat) (b : Nat) : va_up (pF cy S) a (.inl (cy 10, n, .inl (fun _ => 0))) b = pF cy (nX S a n) b := by
  by_cases hb : b = a
  · subst hb
    rw [va_up_self, pF_int cy (nX S b n) (show va_up (gK S) b 10 b = 10 from va_up_self _ _ _)]
    show _ = (Sum.inl (cy 10, va_up (gN S) b n b, Sum.inl (va_up (gX S) b (fun _ => 0) b)) : va_E)
    rw [va_up_self, va_up_self]
  · rw [va_up_ne _ _ hb]
    unfold pF
    show _ = (if va_up (gK S) a 10 b < 10 then Sum.inr (va_up (gK S) a 10 b, fo (nX S a n) (va_up (gK S) a 10 b) b) else if va_up (gK S) a 10 b = 10 then Sum.inl (cy 10, va_up (gN S) a n b, Sum.inl (va_up (gX S) a (fun _ => 0) b)) else Sum.inl (cy (va_up (gK S) a 10 b), va_up (gN S) a n b, _))
    rw [va_up_ne _ _ hb, va_up_ne _ _ hb, va_up_ne _ _ hb]
    rfl
theorem pF_nY (cy : Nat → ClassId) (S : pS) (a k n : Nat) (h : 10 < k) (b : Nat) : va_up (pF cy S) a (.inl (cy k, n, .inr (.inr (.inr (.inr (fun _ => none)))))) b = pF cy (nY S a k n) b := by
  by_cases hb : b = a
  · subst hb
    rw [va_up_self, pF_ref cy (nY S b k n) (show va_up (gK S) b k b = k from va_up_self _ _ _) h]
    show _ = (Sum.inl (cy k, va_up (gN S) b n b, Sum.inr (Sum.inr (Sum.inr (Sum.inr (va_up (gY S) b (fun _ => none) b))))) : va_E)
    rw [va_up_self, va_up_self]
  · rw [va_up_ne _ _ hb]
    unfold pF
    show _ = (if va_up (gK S) a k b < 10 then Sum.inr (va_up (gK S) a k b, fo (nY S a k n) (va_up (gK S) a k b) b) else if va_up (gK S) a k b = 10 then Sum.inl (cy 10, va_up (gN S) a n b, Sum.inl (gX S b)) else Sum.inl (cy (va_up (gK S) a k b), va_up (gN S) a n b, Sum.inr (Sum.inr (Sum.inr (Sum.inr (va_up (gY S) a (fun _ => none) b))))))
    rw [va_up_ne _ _ hb, va_up_ne _ _ hb, va_up_ne _ _ hb]
    rfl
end
section
/-! ===== the judgement V: the machine at a place of a method, over the pool ===== -/
abbrev pM : Type := ByteArray × Nat × Option FieldType × MethodName × (Nat × Nat)
abbrev mB (M : pM) : ByteArray := M.1
abbrev mL (M : pM) : Nat := M.2.1
abbrev mR (M : pM) : Option FieldType := M.2.2.1
abbrev mY (M : pM) : MethodName := M.2.2.2.1
abbrev mC (M : pM) : Nat × Nat := M.2.2.2.2
/-- what lies outside the pool, and never changes: statics, fields of objects, arrays, objects of a class, String constants -/
abbrev pX : Type := List (String × String × String × Value) × List (String × String × String × Value × Nat) × List (FieldType × Nat × Nat × (Nat → Value)) × List (String × Nat) × List (String × Nat × String × Nat)
def nestM : List (String × Nat × MethodName) := [(RX7, 23, yX0_init), (RX7, 42, yX6_init), (RX8, 24, yX1_init), (RX1, 11, yX4_init), (RX8, 50, yX2_init), (RX8, 51, yX3_init), (RX3, 17, yX6_init), (RX3, 24, yX2_init), (RX7, 144, yX8_held), (RX7, 105, yX8_within), (RX0, 29, yX8_within), (RX1, 82, yX8_within), (RX2, 19, yX8_held), (RX2, 43, yX8_within)]
def Ext (x : pX) (A : Nat → Prop) (U : State) : Prop :=
  (∀ q ∈ x.1, va_Z q.1 q.2.1 q.2.2.1 q.2.2.2 A U U.heap) ∧ (∀ q ∈ x.2.1, va_OF q.1 q.2.1 q.2.2.1 q.2.2.2.1 q.2.2.2.2 A U U.heap) ∧ (∀ q ∈ x.2.2.1, va_T q.1 q.2.1 q.2.2.1 q.2.2.2 A U U.heap) ∧ (∀ q ∈ x.2.2.2.1, va_O q.1 q.2 A U U.heap) ∧ (∀ q ∈ x.2.2.2.2, vk_R q.1 q.2.1 q.2.2.1 q.2.2.2 U) ∧
  (∀ q ∈ nestM, va_Nw (.methodLinkNest q.1 q.2.1 q.2.2 RX8) U) ∧ va_Nw (.fieldLinkNest RX6 24 RX8 "ABOVE" "[I" RX8) U ∧ (∀ k : Nat, 10 < k → k < 15 → va_AO (aC k) U)
theorem Ext.move {x : pX} {A A' : Nat → Prop} {s U : State} {H : Heap} {locs : List Loc} (h : Ext x A s) (hS : va_S A s.heap H locs) (hA : ∀ q, A' q → A q) (hU : U.heap = H) (hW : s.WarmedH U.vm) : Ext x A' U := by
  obtain ⟨h1, h2, h3, h4, h5, h6, h7, h8⟩ := h
  subst hU
  exact ⟨fun q hq => (((h1 q hq).kept hS.2.1).narrow hA).moved hW.alike, fun q hq => (((h2 q hq).kept hS.2.1).narrow hA).moved hW.alike, fun q hq => (((h3 q hq).kept hS.2.1).narrow hA).moved hW.alike, fun q hq => (((h4 q hq).kept hS.2.1).narrow hA).moved hW.alike, fun q hq => (h5 q hq).warm hW, fun q hq => (h6 q hq).warmM hW, h7.warmF hW, fun k a b => (h8 k a b).moved hW.alike⟩
theorem Ext.same {x : pX} {A : Nat → Prop} {u U : State} (h : Ext x A u) (hv : U.vm = u.vm) (hh : U.heap = u.heap) : Ext x A U := by
  obtain ⟨h1, h2, h3, h4, h5, h6, h7, h8⟩ := h
  have ha : u.vm.Alike U.vm := by rw [hv]; exact Vm.Alike.refl _
  exact ⟨fun q hq => by rw [hh]; exact (h1 q hq).moved ha, fun q hq => by rw [hh]; exact (h2 q hq).moved ha, fun q hq => by rw [hh]; exact (h3 q hq).moved ha, fun q hq => by rw [hh]; exact (h4 q hq).moved ha, fun q hq => (h5 q hq).same hv, fun q hq => va_Nw.same rfl hv.symm (h6 q hq), va_Nw.same rfl hv.symm h7, fun k a b => (h8 k a b).moved ha⟩
def Pool (A : Nat → Prop) (D : va_G) (cy : Nat → ClassId) (s : State) (S : pS) (H : Heap) (locs : List Loc) : Prop := va_P D vwCl (va_pl (gL S) (pF cy S)) H ∧ va_D A (va_pl (gL S) (pF cy S)) ∧ va_S A s.heap H locs
def rtn (M : pM) (i : Instr) (v : Option Value) : Prop :=
  (i = .ireturn ∧ ∃ (r : Int32) (ty : FieldType), v = some (.int r) ∧ mR M = some ty ∧ narrow ty (.int r) = .int r) ∨ (i = .return_ ∧ v = none ∧ mR M = none) ∨ (i = .areturn ∧ ∃ (r : Option Nat) (ty : FieldType), v = some (va_rf r) ∧ mR M = some ty ∧ ((∃ n, ty = .object n) ∨ ∃ t, ty = .array t))
def Cx (x : pX) (d : Nat) (M : pM) (Q : Option Value → pS → Prop) (p : Program) (l : Launch) (e : Env) (R : Room) (s : State) (m : MethodId) (args : Array Value) (below : List Frame) (meth : Method) (c : Code) (Z : State → Prop) (A : Nat → Prop) (D : va_G) (cy : Nat → ClassId) : Prop :=
  CallFix p m c (mB M) (mL M) s args GW (mY M).cls ∧ va_K D vwCl (tys cy) s ∧ Ext x A s ∧ (∀ q, s.heap.size ≤ q → A q) ∧ (d ≤ R.frames ∧ 64 * d ≤ R.locals ∧ (mC M).1 ≤ R.cells ∧ (mC M).2 ≤ R.slots) ∧ ((mY M).name = "<init>" → meth.name = "<init>") ∧
  ∀ (v : Option Value) (S : pS) (H : Heap) (locs : List Loc) (cells slots : Nat) (ls : Array Slot) (pc : Nat) (i : Instr), decode (mB M) pc = .ok (i, 1) → rtn M i v → Q v S → Pool A D cy s S H locs → cells ≤ (mC M).1 → slots ≤ (mC M).2 → W p l e R s m args below meth c H locs cells slots Z (F0 m pc ls v.toList)
def V (x : pX) (d : Nat) (M : pM) (Q : Option Value → pS → Prop) (b : Nat × Nat) (pc : Nat) (ls : List (Nat × Value)) (st : List Value) (S : pS) : Prop :=
  ∀ (p : Program) (l : Launch) (e : Env) (R : Room) (s : State) (m : MethodId) (args : Array Value) (below : List Frame) (meth : Method) (c : Code) (Z : State → Prop) (A : Nat → Prop) (D : va_G) (cy : Nat → ClassId), Cx x d M Q p l e R s m args below meth c Z A D cy →
  ∀ (H : Heap) (locs : List Loc) (cells slots : Nat) (la : Array Slot), Pool A D cy s S H locs → cells + b.1 ≤ (mC M).1 → slots + b.2 ≤ (mC M).2 → lv_has la (mL M) ls → W p l e R s m args below meth c H locs cells slots Z (F0 m pc la st)
abbrev pK : Type := Nat × Nat → List (Nat × Value) → List Value → pS → Prop
abbrev tr : Type := pX → Nat → Nat × Nat → List (Nat × Value) → List Value → pS → pK → Prop
abbrev tb : Type := pX → Nat → Nat × Nat → List (Nat × Value) → List Value → pS → (Nat → pK) → (Option Value → pS → Prop) → Prop
def sq (f g : tr) : tr := fun x d b ls st S K => f x d b ls st S (fun b ls st S => g x d b ls st S K)
def sqb (f : tr) (g : tb) : tb := fun x d b ls st S K Q => f x d b ls st S (fun b ls st S => g x d b ls st S K Q)
/-- a stretch from pc to pc' -/
def J (M : pM) (pc pc' : Nat) (f : tr) : Prop := ∀ (x : pX) (d : Nat) (Q : Option Value → pS → Prop) (b : Nat × Nat) (ls : List (Nat × Value)) (st : List Value) (S : pS) (K : pK), (∀ b ls st S, K b ls st S → V x d M Q b pc' ls st S) → f x d b ls st S K → V x d M Q b pc ls st S
/-- a block from pc on, to its exits -/
def JB (M : pM) (pc : Nat) (f : tb) : Prop := ∀ (x : pX) (d : Nat) (Q : Option Value → pS → Prop) (b : Nat × Nat) (ls : List (Nat × Value)) (st : List Value) (S : pS) (K : Nat → pK), (∀ pc' b ls st S, K pc' b ls st S → V x d M Q b pc' ls st S) → f x d b ls st S K Q → V x d M Q b pc ls st S
theorem JB.go {M : pM} {pc : Nat} {f : tb} (h : JB M pc f) {x : pX} {d : Nat} {Q : Option Value → pS → Prop} {b : Nat × Nat} {ls : List (Nat × Value)} {st : List Value} {S : pS} (k : f x d b ls st S (fun pc' b ls st S => V x d M Q b pc' ls st S) Q) : V x d M Q b pc ls st S := h x d Q b ls st S _ (fun _ _ _ _ _ q => q) k
def tX (pc : Nat) : tb := fun _ _ b ls st S K _ => K pc b ls st S
theorem J_x {M : pM} {pc : Nat} : JB M pc (tX pc) := fun _ _ _ _ _ _ _ _ hK h => hK _ _ _ _ _ h
/-! locals: a list in the order of the places -/
def lg : List (Nat × Value) → Nat → Option Value
  | [], _ => none
  | q :: r, i => if q.1 = i then some q.2 else lg r i
def c2 (v : Value) : Bool := match v with
  | .long _ => true
  | .double _ => true
  | _ => false
def lup (i : Nat) (v : Value) : List (Nat × Value) → List (Nat × Value)
  | [] => [(i, v)]
  | q :: r => if c2 q.2 then lup i v r else if q.1 = i then (i, v) :: r.filter (fun q => !c2 q.2 && !(q.1 == i)) else if q.1 < i then q :: lup i v r else (i, v) :: q :: r.filter (fun q => !c2 q.2 && !(q.1 == i))
theorem lg_mem {ls : List (Nat × Value)} {i : Nat} {v : Value} (h : lg ls i = some v) : (i, v) ∈ ls := by
  induction ls with
  | nil => cases h
  | cons q r ih =>
    unfold lg at h
    split at h
    · rename_i h1
      cases h
      subst h1
      exact List.mem_cons_self
    · exact List.mem_cons_of_mem _ (ih h)
theorem lup_mem {ls : List (Nat × Value)} {i : Nat} {v : Value} {q : Nat × Value} (h : q ∈ lup i v ls) : q = (i, v) ∨ (q ∈ ls ∧ q.1 ≠ i ∧ c2 q.2 = false) := by
  induction ls with
  | nil =>
    simp only [lup, List.mem_singleton] at h
    exact Or.inl h
  | cons a r ih =>
    unfold lup at h
    split at h
    · rcases ih h with h1 | h1
      · exact Or.inl h1
      · exact Or.inr ⟨List.mem_cons_of_mem _ h1.1, h1.2⟩
    · rename_i hc
      split at h
      · rcases List.mem_cons.mp h with h1 | h1
        · exact Or.inl h1
        · have h2 := List.mem_filter.mp h1
          simp at h2
          exact Or.inr ⟨List.mem_cons_of_mem _ h2.1, h2.2.2, h2.2.1⟩
      · rename_i hi
        split at h
        · rcases List.mem_cons.mp h with h1 | h1
          · subst h1
            exact Or.inr ⟨List.mem_cons_self, hi, by simpa using hc⟩
          · rcases ih h1 with h2 | h2
            · exact Or.inl h2
            · exact Or.inr ⟨List.mem_cons_of_mem _ h2.1, h2.2⟩
        · rcases List.mem_cons.mp h with h1 | h1
          · exact Or.inl h1
          · rcases List.mem_cons.mp h1 with h2 | h2
            · subst h2
              exact Or.inr ⟨List.mem_cons_self, hi, by simpa using hc⟩
            · have h3 := List.mem_filter.mp h2
              simp at h3
              exact Or.inr ⟨List.mem_cons_of_mem _ h3.1, h3.2.2, h3.2.1⟩
theorem c2_cat {v : Value} (h : c2 v = false) : v.category ≠ 2 := by
  cases v <;> simp_all [c2, Value.category]
theorem lup_has {la : Array Slot} {nL : Nat} {ls : List (Nat × Value)} {i : Nat} {v : Value} (h : lv_has la nL ((i, v) :: ls.filter (fun q => !(q.1 == i) && !(q.1 + 1 == i && q.2.category == 2)))) : lv_has la nL (lup i v ls) := by
  refine ⟨h.1, h.2.1, fun q hq => h.2.2 q ?_⟩
  rcases lup_mem hq with h1 | ⟨h1, h2, h3⟩
  · subst h1
    exact List.mem_cons_self
  · refine List.mem_cons_of_mem _ (List.mem_filter.mpr ⟨h1, ?_⟩)
    have h4 := c2_cat h3
    simp [h2, h4]
theorem lg_at {la : Array Slot} {nL : Nat} {ls : List (Nat × Value)} {i : Nat} {v : Value} (h : lv_has la nL ls) (hg : lg ls i = some v) : la[i]? = some (.val v) := h.2.2 (i, v) (lg_mem hg)
theorem V_lw {x : pX} {d : Nat} {M : pM} {Q : Option Value → pS → Prop} {b : Nat × Nat} {pc : Nat} {ls ls' : List (Nat × Value)} {st : List Value} {S : pS} (hs : ∀ q ∈ ls', q ∈ ls) (k : V x d M Q b pc ls' st S) : V x d M Q b pc ls st S :=
  fun p l e R s m args below meth c Z A D cy C H locs cells slots la hP h1 h2 hl => k p l e R s m args below meth c Z A D cy C H locs cells slots la hP h1 h2 ⟨hl.1, hl.2.1, fun q hq => hl.2.2 q (hs q hq)⟩
section JJ
variable {M : pM} {pc pc1 pc2 : Nat}
theorem J_sq {f g : tr} (h1 : J M pc pc1 f) (h2 : J M pc1 pc2 g) : J M pc pc2 (sq f g) := fun x d Q b ls st S K hK h => h1 x d Q b ls st S _ (fun b ls st S q => h2 x d Q b ls st S K hK q) h
theorem J_sqb {f : tr} {g : tb} (h1 : J M pc pc1 f) (h2 : JB M pc1 g) : JB M pc (sqb f g) := fun x d Q b ls st S K hK h => h1 x d Q b ls st S _ (fun b ls st S q => h2 x d Q b ls st S K hK q) h

def tq_iadd : tr := fun _ _ b ls st S K => match st with
  | .int v :: .int u :: r => K b ls (.int (u + v) :: r) S
  | _ => False
theorem J_iadd (hd : decode (mB M) pc = .ok (.iadd, 1)) : J M pc (pc + 1) tq_iadd := by
  intro x d Q b ls st S K hK h
  unfold tq_iadd at h
  split at h
  · have k := hK _ _ _ _ h
    intro p l e R s m args below meth c Z A D cy C H locs cells slots la hP h1 h2 hl
    exact lv_iadd C.1.1 C.1.2.1 hd (k p l e R s m args below meth c Z A D cy C H locs cells slots la hP h1 h2 hl)
  · exact h.elim
def tq_isub : tr := fun _ _ b ls st S K => match st with
  | .int v :: .int u :: r => K b ls (.int (u - v) :: r) S
  | _ => False
theorem J_isub (hd : decode (mB M) pc = .ok (.isub, 1)) : J M pc (pc + 1) tq_isub := by
  intro x d Q b ls st S K hK h
  unfold tq_isub at h
  split at h
  · have k := hK _ _ _ _ h
    intro p l e R s m args below meth c Z A D cy C H locs cells slots la hP h1 h2 hl
    exact lv_isub C.1.1 C.1.2.1 hd (k p l e R s m args below meth c Z A D cy C H locs cells slots la hP h1 h2 hl)
  · exact h.elim
def tq_imul : tr := fun _ _ b ls st S K => match st with
  | .int v :: .int u :: r => K b ls (.int (u * v) :: r) S
  | _ => False
theorem J_imul (hd : decode (mB M) pc = .ok (.imul, 1)) : J M pc (pc + 1) tq_imul := by
  intro x d Q b ls st S K hK h
  unfold tq_imul at h
  split at h
  · have k := hK _ _ _ _ h
    intro p l e R s m args below meth c Z A D cy C H locs cells slots la hP h1 h2 hl
    exact lv_imul C.1.1 C.1.2.1 hd (k p l e R s m args below meth c Z A D cy C H locs cells slots la hP h1 h2 hl)
  · exact h.elim
def tq_iand : tr := fun _ _ b ls st S K => match st with
  | .int v :: .int u :: r => K b ls (.int (u &&& v) :: r) S
  | _ => False
theorem J_iand (hd : decode (mB M) pc = .ok (.iand, 1)) : J M pc (pc + 1) tq_iand := by
  intro x d Q b ls st S K hK h
  unfold tq_iand at h
  split at h
  · have k := hK _ _ _ _ h
    intro p l e R s m args below meth c Z A D cy C H locs cells slots la hP h1 h2 hl
    exact lv_iand C.1.1 C.1.2.1 hd (k p l e R s m args below meth c Z A D cy C H locs cells slots la hP h1 h2 hl)
  · exact h.elim
def tq_ior : tr := fun _ _ b ls st S K => match st with
  | .int v :: .int u :: r => K b ls (.int (u ||| v) :: r) S
  | _ => False
theorem J_ior (hd : decode (mB M) pc = .ok (.ior, 1)) : J M pc (pc + 1) tq_ior := by
  intro x d Q b ls st S K hK h
  unfold tq_ior at h
  split at h
  · have k := hK _ _ _ _ h
    intro p l e R s m args below meth c Z A D cy C H locs cells slots la hP h1 h2 hl
    exact lv_ior C.1.1 C.1.2.1 hd (k p l e R s m args below meth c Z A D cy C H locs cells slots la hP h1 h2 hl)
  · exact h.elim
def tq_ixor : tr := fun _ _ b ls st S K => match st with
  | .int v :: .int u :: r => K b ls (.int (u ^^^ v) :: r) S
  | _ => False
theorem J_ixor (hd : decode (mB M) pc = .ok (.ixor, 1)) : J M pc (pc + 1) tq_ixor := by
  intro x d Q b ls st S K hK h
  unfold tq_ixor at h
  split at h
  · have k := hK _ _ _ _ h
    intro p l e R s m args below meth c Z A D cy C H locs cells slots la hP h1 h2 hl
    exact lv_ixor C.1.1 C.1.2.1 hd (k p l e R s m args below meth c Z A D cy C H locs cells slots la hP h1 h2 hl)
  · exact h.elim
def tq_ishl : tr := fun _ _ b ls st S K => match st with
  | .int v :: .int u :: r => K b ls (.int (u <<< (v &&& 31)) :: r) S
  | _ => False
theorem J_ishl (hd : decode (mB M) pc = .ok (.ishl, 1)) : J M pc (pc + 1) tq_ishl := by
  intro x d Q b ls st S K hK h
  unfold tq_ishl at h
  split at h
  · have k := hK _ _ _ _ h
    intro p l e R s m args below meth c Z A D cy C H locs cells slots la hP h1 h2 hl
    exact lv_ishl C.1.1 C.1.2.1 hd (k p l e R s m args below meth c Z A D cy C H locs cells slots la hP h1 h2 hl)
  · exact h.elim
def tq_ishr : tr := fun _ _ b ls st S K => match st with
  | .int v :: .int u :: r => K b ls (.int (u >>> (v &&& 31)) :: r) S
  | _ => False
theorem J_ishr (hd : decode (mB M) pc = .ok (.ishr, 1)) : J M pc (pc + 1) tq_ishr := by
  intro x d Q b ls st S K hK h
  unfold tq_ishr at h
  split at h
  · have k := hK _ _ _ _ h
    intro p l e R s m args below meth c Z A D cy C H locs cells slots la hP h1 h2 hl
    exact lv_ishr C.1.1 C.1.2.1 hd (k p l e R s m args below meth c Z A D cy C H locs cells slots la hP h1 h2 hl)
  · exact h.elim
def tq_iushr : tr := fun _ _ b ls st S K => match st with
  | .int v :: .int u :: r => K b ls (.int (u.toUInt32 >>> (v.toUInt32 &&& Int32.toUInt32 31)).toInt32 :: r) S
  | _ => False
theorem J_iushr (hd : decode (mB M) pc = .ok (.iushr, 1)) : J M pc (pc + 1) tq_iushr := by
  intro x d Q b ls st S K hK h
  unfold tq_iushr at h
  split at h
  · have k := hK _ _ _ _ h
    intro p l e R s m args below meth c Z A D cy C H locs cells slots la hP h1 h2 hl
    exact lv_iushr C.1.1 C.1.2.1 hd rfl (k p l e R s m args below meth c Z A D cy C H locs cells slots la hP h1 h2 hl)
  · exact h.elim
def tq_idiv : tr := fun _ _ b ls st S K => match st with
  | .int v :: .int u :: r => (¬ v = 0) ∧ K b ls (.int (u / v) :: r) S
  | _ => False
theorem J_idiv (hd : decode (mB M) pc = .ok (.idiv, 1)) : J M pc (pc + 1) tq_idiv := by
  intro x d Q b ls st S K hK h
  unfold tq_idiv at h
  split at h
  · obtain ⟨ho, h⟩ := h
    have k := hK _ _ _ _ h
    intro p l e R s m args below meth c Z A D cy C H locs cells slots la hP h1 h2 hl
    exact lv_idiv C.1.1 C.1.2.1 hd ho (k p l e R s m args below meth c Z A D cy C H locs cells slots la hP h1 h2 hl)
  · exact h.elim
def tq_irem : tr := fun _ _ b ls st S K => match st with
  | .int v :: .int u :: r => (¬ v = 0) ∧ K b ls (.int (u - u / v * v) :: r) S
  | _ => False
theorem J_irem (hd : decode (mB M) pc = .ok (.irem, 1)) : J M pc (pc + 1) tq_irem := by
  intro x d Q b ls st S K hK h
  unfold tq_irem at h
  split at h
  · obtain ⟨ho, h⟩ := h
    have k := hK _ _ _ _ h
    intro p l e R s m args below meth c Z A D cy C H locs cells slots la hP h1 h2 hl
    exact lv_irem C.1.1 C.1.2.1 hd ho (k p l e R s m args below meth c Z A D cy C H locs cells slots la hP h1 h2 hl)
  · exact h.elim
def tq_ineg : tr := fun _ _ b ls st S K => match st with
  | .int v :: r => K b ls (.int (-v) :: r) S
  | _ => False
theorem J_ineg (hd : decode (mB M) pc = .ok (.ineg, 1)) : J M pc (pc + 1) tq_ineg := by
  intro x d Q b ls st S K hK h
  unfold tq_ineg at h
  split at h
  · have k := hK _ _ _ _ h
    intro p l e R s m args below meth c Z A D cy C H locs cells slots la hP h1 h2 hl
    exact lv_ineg C.1.1 C.1.2.1 hd (k p l e R s m args below meth c Z A D cy C H locs cells slots la hP h1 h2 hl)
  · exact h.elim
def tq_i2l : tr := fun _ _ b ls st S K => match st with
  | .int v :: r => K b ls (.long v.toInt64 :: r) S
  | _ => False
theorem J_i2l (hd : decode (mB M) pc = .ok (.i2l, 1)) : J M pc (pc + 1) tq_i2l := by
  intro x d Q b ls st S K hK h
  unfold tq_i2l at h
  split at h
  · have k := hK _ _ _ _ h
    intro p l e R s m args below meth c Z A D cy C H locs cells slots la hP h1 h2 hl
    exact lv_i2l C.1.1 C.1.2.1 hd rfl (k p l e R s m args below meth c Z A D cy C H locs cells slots la hP h1 h2 hl)
  · exact h.elim
def tq_i2s : tr := fun _ _ b ls st S K => match st with
  | .int v :: r => K b ls (.int v.toInt16.toInt32 :: r) S
  | _ => False
theorem J_i2s (hd : decode (mB M) pc = .ok (.i2s, 1)) : J M pc (pc + 1) tq_i2s := by
  intro x d Q b ls st S K hK h
  unfold tq_i2s at h
  split at h
  · have k := hK _ _ _ _ h
    intro p l e R s m args below meth c Z A D cy C H locs cells slots la hP h1 h2 hl
    exact lv_i2s C.1.1 C.1.2.1 hd rfl (k p l e R s m args below meth c Z A D cy C H locs cells slots la hP h1 h2 hl)
  · exact h.elim
def tq_i2c : tr := fun _ _ b ls st S K => match st with
  | .int v :: r => K b ls (.int (v.toUInt32 % 65536).toInt32 :: r) S
  | _ => False
theorem J_i2c (hd : decode (mB M) pc = .ok (.i2c, 1)) : J M pc (pc + 1) tq_i2c := by
  intro x d Q b ls st S K hK h
  unfold tq_i2c at h
  split at h
  · have k := hK _ _ _ _ h
    intro p l e R s m args below meth c Z A D cy C H locs cells slots la hP h1 h2 hl
    exact lv_i2c C.1.1 C.1.2.1 hd rfl (k p l e R s m args below meth c Z A D cy C H locs cells slots la hP h1 h2 hl)
  · exact h.elim
def tq_ladd : tr := fun _ _ b ls st S K => match st with
  | .long v :: .long u :: r => K b ls (.long (u + v) :: r) S
  | _ => False
theorem J_ladd (hd : decode (mB M) pc = .ok (.ladd, 1)) : J M pc (pc + 1) tq_ladd := by
  intro x d Q b ls st S K hK h
  unfold tq_ladd at h
  split at h
  · have k := hK _ _ _ _ h
    intro p l e R s m args below meth c Z A D cy C H locs cells slots la hP h1 h2 hl
    exact lv_ladd C.1.1 C.1.2.1 hd (k p l e R s m args below meth c Z A D cy C H locs cells slots la hP h1 h2 hl)
  · exact h.elim
def tq_lcmp : tr := fun _ _ b ls st S K => match st with
  | .long v :: .long u :: r => K b ls (.int (lg_cmp u v) :: r) S
  | _ => False
theorem J_lcmp (hd : decode (mB M) pc = .ok (.lcmp, 1)) : J M pc (pc + 1) tq_lcmp := by
  intro x d Q b ls st S K hK h
  unfold tq_lcmp at h
  split at h
  · have k := hK _ _ _ _ h
    intro p l e R s m args below meth c Z A D cy C H locs cells slots la hP h1 h2 hl
    exact W.lcmp C.1.1 C.1.2.1 hd (k p l e R s m args below meth c Z A D cy C H locs cells slots la hP h1 h2 hl)
  · exact h.elim
def tq_dup : tr := fun _ _ b ls st S K => match st with
  | v :: r => c2 v = false ∧ K b ls (v :: v :: r) S
  | _ => False
theorem c2_one {v : Value} (h : c2 v = false) : v.category = 1 := by
  cases v <;> simp_all [c2, Value.category]
theorem J_dup (hd : decode (mB M) pc = .ok (.dup, 1)) : J M pc (pc + 1) tq_dup := by
  intro x d Q b ls st S K hK h
  unfold tq_dup at h
  split at h
  · obtain ⟨ho, h⟩ := h
    have k := hK _ _ _ _ h
    intro p l e R s m args below meth c Z A D cy C H locs cells slots la hP h1 h2 hl
    exact lv_dup C.1.1 C.1.2.1 hd (c2_one ho) (k p l e R s m args below meth c Z A D cy C H locs cells slots la hP h1 h2 hl)
  · exact h.elim
def tq_pop : tr := fun _ _ b ls st S K => match st with
  | v :: r => c2 v = false ∧ K b ls r S
  | _ => False
theorem J_pop (hd : decode (mB M) pc = .ok (.pop, 1)) : J M pc (pc + 1) tq_pop := by
  intro x d Q b ls st S K hK h
  unfold tq_pop at h
  split at h
  · obtain ⟨ho, h⟩ := h
    have k := hK _ _ _ _ h
    intro p l e R s m args below meth c Z A D cy C H locs cells slots la hP h1 h2 hl
    exact lv_pop C.1.1 C.1.2.1 hd (c2_one ho) (k p l e R s m args below meth c Z A D cy C H locs cells slots la hP h1 h2 hl)
  · exact h.elim
def tq_dup2 : tr := fun _ _ b ls st S K => match st with
  | v :: u :: r => (c2 v = false ∧ c2 u = false) ∧ K b ls (v :: u :: v :: u :: r) S
  | _ => False
theorem J_dup2 (hd : decode (mB M) pc = .ok (.dup2, 1)) : J M pc (pc + 1) tq_dup2 := by
  intro x d Q b ls st S K hK h
  unfold tq_dup2 at h
  split at h
  · obtain ⟨ho, h⟩ := h
    have k := hK _ _ _ _ h
    intro p l e R s m args below meth c Z A D cy C H locs cells slots la hP h1 h2 hl
    exact lv_dup2_11 C.1.1 C.1.2.1 hd (c2_one ho.1) (c2_one ho.2) (k p l e R s m args below meth c Z A D cy C H locs cells slots la hP h1 h2 hl)
  · exact h.elim
/-! constants -/
def tq_ci (v : Int32) : tr := fun _ _ b ls st S K => K b ls (.int v :: st) S
def tq_cl (v : Int64) : tr := fun _ _ b ls st S K => K b ls (.long v :: st) S
def tq_null : tr := fun _ _ b ls st S K => K b ls (.null :: st) S
theorem J_iconst {n : Int} {v : Int32} (hd : decode (mB M) pc = .ok (.iconst n, 1)) (hv : Int32.ofInt n = v) : J M pc (pc + 1) (tq_ci v) := by
  intro x d Q b ls st S K hK h
  have k := hK _ _ _ _ h
  intro p l e R s m args below meth c Z A D cy C H locs cells slots la hP h1 h2 hl
  exact lv_iconst C.1.1 C.1.2.1 hd hv (k p l e R s m args below meth c Z A D cy C H locs cells slots la hP h1 h2 hl)
theorem J_bipush {n : Int} {v : Int32} (hd : decode (mB M) pc = .ok (.bipush n, 2)) (hv : (Int8.ofInt n).toInt32 = v) : J M pc (pc + 2) (tq_ci v) := by
  intro x d Q b ls st S K hK h
  have k := hK _ _ _ _ h
  intro p l e R s m args below meth c Z A D cy C H locs cells slots la hP h1 h2 hl
  exact lv_bipush C.1.1 C.1.2.1 hd hv (k p l e R s m args below meth c Z A D cy C H locs cells slots la hP h1 h2 hl)
theorem J_sipush {n : Int} {v : Int32} (hd : decode (mB M) pc = .ok (.sipush n, 3)) (hv : (Int16.ofInt n).toInt32 = v) : J M pc (pc + 3) (tq_ci v) := by
  intro x d Q b ls st S K hK h
  have k := hK _ _ _ _ h
  intro p l e R s m args below meth c Z A D cy C H locs cells slots la hP h1 h2 hl
  exact lv_sipush C.1.1 C.1.2.1 hd hv (k p l e R s m args below meth c Z A D cy C H locs cells slots la hP h1 h2 hl)
theorem J_lconst {n : Fin 2} {v : Int64} (hd : decode (mB M) pc = .ok (.lconst n, 1)) (hv : Int64.ofNat (n : Nat) = v) : J M pc (pc + 1) (tq_cl v) := by
  intro x d Q b ls st S K hK h
  have k := hK _ _ _ _ h
  intro p l e R s m args below meth c Z A D cy C H locs cells slots la hP h1 h2 hl
  exact lv_lconst C.1.1 C.1.2.1 hd hv (k p l e R s m args below meth c Z A D cy C H locs cells slots la hP h1 h2 hl)
theorem J_null (hd : decode (mB M) pc = .ok (.aconst_null, 1)) : J M pc (pc + 1) tq_null := by
  intro x d Q b ls st S K hK h
  have k := hK _ _ _ _ h
  intro p l e R s m args below meth c Z A D cy C H locs cells slots la hP h1 h2 hl
  exact lv_null C.1.1 C.1.2.1 hd (k p l e R s m args below meth c Z A D cy C H locs cells slots la hP h1 h2 hl)
theorem J_ldc {i : Nat} {v : Int32} (hd : decode (mB M) pc = .ok (.ldc i, 2)) (hw : Cond.constant (mY M).cls i v ∈ GW) : J M pc (pc + 2) (tq_ci v) := by
  intro x d Q b ls st S K hK h
  have k := hK _ _ _ _ h
  intro p l e R s m args below meth c Z A D cy C H locs cells slots la hP h1 h2 hl
  exact lv_ldc C.1.1 C.1.2.1 C.1.2.2.2.1 (C.1.2.2.2.2 _ hw) hd (k p l e R s m args below meth c Z A D cy C H locs cells slots la hP h1 h2 hl)
theorem J_ldcw {i : Nat} {v : Int32} (hd : decode (mB M) pc = .ok (.ldc_w i, 3)) (hw : Cond.constant (mY M).cls i v ∈ GW) : J M pc (pc + 3) (tq_ci v) := by
  intro x d Q b ls st S K hK h
  have k := hK _ _ _ _ h
  intro p l e R s m args below meth c Z A D cy C H locs cells slots la hP h1 h2 hl
  exact lv_ldcw C.1.1 C.1.2.1 C.1.2.2.2.1 (C.1.2.2.2.2 _ hw) hd (k p l e R s m args below meth c Z A D cy C H locs cells slots la hP h1 h2 hl)
theorem J_ldc2 {i : Nat} {v : Int64} (hd : decode (mB M) pc = .ok (.ldc2_w i, 3)) (hw : Cond.constantLong (mY M).cls i v ∈ GW) : J M pc (pc + 3) (tq_cl v) := by
  intro x d Q b ls st S K hK h
  have k := hK _ _ _ _ h
  intro p l e R s m args below meth c Z A D cy C H locs cells slots la hP h1 h2 hl
  exact lv_ldc2 C.1.1 C.1.2.1 C.1.2.2.2.1 (C.1.2.2.2.2 _ hw) hd (k p l e R s m args below meth c Z A D cy C H locs cells slots la hP h1 h2 hl)
/-- a String constant: its address is one of x's -/
def tq_str (i : Nat) (own : String) : tr := fun x _ b ls st S K => ∃ (tx : String) (a : Nat), (own, i, tx, a) ∈ x.2.2.2.2 ∧ K b ls (.ref a :: st) S
theorem J_str {i : Nat} (hd : decode (mB M) pc = .ok (.ldc i, 2)) : J M pc (pc + 2) (tq_str i (mY M).cls) := by
  intro x d Q b ls st S K hK h
  obtain ⟨tx, a, hm, h⟩ := h
  have k := hK _ _ _ _ h
  intro p l e R s m args below meth c Z A D cy C H locs cells slots la hP h1 h2 hl
  exact va_ldcS C.1.1 C.1.2.1 C.1.2.2.2.1 (C.2.2.1.2.2.2.2.1 _ hm) hd (k p l e R s m args below meth c Z A D cy C H locs cells slots la hP h1 h2 hl)
/-! locals -/
def tq_il (i : Nat) : tr := fun _ _ b ls st S K => match lg ls i with
  | some (.int v) => K b ls (.int v :: st) S
  | _ => False
def tq_ll (i : Nat) : tr := fun _ _ b ls st S K => match lg ls i with
  | some (.long v) => K b ls (.long v :: st) S
  | _ => False
def tq_al (i : Nat) : tr := fun _ _ b ls st S K => match lg ls i with
  | some (.ref a) => K b ls (.ref a :: st) S
  | some .null => K b ls (.null :: st) S
  | _ => False
def tq_is (i : Nat) : tr := fun _ _ b ls st S K => match st with
  | .int v :: r => K b (lup i (.int v) ls) r S
  | _ => False
def tq_as (i : Nat) : tr := fun _ _ b ls st S K => match st with
  | .ref a :: r => K b (lup i (.ref a) ls) r S
  | .null :: r => K b (lup i .null ls) r S
  | _ => False
def tq_inc (i : Nat) (n : Int32) : tr := fun _ _ b ls st S K => match lg ls i with
  | some (.int v) => K b (lup i (.int (v + n)) ls) st S
  | _ => False
theorem J_iload {i : Nat} (hd : decode (mB M) pc = .ok (.iload i, 2)) : J M pc (pc + 2) (tq_il i) := by
  intro x d Q b ls st S K hK h
  unfold tq_il at h
  split at h
  · rename_i hg
    have k := hK _ _ _ _ h
    intro p l e R s m args below meth c Z A D cy C H locs cells slots la hP h1 h2 hl
    exact lv_iload C.1.1 C.1.2.1 hd (lg_at hl hg) (k p l e R s m args below meth c Z A D cy C H locs cells slots la hP h1 h2 hl)
  · exact h.elim
theorem J_iload_n {i : Nat} {n : Fin 4} (hd : decode (mB M) pc = .ok (.iload_n n, 1)) (hn : (n : Nat) = i) : J M pc (pc + 1) (tq_il i) := by
  intro x d Q b ls st S K hK h
  unfold tq_il at h
  split at h
  · rename_i hg
    have k := hK _ _ _ _ h
    intro p l e R s m args below meth c Z A D cy C H locs cells slots la hP h1 h2 hl
    exact lv_iload_n C.1.1 C.1.2.1 hd hn (lg_at hl hg) (k p l e R s m args below meth c Z A D cy C H locs cells slots la hP h1 h2 hl)
  · exact h.elim
theorem J_lload {i : Nat} (hd : decode (mB M) pc = .ok (.lload i, 2)) : J M pc (pc + 2) (tq_ll i) := by
  intro x d Q b ls st S K hK h
  unfold tq_ll at h
  split at h
  · rename_i hg
    have k := hK _ _ _ _ h
    intro p l e R s m args below meth c Z A D cy C H locs cells slots la hP h1 h2 hl
    exact lv_lload C.1.1 C.1.2.1 hd (lg_at hl hg) (k p l e R s m args below meth c Z A D cy C H locs cells slots la hP h1 h2 hl)
  · exact h.elim
theorem J_lload_n {i : Nat} {n : Fin 4} (hd : decode (mB M) pc = .ok (.lload_n n, 1)) (hn : (n : Nat) = i) : J M pc (pc + 1) (tq_ll i) := by
  intro x d Q b ls st S K hK h
  unfold tq_ll at h
  split at h
  · rename_i hg
    have k := hK _ _ _ _ h
    intro p l e R s m args below meth c Z A D cy C H locs cells slots la hP h1 h2 hl
    exact lv_lload_n C.1.1 C.1.2.1 hd hn (lg_at hl hg) (k p l e R s m args below meth c Z A D cy C H locs cells slots la hP h1 h2 hl)
  · exact h.elim
theorem J_aload {i : Nat} (hd : decode (mB M) pc = .ok (.aload i, 2)) : J M pc (pc + 2) (tq_al i) := by
  intro x d Q b ls st S K hK h
  unfold tq_al at h
  split at h
  · rename_i hg
    have k := hK _ _ _ _ h
    intro p l e R s m args below meth c Z A D cy C H locs cells slots la hP h1 h2 hl
    exact lv_aload C.1.1 C.1.2.1 hd (lg_at hl hg) (k p l e R s m args below meth c Z A D cy C H locs cells slots la hP h1 h2 hl)
  · rename_i hg
    have k := hK _ _ _ _ h
    intro p l e R s m args below meth c Z A D cy C H locs cells slots la hP h1 h2 hl
    exact lv_aloadN C.1.1 C.1.2.1 hd (lg_at hl hg) (k p l e R s m args below meth c Z A D cy C H locs cells slots la hP h1 h2 hl)
  · exact h.elim
theorem J_aload_n {i : Nat} {n : Fin 4} (hd : decode (mB M) pc = .ok (.aload_n n, 1)) (hn : (n : Nat) = i) : J M pc (pc + 1) (tq_al i) := by
  intro x d Q b ls st S K hK h
  unfold tq_al at h
  split at h
  · rename_i hg
    have k := hK _ _ _ _ h
    intro p l e R s m args below meth c Z A D cy C H locs cells slots la hP h1 h2 hl
    exact lv_aload_n C.1.1 C.1.2.1 hd hn (lg_at hl hg) (k p l e R s m args below meth c Z A D cy C H locs cells slots la hP h1 h2 hl)
  · rename_i hg
    have k := hK _ _ _ _ h
    intro p l e R s m args below meth c Z A D cy C H locs cells slots la hP h1 h2 hl
    exact lv_aload_nN C.1.1 C.1.2.1 hd hn (lg_at hl hg) (k p l e R s m args below meth c Z A D cy C H locs cells slots la hP h1 h2 hl)
  · exact h.elim
theorem J_istore {i : Nat} (hd : decode (mB M) pc = .ok (.istore i, 2)) (hi : i < mL M) : J M pc (pc + 2) (tq_is i) := by
  intro x d Q b ls st S K hK h
  unfold tq_is at h
  split at h
  · have k := hK _ _ _ _ h
    intro p l e R s m args below meth c Z A D cy C H locs cells slots la hP h1 h2 hl
    exact lv_istore C.1.1 C.1.2.1 hd hl hi rfl (fun la hl => k p l e R s m args below meth c Z A D cy C H locs cells slots la hP h1 h2 (lup_has hl))
  · exact h.elim
theorem J_istore_n {i : Nat} {n : Fin 4} (hd : decode (mB M) pc = .ok (.istore_n n, 1)) (hn : (n : Nat) = i) (hi : i < mL M) : J M pc (pc + 1) (tq_is i) := by
  intro x d Q b ls st S K hK h
  unfold tq_is at h
  split at h
  · have k := hK _ _ _ _ h
    intro p l e R s m args below meth c Z A D cy C H locs cells slots la hP h1 h2 hl
    exact lv_istore_n C.1.1 C.1.2.1 hd hn hl hi rfl (fun la hl => k p l e R s m args below meth c Z A D cy C H locs cells slots la hP h1 h2 (lup_has hl))
  · exact h.elim
theorem J_astore {i : Nat} (hd : decode (mB M) pc = .ok (.astore i, 2)) (hi : i < mL M) : J M pc (pc + 2) (tq_as i) := by
  intro x d Q b ls st S K hK h
  unfold tq_as at h
  split at h
  · have k := hK _ _ _ _ h
    intro p l e R s m args below meth c Z A D cy C H locs cells slots la hP h1 h2 hl
    exact lv_astore C.1.1 C.1.2.1 hd hl hi rfl (fun la hl => k p l e R s m args below meth c Z A D cy C H locs cells slots la hP h1 h2 (lup_has hl))
  · have k := hK _ _ _ _ h
    intro p l e R s m args below meth c Z A D cy C H locs cells slots la hP h1 h2 hl
    exact lv_astoreN C.1.1 C.1.2.1 hd hl hi rfl (fun la hl => k p l e R s m args below meth c Z A D cy C H locs cells slots la hP h1 h2 (lup_has hl))
  · exact h.elim
theorem J_astore_n {i : Nat} {n : Fin 4} (hd : decode (mB M) pc = .ok (.astore_n n, 1)) (hn : (n : Nat) = i) (hi : i < mL M) : J M pc (pc + 1) (tq_as i) := by
  intro x d Q b ls st S K hK h
  unfold tq_as at h
  split at h
  · have k := hK _ _ _ _ h
    intro p l e R s m args below meth c Z A D cy C H locs cells slots la hP h1 h2 hl
    exact lv_astore_n C.1.1 C.1.2.1 hd hn hl hi rfl (fun la hl => k p l e R s m args below meth c Z A D cy C H locs cells slots la hP h1 h2 (lup_has hl))
  · have k := hK _ _ _ _ h
    intro p l e R s m args below meth c Z A D cy C H locs cells slots la hP h1 h2 hl
    exact lv_astore_nN C.1.1 C.1.2.1 hd hn hl hi rfl (fun la hl => k p l e R s m args below meth c Z A D cy C H locs cells slots la hP h1 h2 (lup_has hl))
  · exact h.elim
theorem J_iinc {i : Nat} {n : Int} {v : Int32} (hd : decode (mB M) pc = .ok (.iinc i n, 3)) (hi : i < mL M) (hv : Int32.ofInt n = v) : J M pc (pc + 3) (tq_inc i v) := by
  subst hv
  intro x d Q b ls st S K hK h
  unfold tq_inc at h
  split at h
  · rename_i hg
    have k := hK _ _ _ _ h
    intro p l e R s m args below meth c Z A D cy C H locs cells slots la hP h1 h2 hl
    obtain ⟨j, hj⟩ := List.getElem?_of_mem (lg_mem hg)
    exact lv_iinc C.1.1 C.1.2.1 hd hl hj rfl hi rfl (fun la hl => k p l e R s m args below meth c Z A D cy C H locs cells slots la hP h1 h2 (lup_has hl))
  · exact h.elim
/-! branches -/
def b_eq (t n : Nat) : tb := fun _ _ b ls st S K _ => match st with
  | .int v :: r => (v = 0 → K t b ls r S) ∧ (¬ v = 0 → K n b ls r S)
  | _ => False
theorem J_eq {off : Int} {t : Nat} (hd : decode (mB M) pc = .ok (.ifCond .eq off, 3)) (ht : (pc : Int) + off = (t : Int)) : JB M pc (b_eq t (pc + 3)) := by
  intro x d Q b ls st S K hK h
  unfold b_eq at h
  split at h
  · intro p l e R s m args below meth c Z A D cy C H locs cells slots la hP h1 h2 hl
    exact lv_if_eq C.1.1 C.1.2.1 hd ht (fun q => hK _ _ _ _ _ (h.1 q) p l e R s m args below meth c Z A D cy C H locs cells slots la hP h1 h2 hl) (fun q => hK _ _ _ _ _ (h.2 q) p l e R s m args below meth c Z A D cy C H locs cells slots la hP h1 h2 hl)
  · exact h.elim
def b_ne (t n : Nat) : tb := fun _ _ b ls st S K _ => match st with
  | .int v :: r => (¬ v = 0 → K t b ls r S) ∧ (v = 0 → K n b ls r S)
  | _ => False
theorem J_ne {off : Int} {t : Nat} (hd : decode (mB M) pc = .ok (.ifCond .ne off, 3)) (ht : (pc : Int) + off = (t : Int)) : JB M pc (b_ne t (pc + 3)) := by
  intro x d Q b ls st S K hK h
  unfold b_ne at h
  split at h
  · intro p l e R s m args below meth c Z A D cy C H locs cells slots la hP h1 h2 hl
    exact lv_if_ne C.1.1 C.1.2.1 hd ht (fun q => hK _ _ _ _ _ (h.1 q) p l e R s m args below meth c Z A D cy C H locs cells slots la hP h1 h2 hl) (fun q => hK _ _ _ _ _ (h.2 q) p l e R s m args below meth c Z A D cy C H locs cells slots la hP h1 h2 hl)
  · exact h.elim
def b_lt (t n : Nat) : tb := fun _ _ b ls st S K _ => match st with
  | .int v :: r => (v < 0 → K t b ls r S) ∧ (¬ v < 0 → K n b ls r S)
  | _ => False
theorem J_lt {off : Int} {t : Nat} (hd : decode (mB M) pc = .ok (.ifCond .lt off, 3)) (ht : (pc : Int) + off = (t : Int)) : JB M pc (b_lt t (pc + 3)) := by
  intro x d Q b ls st S K hK h
  unfold b_lt at h
  split at h
  · intro p l e R s m args below meth c Z A D cy C H locs cells slots la hP h1 h2 hl
    exact lv_if_lt C.1.1 C.1.2.1 hd ht (fun q => hK _ _ _ _ _ (h.1 q) p l e R s m args below meth c Z A D cy C H locs cells slots la hP h1 h2 hl) (fun q => hK _ _ _ _ _ (h.2 q) p l e R s m args below meth c Z A D cy C H locs cells slots la hP h1 h2 hl)
  · exact h.elim
def b_ge (t n : Nat) : tb := fun _ _ b ls st S K _ => match st with
  | .int v :: r => (0 ≤ v → K t b ls r S) ∧ (¬ 0 ≤ v → K n b ls r S)
  | _ => False
theorem J_ge {off : Int} {t : Nat} (hd : decode (mB M) pc = .ok (.ifCond .ge off, 3)) (ht : (pc : Int) + off = (t : Int)) : JB M pc (b_ge t (pc + 3)) := by
  intro x d Q b ls st S K hK h
  unfold b_ge at h
  split at h
  · intro p l e R s m args below meth c Z A D cy C H locs cells slots la hP h1 h2 hl
    exact lv_if_ge C.1.1 C.1.2.1 hd ht (fun q => hK _ _ _ _ _ (h.1 q) p l e R s m args below meth c Z A D cy C H locs cells slots la hP h1 h2 hl) (fun q => hK _ _ _ _ _ (h.2 q) p l e R s m args below meth c Z A D cy C H locs cells slots la hP h1 h2 hl)
  · exact h.elim
def b_gt (t n : Nat) : tb := fun _ _ b ls st S K _ => match st with
  | .int v :: r => (0 < v → K t b ls r S) ∧ (¬ 0 < v → K n b ls r S)
  | _ => False
theorem J_gt {off : Int} {t : Nat} (hd : decode (mB M) pc = .ok (.ifCond .gt off, 3)) (ht : (pc : Int) + off = (t : Int)) : JB M pc (b_gt t (pc + 3)) := by
  intro x d Q b ls st S K hK h
  unfold b_gt at h
  split at h
  · intro p l e R s m args below meth c Z A D cy C H locs cells slots la hP h1 h2 hl
    exact lv_if_gt C.1.1 C.1.2.1 hd ht (fun q => hK _ _ _ _ _ (h.1 q) p l e R s m args below meth c Z A D cy C H locs cells slots la hP h1 h2 hl) (fun q => hK _ _ _ _ _ (h.2 q) p l e R s m args below meth c Z A D cy C H locs cells slots la hP h1 h2 hl)
  · exact h.elim
def b_le (t n : Nat) : tb := fun _ _ b ls st S K _ => match st with
  | .int v :: r => (v ≤ 0 → K t b ls r S) ∧ (¬ v ≤ 0 → K n b ls r S)
  | _ => False
theorem J_le {off : Int} {t : Nat} (hd : decode (mB M) pc = .ok (.ifCond .le off, 3)) (ht : (pc : Int) + off = (t : Int)) : JB M pc (b_le t (pc + 3)) := by
  intro x d Q b ls st S K hK h
  unfold b_le at h
  split at h
  · intro p l e R s m args below meth c Z A D cy C H locs cells slots la hP h1 h2 hl
    exact lv_if_le C.1.1 C.1.2.1 hd ht (fun q => hK _ _ _ _ _ (h.1 q) p l e R s m args below meth c Z A D cy C H locs cells slots la hP h1 h2 hl) (fun q => hK _ _ _ _ _ (h.2 q) p l e R s m args below meth c Z A D cy C H locs cells slots la hP h1 h2 hl)
  · exact h.elim
def b_ceq (t n : Nat) : tb := fun _ _ b ls st S K _ => match st with
  | .int v :: .int u :: r => (u = v → K t b ls r S) ∧ (¬ u = v → K n b ls r S)
  | _ => False
theorem J_ceq {off : Int} {t : Nat} (hd : decode (mB M) pc = .ok (.if_icmp .eq off, 3)) (ht : (pc : Int) + off = (t : Int)) : JB M pc (b_ceq t (pc + 3)) := by
  intro x d Q b ls st S K hK h
  unfold b_ceq at h
  split at h
  · intro p l e R s m args below meth c Z A D cy C H locs cells slots la hP h1 h2 hl
    exact lv_icmp_eq C.1.1 C.1.2.1 hd ht (fun q => hK _ _ _ _ _ (h.1 q) p l e R s m args below meth c Z A D cy C H locs cells slots la hP h1 h2 hl) (fun q => hK _ _ _ _ _ (h.2 q) p l e R s m args below meth c Z A D cy C H locs cells slots la hP h1 h2 hl)
  · exact h.elim
def b_cne (t n : Nat) : tb := fun _ _ b ls st S K _ => match st with
  | .int v :: .int u :: r => (¬ u = v → K t b ls r S) ∧ (u = v → K n b ls r S)
  | _ => False
theorem J_cne {off : Int} {t : Nat} (hd : decode (mB M) pc = .ok (.if_icmp .ne off, 3)) (ht : (pc : Int) + off = (t : Int)) : JB M pc (b_cne t (pc + 3)) := by
  intro x d Q b ls st S K hK h
  unfold b_cne at h
  split at h
  · intro p l e R s m args below meth c Z A D cy C H locs cells slots la hP h1 h2 hl
    exact lv_icmp_ne C.1.1 C.1.2.1 hd ht (fun q => hK _ _ _ _ _ (h.1 q) p l e R s m args below meth c Z A D cy C H locs cells slots la hP h1 h2 hl) (fun q => hK _ _ _ _ _ (h.2 q) p l e R s m args below meth c Z A D cy C H locs cells slots la hP h1 h2 hl)
  · exact h.elim
def b_clt (t n : Nat) : tb := fun _ _ b ls st S K _ => match st with
  | .int v :: .int u :: r => (u < v → K t b ls r S) ∧ (¬ u < v → K n b ls r S)
  | _ => False
theorem J_clt {off : Int} {t : Nat} (hd : decode (mB M) pc = .ok (.if_icmp .lt off, 3)) (ht : (pc : Int) + off = (t : Int)) : JB M pc (b_clt t (pc + 3)) := by
  intro x d Q b ls st S K hK h
  unfold b_clt at h
  split at h
  · intro p l e R s m args below meth c Z A D cy C H locs cells slots la hP h1 h2 hl
    exact lv_icmp_lt C.1.1 C.1.2.1 hd ht (fun q => hK _ _ _ _ _ (h.1 q) p l e R s m args below meth c Z A D cy C H locs cells slots la hP h1 h2 hl) (fun q => hK _ _ _ _ _ (h.2 q) p l e R s m args below meth c Z A D cy C H locs cells slots la hP h1 h2 hl)
  · exact h.elim
def b_cge (t n : Nat) : tb := fun _ _ b ls st S K _ => match st with
  | .int v :: .int u :: r => (v ≤ u → K t b ls r S) ∧ (¬ v ≤ u → K n b ls r S)
  | _ => False
theorem J_cge {off : Int} {t : Nat} (hd : decode (mB M) pc = .ok (.if_icmp .ge off, 3)) (ht : (pc : Int) + off = (t : Int)) : JB M pc (b_cge t (pc + 3)) := by
  intro x d Q b ls st S K hK h
  unfold b_cge at h
  split at h
  · intro p l e R s m args below meth c Z A D cy C H locs cells slots la hP h1 h2 hl
    exact lv_icmp_ge C.1.1 C.1.2.1 hd ht (fun q => hK _ _ _ _ _ (h.1 q) p l e R s m args below meth c Z A D cy C H locs cells slots la hP h1 h2 hl) (fun q => hK _ _ _ _ _ (h.2 q) p l e R s m args below meth c Z A D cy C H locs cells slots la hP h1 h2 hl)
  · exact h.elim
def b_cgt (t n : Nat) : tb := fun _ _ b ls st S K _ => match st with
  | .int v :: .int u :: r => (v < u → K t b ls r S) ∧ (¬ v < u → K n b ls r S)
  | _ => False
theorem J_cgt {off : Int} {t : Nat} (hd : decode (mB M) pc = .ok (.if_icmp .gt off, 3)) (ht : (pc : Int) + off = (t : Int)) : JB M pc (b_cgt t (pc + 3)) := by
  intro x d Q b ls st S K hK h
  unfold b_cgt at h
  split at h
  · intro p l e R s m args below meth c Z A D cy C H locs cells slots la hP h1 h2 hl
    exact lv_icmp_gt C.1.1 C.1.2.1 hd ht (fun q => hK _ _ _ _ _ (h.1 q) p l e R s m args below meth c Z A D cy C H locs cells slots la hP h1 h2 hl) (fun q => hK _ _ _ _ _ (h.2 q) p l e R s m args below meth c Z A D cy C H locs cells slots la hP h1 h2 hl)
  · exact h.elim
def b_cle (t n : Nat) : tb := fun _ _ b ls st S K _ => match st with
  | .int v :: .int u :: r => (u ≤ v → K t b ls r S) ∧ (¬ u ≤ v → K n b ls r S)
  | _ => False
theorem J_cle {off : Int} {t : Nat} (hd : decode (mB M) pc = .ok (.if_icmp .le off, 3)) (ht : (pc : Int) + off = (t : Int)) : JB M pc (b_cle t (pc + 3)) := by
  intro x d Q b ls st S K hK h
  unfold b_cle at h
  split at h
  · intro p l e R s m args below meth c Z A D cy C H locs cells slots la hP h1 h2 hl
    exact lv_icmp_le C.1.1 C.1.2.1 hd ht (fun q => hK _ _ _ _ _ (h.1 q) p l e R s m args below meth c Z A D cy C H locs cells slots la hP h1 h2 hl) (fun q => hK _ _ _ _ _ (h.2 q) p l e R s m args below meth c Z A D cy C H locs cells slots la hP h1 h2 hl)
  · exact h.elim
def b_null (t n : Nat) : tb := fun _ _ b ls st S K _ => match st with
  | .null :: r => K t b ls r S
  | .ref _ :: r => K n b ls r S
  | _ => False
theorem J_ifnull {off : Int} {t : Nat} (hd : decode (mB M) pc = .ok (.ifnull off, 3)) (ht : (pc : Int) + off = (t : Int)) : JB M pc (b_null t (pc + 3)) := by
  intro x d Q b ls st S K hK h
  unfold b_null at h
  split at h
  · intro p l e R s m args below meth c Z A D cy C H locs cells slots la hP h1 h2 hl
    exact lv_ifnullN C.1.1 C.1.2.1 hd ht (hK _ _ _ _ _ h p l e R s m args below meth c Z A D cy C H locs cells slots la hP h1 h2 hl)
  · intro p l e R s m args below meth c Z A D cy C H locs cells slots la hP h1 h2 hl
    exact lv_ifnull C.1.1 C.1.2.1 hd (hK _ _ _ _ _ h p l e R s m args below meth c Z A D cy C H locs cells slots la hP h1 h2 hl)
  · exact h.elim
def b_nonnull (t n : Nat) : tb := fun _ _ b ls st S K _ => match st with
  | .null :: r => K n b ls r S
  | .ref _ :: r => K t b ls r S
  | _ => False
theorem J_ifnonnull {off : Int} {t : Nat} (hd : decode (mB M) pc = .ok (.ifnonnull off, 3)) (ht : (pc : Int) + off = (t : Int)) : JB M pc (b_nonnull t (pc + 3)) := by
  intro x d Q b ls st S K hK h
  unfold b_nonnull at h
  split at h
  · intro p l e R s m args below meth c Z A D cy C H locs cells slots la hP h1 h2 hl
    exact lv_ifnonnullN C.1.1 C.1.2.1 hd (hK _ _ _ _ _ h p l e R s m args below meth c Z A D cy C H locs cells slots la hP h1 h2 hl)
  · intro p l e R s m args below meth c Z A D cy C H locs cells slots la hP h1 h2 hl
    exact lv_ifnonnull C.1.1 C.1.2.1 hd ht (hK _ _ _ _ _ h p l e R s m args below meth c Z A D cy C H locs cells slots la hP h1 h2 hl)
  · exact h.elim
def b_goto (t : Nat) : tb := fun _ _ b ls st S K _ => K t b ls st S
theorem J_goto {off : Int} {t : Nat} (hd : decode (mB M) pc = .ok (.goto off, 3)) (ht : (pc : Int) + off = (t : Int)) : JB M pc (b_goto t) := by
  intro x d Q b ls st S K hK h
  intro p l e R s m args below meth c Z A D cy C H locs cells slots la hP h1 h2 hl
  exact lv_goto C.1.1 C.1.2.1 hd ht (hK _ _ _ _ _ h p l e R s m args below meth c Z A D cy C H locs cells slots la hP h1 h2 hl)
/-! switches: the table's targets by their places, else the default -/
def b_tab (lo : Int) (ts : List Nat) (t : Nat) : tb := fun _ _ b ls st S K _ => match st with
  | .int v :: r => (∀ (i : Nat) (q : Nat), ts[i]? = some q → v.toInt = lo + (i : Int) → K q b ls r S) ∧ ((v.toInt < lo ∨ lo + (ts.length : Int) ≤ v.toInt) → K t b ls r S)
  | _ => False
theorem J_tab {dflt lo hi : Int} {offs : Array Int} {len t : Nat} {ts : List Nat} (hd : decode (mB M) pc = .ok (.tableswitch dflt lo hi offs, len)) (hh : hi + 1 = lo + (ts.length : Int)) (ho : offs.toList = ts.map (fun q : Nat => (q : Int) - (pc : Int))) (ht : (pc : Int) + dflt = (t : Int)) : JB M pc (b_tab lo ts t) := by
  intro x d Q b ls st S K hK h
  unfold b_tab at h
  split at h
  · rename_i v r
    intro p l e R s m args below meth c Z A D cy C H locs cells slots la hP h1 h2 hl
    by_cases hc : v.toInt < lo ∨ hi < v.toInt
    · exact lv_tableOut C.1.1 C.1.2.1 hd hc ht (hK _ _ _ _ _ (h.2 (by omega)) p l e R s m args below meth c Z A D cy C H locs cells slots la hP h1 h2 hl)
    · have hi1 : (v.toInt - lo).toNat < ts.length := by omega
      have hq : ts[(v.toInt - lo).toNat]? = some ts[(v.toInt - lo).toNat] := List.getElem?_eq_getElem hi1
      refine lv_tableIn (tgt := ts[(v.toInt - lo).toNat]) C.1.1 C.1.2.1 hd (by omega) (by omega) (off := (ts[(v.toInt - lo).toNat] : Int) - (pc : Int)) ?_ (by omega) (hK _ _ _ _ _ (h.1 _ _ hq (by omega)) p l e R s m args below meth c Z A D cy C H locs cells slots la hP h1 h2 hl)
      rw [← Array.getElem?_toList, ho, List.getElem?_map, hq]
      rfl
  · exact h.elim
def b_lk (ps : List (Int × Int)) (pc dflt : Int) : tb := fun _ _ b ls st S K _ => match st with
  | .int v :: r => ∀ t : Nat, pc + Op.lookupswitch.offset ps dflt v.toInt = (t : Int) → K t b ls r S
  | _ => False
theorem J_lk {dflt : Int} {ps : Array (Int × Int)} {len : Nat} {qs : List (Int × Int)} (hd : decode (mB M) pc = .ok (.lookupswitch dflt ps, len)) (hq : ps.toList = qs) (hp : (qs.zip (qs.drop 1)).all (fun (a, next) => a.1 < next.1) = true) (hz : ∀ z : Int, 0 ≤ (pc : Int) + Op.lookupswitch.offset qs dflt z) : JB M pc (b_lk qs (pc : Int) dflt) := by
  subst hq
  intro x d Q b ls st S K hK h
  unfold b_lk at h
  split at h
  · rename_i v r
    intro p l e R s m args below meth c Z A D cy C H locs cells slots la hP h1 h2 hl
    have ht : (pc : Int) + Op.lookupswitch.offset ps.toList dflt v.toInt = ((((pc : Int) + Op.lookupswitch.offset ps.toList dflt v.toInt).toNat : Nat) : Int) := by
      have := hz v.toInt
      omega
    exact lv_lookup C.1.1 C.1.2.1 hd hp rfl ht (hK _ _ _ _ _ (h _ ht) p l e R s m args below meth c Z A D cy C H locs cells slots la hP h1 h2 hl)
  · exact h.elim
/-! the ends -/
def b_iret (rt : Option FieldType) : tb := fun _ _ _ _ st S _ Q => match st with
  | [.int v] => (∃ ty, rt = some ty ∧ narrow ty (.int v) = .int v) ∧ Q (some (.int v)) S
  | _ => False
theorem J_iret (hd : decode (mB M) pc = .ok (.ireturn, 1)) : JB M pc (b_iret (mR M)) := by
  intro x d Q b ls st S K hK h
  unfold b_iret at h
  split at h
  · obtain ⟨⟨ty, h3, h4⟩, h⟩ := h
    intro p l e R s m args below meth c Z A D cy C H locs cells slots la hP h1 h2 hl
    exact C.2.2.2.2.2.2 _ S H locs cells slots la pc _ hd (Or.inl ⟨rfl, _, ty, rfl, h3, h4⟩) h hP (by omega) (by omega)
  · exact h.elim
def b_ret (rt : Option FieldType) : tb := fun _ _ _ _ st S _ Q => match st with
  | [] => rt = none ∧ Q none S
  | _ => False
theorem J_ret (hd : decode (mB M) pc = .ok (.return_, 1)) : JB M pc (b_ret (mR M)) := by
  intro x d Q b ls st S K hK h
  unfold b_ret at h
  split at h
  · obtain ⟨h3, h⟩ := h
    intro p l e R s m args below meth c Z A D cy C H locs cells slots la hP h1 h2 hl
    exact C.2.2.2.2.2.2 _ S H locs cells slots la pc _ hd (Or.inr (Or.inl ⟨rfl, rfl, h3⟩)) h hP (by omega) (by omega)
  · exact h.elim
def b_aret (rt : Option FieldType) : tb := fun _ _ _ _ st S _ Q => match st with
  | [.ref a] => (∃ ty, rt = some ty ∧ ((∃ n, ty = .object n) ∨ ∃ t, ty = .array t)) ∧ Q (some (.ref a)) S
  | [.null] => (∃ ty, rt = some ty ∧ ((∃ n, ty = .object n) ∨ ∃ t, ty = .array t)) ∧ Q (some .null) S
  | _ => False
theorem J_aret (hd : decode (mB M) pc = .ok (.areturn, 1)) : JB M pc (b_aret (mR M)) := by
  intro x d Q b ls st S K hK h
  unfold b_aret at h
  split at h
  · rename_i a
    obtain ⟨⟨ty, h3, h4⟩, h⟩ := h
    intro p l e R s m args below meth c Z A D cy C H locs cells slots la hP h1 h2 hl
    exact C.2.2.2.2.2.2 _ S H locs cells slots la pc _ hd (Or.inr (Or.inr ⟨rfl, some a, ty, rfl, h3, h4⟩)) h hP (by omega) (by omega)
  · obtain ⟨⟨ty, h3, h4⟩, h⟩ := h
    intro p l e R s m args below meth c Z A D cy C H locs cells slots la hP h1 h2 hl
    exact C.2.2.2.2.2.2 _ S H locs cells slots la pc _ hd (Or.inr (Or.inr ⟨rfl, none, ty, rfl, h3, h4⟩)) h hP (by omega) (by omega)
  · exact h.elim
end JJ
end
section
/-! ===== rows of the heap ===== -/
theorem pl_at {L : List Nat} {f : Nat → va_E} {a : Nat} (h : a ∈ L) : ∃ k : Nat, (va_pl L f)[k]? = some (a, f a) := va_pl_get (X := []) h
theorem pl_set {A : Nat → Prop} {L : List Nat} {f : Nat → va_E} {a k : Nat} {e : va_E} (hD : va_D A (va_pl L f)) (h : a ∈ L) (hk : (va_pl L f)[k]? = some (a, f a)) : (va_pl L f).set k (a, e) = va_pl L (va_up f a e) := va_pl_set (X := []) hD h hk
theorem pl_obj {cy : Nat → ClassId} {S : pS} {a k : Nat} (h : hk S a k) (h10 : k < 10) : ∃ q : Nat, (va_pl (gL S) (pF cy S))[q]? = some (a, pF cy S a) ∧ (va_pl (gL S) (pF cy S))[q]? = some (a, .inr (k, fo S k a)) := by
  obtain ⟨q, hq⟩ := pl_at (f := pF cy S) h.1
  exact ⟨q, hq, by rw [hq, pF_obj cy S h.2 h10]⟩
theorem pl_int {cy : Nat → ClassId} {S : pS} {a : Nat} (h : hk S a 10) : ∃ q : Nat, (va_pl (gL S) (pF cy S))[q]? = some (a, pF cy S a) ∧ (va_pl (gL S) (pF cy S))[q]? = some (a, .inl (cy 10, gN S a, .inl (gX S a))) := by
  obtain ⟨q, hq⟩ := pl_at (f := pF cy S) h.1
  exact ⟨q, hq, by rw [hq, pF_int cy S h.2]⟩
theorem pl_ref {cy : Nat → ClassId} {S : pS} {a k : Nat} (h : hk S a k) (h10 : 10 < k) : ∃ q : Nat, (va_pl (gL S) (pF cy S))[q]? = some (a, pF cy S a) ∧ (va_pl (gL S) (pF cy S))[q]? = some (a, .inl (cy k, gN S a, .inr (.inr (.inr (.inr (gY S a)))))) := by
  obtain ⟨q, hq⟩ := pl_at (f := pF cy S) h.1
  exact ⟨q, hq, by rw [hq, pF_ref cy S h.2 h10]⟩
theorem Pool.upd {A : Nat → Prop} {D : va_G} {cy : Nat → ClassId} {s : State} {S S' : pS} {H H1 : Heap} {locs locs1 : List Loc} {a q : Nat} {e : va_E} (hP : Pool A D cy s S H locs) (ha : a ∈ gL S) (hq : (va_pl (gL S) (pF cy S))[q]? = some (a, pF cy S a)) (hL : gL S' = gL S) (hF : ∀ b, va_up (pF cy S) a e b = pF cy S' b)
    (p1 : va_P D vwCl ((va_pl (gL S) (pF cy S)).set q (a, e)) H1) (d1 : va_D A ((va_pl (gL S) (pF cy S)).set q (a, e))) (s1 : va_S A s.heap H1 locs1) : Pool A D cy s S' H1 locs1 := by
  rw [pl_set hP.2.1 ha hq, va_pl_congr hF] at p1 d1
  rw [← hL] at p1 d1
  exact ⟨p1, d1, s1⟩
section JH
variable {M : pM} {pc : Nat}
def tq_gi (k f : Nat) : tr := fun _ _ b ls st S K => match st with
  | .ref a :: r => hk S a k ∧ K b ls (.int (gI S f a) :: r) S
  | _ => False
theorem J_gi {i k j f : Nat} (hd : decode (mB M) pc = .ok (.getfield i, 3)) (h10 : k < 10) (hj : j < nF k) (hf : 32 * k + j = f) (ht : fint k j = true) (hw : Cond.fieldLink (mY M).cls i (TF k j).1 (TF k j).2.1 (TF k j).2.2.1 ∈ GW) : J M pc (pc + 3) (tq_gi k f) := by
  intro x d Q b ls st S K hK h
  unfold tq_gi at h
  split at h
  · obtain ⟨ho, h⟩ := h
    have k := hK _ _ _ _ h
    intro p l e R s m args below meth c Z A D cy C H locs cells slots la hP h1 h2 hl
    obtain ⟨q, hq, hq2⟩ := pl_obj (cy := cy) ho h10
    exact va_get (D := D) C.1.1 C.1.2.1 C.1.2.2.2.2 (F_ws _ h10) C.1.2.2.2.1 C.2.1 hP.1 q hq2 (F_cl _ h10) j hj (C.1.2.2.2.2 _ hw) (fun _ h => h) (by rw [fo_at _ _ _ hj, if_pos ht, hf]) hd (k p l e R s m args below meth c Z A D cy C H locs cells slots la hP h1 h2 hl)
  · exact h.elim
def tq_gr (k f : Nat) : tr := fun _ _ b ls st S K => match st with
  | .ref a :: r => hk S a k ∧ K b ls (va_rf (gR S f a) :: r) S
  | _ => False
theorem J_gr {i k j f : Nat} (hd : decode (mB M) pc = .ok (.getfield i, 3)) (h10 : k < 10) (hj : j < nF k) (hf : 32 * k + j = f) (ht : fint k j = false) (hw : Cond.fieldLink (mY M).cls i (TF k j).1 (TF k j).2.1 (TF k j).2.2.1 ∈ GW) : J M pc (pc + 3) (tq_gr k f) := by
  intro x d Q b ls st S K hK h
  unfold tq_gr at h
  split at h
  · obtain ⟨ho, h⟩ := h
    have k := hK _ _ _ _ h
    intro p l e R s m args below meth c Z A D cy C H locs cells slots la hP h1 h2 hl
    obtain ⟨q, hq, hq2⟩ := pl_obj (cy := cy) ho h10
    exact va_get (D := D) C.1.1 C.1.2.1 C.1.2.2.2.2 (F_ws _ h10) C.1.2.2.2.1 C.2.1 hP.1 q hq2 (F_cl _ h10) j hj (C.1.2.2.2.2 _ hw) (fun _ h => h) (by rw [fo_at _ _ _ hj, ht, hf]; rfl) hd (k p l e R s m args below meth c Z A D cy C H locs cells slots la hP h1 h2 hl)
  · exact h.elim
def tq_pi (k f : Nat) (ty : FieldType) : tr := fun _ _ b ls st S K => match st with
  | .int v :: .ref a :: r => (hk S a k ∧ narrow ty (.int v) = .int v ∧ fits ty (.int v) = true) ∧ K b ls r (sI S f a v)
  | _ => False
theorem J_pi {i k j f : Nat} {ty : FieldType} (hd : decode (mB M) pc = .ok (.putfield i, 3)) (h10 : k < 10) (hj : j < nF k) (hf : 32 * k + j = f) (ht : fint k j = true) (hty : tyF k j = ty) (hfin : (TF k j).2.2.2 = false) (hw : Cond.fieldLink (mY M).cls i (TF k j).1 (TF k j).2.1 (TF k j).2.2.1 ∈ GW) : J M pc (pc + 3) (tq_pi k f ty) := by
  intro x d Q b ls st S K hK h
  unfold tq_pi at h
  split at h
  · obtain ⟨ho, h⟩ := h
    have k := hK _ _ _ _ h
    intro p l e R s m args below meth c Z A D cy C H locs cells slots la hP h1 h2 hl
    obtain ⟨q, hq, hq2⟩ := pl_obj (cy := cy) ho.1 h10
    refine va_put (D := D) C.1.1 C.1.2.1 C.1.2.2.2.2 (F_ws _ h10) (tyF _) (F_ty _ h10) (F_nm _ h10) C.1.2.2.2.1 C.2.1 hP.1 hP.2.1 hP.2.2 q hq2 (F_cl _ h10) j hj (C.1.2.2.2.2 _ hw) (fun _ h => h) hfin (F_ty _ h10 j hj) (by rw [hty]; exact ho.2.1) (by rw [hty]; exact ho.2.2) (by rw [fo_len]; exact hj) hd (fun H1 locs1 p1 d1 s1 => ?_)
    exact k p l e R s m args below meth c Z A D cy C H1 locs1 cells slots la (hP.upd (S' := sI S f _ _) ho.1.1 hq rfl (fun b => by rw [← hf]; exact pF_sI cy S _ ho.1.2 h10 hj ht b) p1 d1 s1) h1 h2 hl
  · exact h.elim
theorem J_pif {i k j f : Nat} {ty : FieldType} (hd : decode (mB M) pc = .ok (.putfield i, 3)) (h10 : k < 10) (hj : j < nF k) (hf : 32 * k + j = f) (ht : fint k j = true) (hty : tyF k j = ty) (hfin : (TF k j).2.2.2 = true) (hini : (mY M).name = "<init>") (hdecl : (TF k j).1 = (mY M).cls) (hw : Cond.fieldLink (mY M).cls i (TF k j).1 (TF k j).2.1 (TF k j).2.2.1 ∈ GW) : J M pc (pc + 3) (tq_pi k f ty) := by
  intro x d Q b ls st S K hK h
  unfold tq_pi at h
  split at h
  · obtain ⟨ho, h⟩ := h
    have k := hK _ _ _ _ h
    intro p l e R s m args below meth c Z A D cy C H locs cells slots la hP h1 h2 hl
    obtain ⟨q, hq, hq2⟩ := pl_obj (cy := cy) ho.1 h10
    refine va_putF (D := D) C.1.1 C.1.2.1 C.1.2.2.2.2 (F_ws _ h10) (tyF _) (F_ty _ h10) (F_nm _ h10) C.1.2.2.2.1 C.2.1 hP.1 hP.2.1 hP.2.2 q hq2 (F_cl _ h10) j hj (C.1.2.2.2.2 _ hw) (fun _ h => h) hfin (C.2.2.2.2.2.1 hini) hdecl (F_ty _ h10 j hj) (by rw [hty]; exact ho.2.1) (by rw [hty]; exact ho.2.2) (by rw [fo_len]; exact hj) hd (fun H1 locs1 p1 d1 s1 => ?_)
    exact k p l e R s m args below meth c Z A D cy C H1 locs1 cells slots la (hP.upd (S' := sI S f _ _) ho.1.1 hq rfl (fun b => by rw [← hf]; exact pF_sI cy S _ ho.1.2 h10 hj ht b) p1 d1 s1) h1 h2 hl
  · exact h.elim
def tq_pr (k f : Nat) : tr := fun _ _ b ls st S K => match st with
  | .ref v :: .ref a :: r => hk S a k ∧ K b ls r (sR S f a (some v))
  | _ => False
theorem J_prf {i k j f : Nat} (hd : decode (mB M) pc = .ok (.putfield i, 3)) (h10 : k < 10) (hj : j < nF k) (hf : 32 * k + j = f) (ht : fint k j = false) (hn : ∀ v : Nat, narrow (tyF k j) (.ref v) = .ref v) (hft : ∀ v : Nat, fits (tyF k j) (.ref v) = true) (hfin : (TF k j).2.2.2 = true) (hini : (mY M).name = "<init>") (hdecl : (TF k j).1 = (mY M).cls) (hw : Cond.fieldLink (mY M).cls i (TF k j).1 (TF k j).2.1 (TF k j).2.2.1 ∈ GW) : J M pc (pc + 3) (tq_pr k f) := by
  intro x d Q b ls st S K hK h
  unfold tq_pr at h
  split at h
  · obtain ⟨ho, h⟩ := h
    have k := hK _ _ _ _ h
    intro p l e R s m args below meth c Z A D cy C H locs cells slots la hP h1 h2 hl
    obtain ⟨q, hq, hq2⟩ := pl_obj (cy := cy) ho h10
    refine va_putF (D := D) C.1.1 C.1.2.1 C.1.2.2.2.2 (F_ws _ h10) (tyF _) (F_ty _ h10) (F_nm _ h10) C.1.2.2.2.1 C.2.1 hP.1 hP.2.1 hP.2.2 q hq2 (F_cl _ h10) j hj (C.1.2.2.2.2 _ hw) (fun _ h => h) hfin (C.2.2.2.2.2.1 hini) hdecl (F_ty _ h10 j hj) (hn _) (hft _) (by rw [fo_len]; exact hj) hd (fun H1 locs1 p1 d1 s1 => ?_)
    exact k p l e R s m args below meth c Z A D cy C H1 locs1 cells slots la (hP.upd (S' := sR S f _ (some _)) ho.1 hq rfl (fun b => by rw [← hf]; exact pF_sR cy S (some _) ho.2 h10 hj ht b) p1 d1 s1) h1 h2 hl
  · exact h.elim
/-! arrays -/
def tq_ia : tr := fun _ _ b ls st S K => match st with
  | .int i :: .ref a :: r => (hk S a 10 ∧ vp_in i (gN S a)) ∧ K b ls (.int (gX S a i.toNatClampNeg) :: r) S
  | _ => False
theorem J_ia (hd : decode (mB M) pc = .ok (.iaload, 1)) : J M pc (pc + 1) tq_ia := by
  intro x d Q b ls st S K hK h
  unfold tq_ia at h
  split at h
  · obtain ⟨ho, h⟩ := h
    have k := hK _ _ _ _ h
    intro p l e R s m args below meth c Z A D cy C H locs cells slots la hP h1 h2 hl
    obtain ⟨q, hq, hq2⟩ := pl_int (cy := cy) ho.1
    exact va_iald C.1.1 C.1.2.1 C.2.1 hP.1 q 0 hq2 rfl ho.2 hd (k p l e R s m args below meth c Z A D cy C H locs cells slots la hP h1 h2 hl)
  · exact h.elim
def tq_ias : tr := fun _ _ b ls st S K => match st with
  | .int v :: .int i :: .ref a :: r => (hk S a 10 ∧ vp_in i (gN S a)) ∧ K b ls r (sX S a (upd (gX S a) i.toNatClampNeg v))
  | _ => False
theorem J_ias (hd : decode (mB M) pc = .ok (.iastore, 1)) : J M pc (pc + 1) tq_ias := by
  intro x d Q b ls st S K hK h
  unfold tq_ias at h
  split at h
  · obtain ⟨ho, h⟩ := h
    have k := hK _ _ _ _ h
    intro p l e R s m args below meth c Z A D cy C H locs cells slots la hP h1 h2 hl
    obtain ⟨q, hq, hq2⟩ := pl_int (cy := cy) ho.1
    refine va_iast C.1.1 C.1.2.1 C.2.1 hP.1 hP.2.1 hP.2.2 q 0 hq2 rfl ho.2 hd (fun H1 locs1 p1 d1 s1 => ?_)
    exact k p l e R s m args below meth c Z A D cy C H1 locs1 cells slots la (hP.upd (S' := sX S _ _) ho.1.1 hq rfl (fun b => pF_sX cy S _ ho.1.2 b) p1 d1 s1) h1 h2 hl
  · exact h.elim
def tq_aa (k : Nat) : tr := fun _ _ b ls st S K => match st with
  | .int i :: .ref a :: r => (hk S a k ∧ vp_in i (gN S a)) ∧ K b ls (va_rf (gY S a i.toNatClampNeg) :: r) S
  | _ => False
theorem J_aa {k : Nat} (hd : decode (mB M) pc = .ok (.aaload, 1)) (h10 : 10 < k) (h15 : k < 15) : J M pc (pc + 1) (tq_aa k) := by
  intro x d Q b ls st S K hK h
  unfold tq_aa at h
  split at h
  · obtain ⟨ho, h⟩ := h
    have k := hK _ _ _ _ h
    intro p l e R s m args below meth c Z A D cy C H locs cells slots la hP h1 h2 hl
    obtain ⟨q, hq, hq2⟩ := pl_ref (cy := cy) ho.1 h10
    exact va_aldq C.1.1 C.1.2.1 C.2.1 hP.1 q _ hq2 (tys_at cy h10 h15) ho.2 hd (k p l e R s m args below meth c Z A D cy C H locs cells slots la hP h1 h2 hl)
  · exact h.elim
def tq_aas (k kv : Nat) : tr := fun _ _ b ls st S K => match st with
  | .ref v :: .int i :: .ref a :: r => (hk S a k ∧ hk S v kv ∧ vp_in i (gN S a)) ∧ K b ls r (sY S a (va_up (gY S a) i.toNatClampNeg (some v)))
  | .null :: .int i :: .ref a :: r => (hk S a k ∧ vp_in i (gN S a)) ∧ K b ls r (sY S a (va_up (gY S a) i.toNatClampNeg none))
  | _ => False
theorem J_aas {k kv : Nat} (hd : decode (mB M) pc = .ok (.aastore, 1)) (h10 : 10 < k) (h15 : k < 15) (hv : kv < 10) (hc : aC k = RF kv) : J M pc (pc + 1) (tq_aas k kv) := by
  intro x d Q b ls st S K hK h
  unfold tq_aas at h
  split at h
  · obtain ⟨ho, h⟩ := h
    have k := hK _ _ _ _ h
    intro p l e R s m args below meth c Z A D cy C H locs cells slots la hP h1 h2 hl
    obtain ⟨q, hq, hq2⟩ := pl_ref (cy := cy) ho.1 h10
    obtain ⟨q', hq', hq2'⟩ := pl_obj (cy := cy) ho.2.1 hv
    refine va_astq (r := (RF kv, TF kv, nF kv)) C.1.1 C.1.2.1 C.2.1 hP.1 hP.2.1 hP.2.2 q _ q' kv hq2 (by rw [tys_at cy h10 h15, hc]) hq2' (F_cl _ hv) ho.2.2 hd (fun H1 locs1 p1 d1 s1 => ?_)
    exact k p l e R s m args below meth c Z A D cy C H1 locs1 cells slots la (hP.upd (S' := sY S _ _) ho.1.1 hq rfl (fun b => pF_sY cy S _ ho.1.2 h10 b) p1 d1 s1) h1 h2 hl
  · obtain ⟨ho, h⟩ := h
    have k := hK _ _ _ _ h
    intro p l e R s m args below meth c Z A D cy C H locs cells slots la hP h1 h2 hl
    obtain ⟨q, hq, hq2⟩ := pl_ref (cy := cy) ho.1 h10
    refine va_astqN C.1.1 C.1.2.1 C.2.1 hP.1 hP.2.1 hP.2.2 q _ hq2 (tys_at cy h10 h15) ho.2 hd (fun H1 locs1 p1 d1 s1 => ?_)
    exact k p l e R s m args below meth c Z A D cy C H1 locs1 cells slots la (hP.upd (S' := sY S _ _) ho.1.1 hq rfl (fun b => pF_sY cy S _ ho.1.2 h10 b) p1 d1 s1) h1 h2 hl
  · exact h.elim
def tq_len : tr := fun _ _ b ls st S K => match st with
  | .ref a :: r => hk S a 10 ∧ K b ls (.int (nI (gN S a)) :: r) S
  | _ => False
theorem J_len (hd : decode (mB M) pc = .ok (.arraylength, 1)) : J M pc (pc + 1) tq_len := by
  intro x d Q b ls st S K hK h
  unfold tq_len at h
  split at h
  · obtain ⟨ho, h⟩ := h
    have k := hK _ _ _ _ h
    intro p l e R s m args below meth c Z A D cy C H locs cells slots la hP h1 h2 hl
    obtain ⟨q, hq, hq2⟩ := pl_int (cy := cy) ho
    exact va_alen C.1.1 C.1.2.1 C.2.1 hP.1 q 0 hq2 (ty := .int) rfl rfl hd (k p l e R s m args below meth c Z A D cy C H locs cells slots la hP h1 h2 hl)
  · exact h.elim
/-! what lies outside the pool -/
def tq_iax : tr := fun x _ b ls st S K => match st with
  | .int i :: .ref a :: r => ∃ (n : Nat) (f : Nat → Value), (FieldType.int, a, n, f) ∈ x.2.2.1 ∧ vp_in i n ∧ K b ls (f i.toNatClampNeg :: r) S
  | _ => False
theorem J_iax (hd : decode (mB M) pc = .ok (.iaload, 1)) : J M pc (pc + 1) tq_iax := by
  intro x d Q b ls st S K hK h
  unfold tq_iax at h
  split at h
  · obtain ⟨n, f, hm, hin, h⟩ := h
    have k := hK _ _ _ _ h
    intro p l e R s m args below meth c Z A D cy C H locs cells slots la hP h1 h2 hl
    exact va_ti C.1.1 C.1.2.1 (C.2.2.1.2.2.1 _ hm) hP.2.2 hin rfl hd (k p l e R s m args below meth c Z A D cy C H locs cells slots la hP h1 h2 hl)
  · exact h.elim
def tq_bax : tr := fun x _ b ls st S K => match st with
  | .int i :: .ref a :: r => ∃ (n : Nat) (f : Nat → Value), (FieldType.byte, a, n, f) ∈ x.2.2.1 ∧ vp_in i n ∧ K b ls (f i.toNatClampNeg :: r) S
  | _ => False
theorem J_bax (hd : decode (mB M) pc = .ok (.baload, 1)) : J M pc (pc + 1) tq_bax := by
  intro x d Q b ls st S K hK h
  unfold tq_bax at h
  split at h
  · obtain ⟨n, f, hm, hin, h⟩ := h
    have k := hK _ _ _ _ h
    intro p l e R s m args below meth c Z A D cy C H locs cells slots la hP h1 h2 hl
    exact va_tb C.1.1 C.1.2.1 (C.2.2.1.2.2.1 _ hm) hP.2.2 hin rfl hd (k p l e R s m args below meth c Z A D cy C H locs cells slots la hP h1 h2 hl)
  · exact h.elim
def tq_lenx : tr := fun x _ b ls st S K => match st with
  | .ref a :: r => ∃ (ty : FieldType) (n : Nat) (f : Nat → Value), (ty, a, n, f) ∈ x.2.2.1 ∧ K b ls (.int (nI n) :: r) S
  | _ => False
theorem J_lenx (hd : decode (mB M) pc = .ok (.arraylength, 1)) : J M pc (pc + 1) tq_lenx := by
  intro x d Q b ls st S K hK h
  unfold tq_lenx at h
  split at h
  · obtain ⟨ty, n, f, hm, h⟩ := h
    have k := hK _ _ _ _ h
    intro p l e R s m args below meth c Z A D cy C H locs cells slots la hP h1 h2 hl
    exact va_tlen C.1.1 C.1.2.1 (C.2.2.1.2.2.1 _ hm) hP.2.2 rfl hd (k p l e R s m args below meth c Z A D cy C H locs cells slots la hP h1 h2 hl)
  · exact h.elim
def tq_gx (o n ds : String) : tr := fun x _ b ls st S K => match st with
  | .ref a :: r => ∃ v : Value, (o, n, ds, v, a) ∈ x.2.1 ∧ K b ls (v :: r) S
  | _ => False
theorem J_gx {i : Nat} {o n ds : String} (hd : decode (mB M) pc = .ok (.getfield i, 3)) (hw : Cond.fieldLink (mY M).cls i o n ds ∈ GW) : J M pc (pc + 3) (tq_gx o n ds) := by
  intro x d Q b ls st S K hK h
  unfold tq_gx at h
  split at h
  · obtain ⟨v, hm, h⟩ := h
    have k := hK _ _ _ _ h
    intro p l e R s m args below meth c Z A D cy C H locs cells slots la hP h1 h2 hl
    exact vk_getf C.1.1 C.1.2.1 (C.2.2.1.2.1 _ hm) hP.2.2 C.1.2.2.2.1 (C.1.2.2.2.2 _ hw) (fun _ h => h) hd (k p l e R s m args below meth c Z A D cy C H locs cells slots la hP h1 h2 hl)
  · exact h.elim
def tq_gs (o n ds : String) : tr := fun x _ b ls st S K => ∃ v : Value, (o, n, ds, v) ∈ x.1 ∧ K b ls (v :: st) S
theorem J_gs {i : Nat} {o n ds : String} (hd : decode (mB M) pc = .ok (.getstatic i, 3)) (hw : Cond.fieldLink (mY M).cls i o n ds ∈ GW) : J M pc (pc + 3) (tq_gs o n ds) := by
  intro x d Q b ls st S K hK h
  obtain ⟨v, hm, h⟩ := h
  have k := hK _ _ _ _ h
  intro p l e R s m args below meth c Z A D cy C H locs cells slots la hP h1 h2 hl
  exact va_gets C.1.1 C.1.2.1 (C.2.2.1.1 _ hm) hP.2.2 C.1.2.2.2.1 (C.1.2.2.2.2 _ hw) (fun _ h => h) hd (k p l e R s m args below meth c Z A D cy C H locs cells slots la hP h1 h2 hl)
theorem J_gsN (hd : decode (mB M) pc = .ok (.getstatic 24, 3)) (ho : (mY M).cls = RX6) : J M pc (pc + 3) (tq_gs RX8 "ABOVE" "[I") := by
  intro x d Q b ls st S K hK h
  obtain ⟨v, hm, h⟩ := h
  have k := hK _ _ _ _ h
  intro p l e R s m args below meth c Z A D cy C H locs cells slots la hP h1 h2 hl
  exact va_getsN C.1.1 C.1.2.1 (C.2.2.1.1 _ hm) hP.2.2 C.1.2.2.2.1 (va_Nw.use rfl (by rw [ho]; exact C.2.2.1.2.2.2.2.2.2.1)) (fun _ h => h) hd (k p l e R s m args below meth c Z A D cy C H locs cells slots la hP h1 h2 hl)
/-! new cells -/
theorem Pool.new {A : Nat → Prop} {D : va_G} {cy : Nat → ClassId} {s : State} {S S' : pS} {H1 : Heap} {locs1 : List Loc} {a : Nat} {e : va_E} (ha : a ∉ gL S) (hL : gL S' = gL S ++ [a]) (hF : ∀ b, va_up (pF cy S) a e b = pF cy S' b)
    (p1 : va_P D vwCl (va_pl (gL S) (pF cy S) ++ [(a, e)]) H1) (d1 : va_D A (va_pl (gL S) (pF cy S) ++ [(a, e)])) (s1 : va_S A s.heap H1 locs1) : Pool A D cy s S' H1 locs1 := by
  rw [va_pl_push ha, va_pl_congr hF, ← hL] at p1 d1
  exact ⟨p1, d1, s1⟩
theorem fresh_of {A : Nat → Prop} {L : List Nat} {f : Nat → va_E} {a : Nat} {e : va_E} (h : va_D A (va_pl L f ++ [(a, e)])) : a ∉ L := by
  intro ha
  obtain ⟨k, hk⟩ := pl_at (f := f) ha
  have hlt := (List.getElem?_eq_some_iff.mp hk).1
  have h2 : (va_pl L f ++ [(a, e)])[(va_pl L f).length]? = some (a, e) := by simp
  have h1 : (va_pl L f ++ [(a, e)])[k]? = some (a, f a) := by rw [List.getElem?_append_left hlt]; exact hk
  have := h.1 k _ _ _ h1 h2 rfl
  omega
def tq_new (k : Nat) : tr := fun _ _ b ls st S K => (1 ≤ b.1 ∧ nF k ≤ b.2) ∧ ∀ a : Nat, a ∉ gL S → K (b.1 - 1, b.2 - nF k) ls (.ref a :: st) (nO S a k)
theorem J_new {i k : Nat} (hd : decode (mB M) pc = .ok (.new i, 3)) (h10 : k < 10) (hw : Cond.classLink (mY M).cls i (RF k) ∈ GW) (hw2 : Cond.instantiable (RF k) (nF k) ∈ GW) (hw3 : Cond.initialized (RF k) ∈ GW) (hz : ∀ j, j < nF k → defaultValue (tyF k j) = vp_V (f0 k) j) : J M pc (pc + 3) (tq_new k) := by
  intro x d Q b ls st S K hK h
  obtain ⟨ho, h⟩ := h
  intro p l e R s m args below meth c Z A D cy C H locs cells slots la hP h1 h2 hl
  have hR := C.2.2.2.2.1
  refine va_new (D := D) (ci := k) (fs := f0 k) C.1.1 C.1.2.1 C.1.2.2.2.2 (F_ws _ h10) (tyF k) (F_ty _ h10) C.1.2.2.2.1 (C.1.2.2.2.2 _ hw) (C.1.2.2.2.2 _ hw2) (C.1.2.2.2.2 _ hw3) C.2.1 hP.1 hP.2.1 hP.2.2 C.2.2.2.1 (F_cl _ h10) hz (by omega) (by omega) hd (fun a H1 p1 d1 s1 => ?_)
  have ha := fresh_of d1
  exact hK _ _ _ _ (h a ha) p l e R s m args below meth c Z A D cy C H1 locs _ _ la (Pool.new (S' := nO S a k) ha rfl (fun b => pF_nO cy S a k h10 b) p1 d1 s1) (show cells + 1 + (b.1 - 1) ≤ _ by omega) (show slots + nF k + (b.2 - nF k) ≤ _ by omega) hl
def tq_na : tr := fun _ _ b ls st S K => match st with
  | .int n :: r => (¬ n < 0 ∧ 1 ≤ b.1 ∧ n.toNatClampNeg ≤ b.2 ∧ n.toNatClampNeg * 4 ≤ 536870912) ∧ ∀ a : Nat, a ∉ gL S → K (b.1 - 1, b.2 - n.toNatClampNeg) ls (.ref a :: r) (nX S a n.toNatClampNeg)
  | _ => False
theorem cy_int {D : va_G} {cy : Nat → ClassId} {s : State} {cA : ClassId} (hK : va_K D vwCl (tys cy) s) (h : va_K D vwCl (tys cy ++ [(cA, .int)]) s) : cA = cy 10 := by
  have h1 := (h.2 5 (cA, .int) rfl).2
  have h2 := (hK.2 0 (cy 10, .int) rfl).2
  exact Option.some.inj (h1.symm.trans h2)
theorem cy_ref {D : va_G} {cy : Nat → ClassId} {s : State} {cA : ClassId} {k : Nat} (h10 : 10 < k) (h15 : k < 15) (hK : va_K D vwCl (tys cy) s) (h : va_K D vwCl (tys cy ++ [(cA, .object (aC k))]) s) : cA = cy k := by
  obtain ⟨_, _, -, -, -, h1⟩ := (h.2 5 (cA, .object (aC k)) rfl).2
  obtain ⟨_, _, -, -, -, h2⟩ := (hK.2 (k - 10) (cy k, .object (aC k)) (tys_at cy h10 h15)).2
  exact Option.some.inj (h1.symm.trans h2)
theorem J_na (hd : decode (mB M) pc = .ok (.newarray .int, 2)) (hw : Cond.arrayClass .int ∈ GW) : J M pc (pc + 2) tq_na := by
  intro x d Q b ls st S K hK h
  unfold tq_na at h
  split at h
  · rename_i n r
    obtain ⟨⟨o1, o2, o3, o4⟩, h⟩ := h
    intro p l e R s m args below meth c Z A D cy C H locs cells slots la hP h1 h2 hl
    have hR := C.2.2.2.2.1
    refine va_newa (atype := .int) (a0 := (n.toNatClampNeg, .inl (fun _ => 0))) C.1.1 C.1.2.1 (C.1.2.2.2.2 _ hw) (ty := .int) rfl C.2.1 hP.1 hP.2.1 hP.2.2 C.2.2.2.1 (fun cA => vp_cell_i _ _ _) o1 rfl o4 (by omega) (by omega) hd (fun a cA H1 k1 p1 d1 s1 => ?_)
    have e := cy_int C.2.1 k1
    subst e
    have ha := fresh_of d1
    exact hK _ _ _ _ (h a ha) p l e R s m args below meth c Z A D cy C H1 locs _ _ la (Pool.new (S' := nX S a n.toNatClampNeg) ha rfl (fun b => pF_nX cy S a _ b) p1 d1 s1) (show cells + 1 + (b.1 - 1) ≤ _ by omega) (show slots + n.toNatClampNeg + (b.2 - n.toNatClampNeg) ≤ _ by omega) hl
  · exact h.elim
def tq_nq (k : Nat) : tr := fun _ _ b ls st S K => match st with
  | .int n :: r => (¬ n < 0 ∧ 1 ≤ b.1 ∧ n.toNatClampNeg ≤ b.2 ∧ n.toNatClampNeg * 4 ≤ 536870912) ∧ ∀ a : Nat, a ∉ gL S → K (b.1 - 1, b.2 - n.toNatClampNeg) ls (.ref a :: r) (nY S a k n.toNatClampNeg)
  | _ => False
theorem J_nq {i k : Nat} (hd : decode (mB M) pc = .ok (.anewarray i, 3)) (h10 : 10 < k) (h15 : k < 15) (hw : Cond.classLink (mY M).cls i (aC k) ∈ GW) : J M pc (pc + 3) (tq_nq k) := by
  intro x d Q b ls st S K hK h
  unfold tq_nq at h
  split at h
  · rename_i n r
    obtain ⟨⟨o1, o2, o3, o4⟩, h⟩ := h
    intro p l e R s m args below meth c Z A D cy C H locs cells slots la hP h1 h2 hl
    have hR := C.2.2.2.2.1
    refine va_newq C.1.1 C.1.2.1 C.1.2.2.2.1 (C.1.2.2.2.2 _ hw) (C.2.2.1.2.2.2.2.2.2.2 k h10 h15) C.2.1 hP.1 hP.2.1 hP.2.2 C.2.2.2.1 o1 rfl o4 (by omega) (by omega) hd (fun a cA H1 k1 p1 d1 s1 => ?_)
    have e := cy_ref h10 h15 C.2.1 k1
    subst e
    have ha := fresh_of d1
    exact hK _ _ _ _ (h a ha) p l e R s m args below meth c Z A D cy C H1 locs _ _ la (Pool.new (S' := nY S a k n.toNatClampNeg) ha rfl (fun b => pF_nY cy S a k _ h10 b) p1 d1 s1) (show cells + 1 + (b.1 - 1) ≤ _ by omega) (show slots + n.toNatClampNeg + (b.2 - n.toNatClampNeg) ≤ _ by omega) hl
  · exact h.elim
def cats (st : List Value) : Nat := (st.map fun v => v.category).sum
/-- Object's own <init> -/
def tq_oi : tr := fun _ d b ls st S K => match st with
  | .ref _ :: r => (1 ≤ d ∧ cats r ≤ 8) ∧ K b ls r S
  | _ => False
theorem J_oi {i : Nat} (hd : decode (mB M) pc = .ok (.invokespecial i, 3)) (hw : Cond.methodLink (mY M).cls i objectInit ∈ GW) (hw2 : Cond.instanceMethod objectInit ∈ GW) (hw3 : Cond.code objectInit ⟨#[0xb1]⟩ 1 none ∈ GW) : J M pc (pc + 3) tq_oi := by
  intro x d Q b ls st S K hK h
  unfold tq_oi at h
  split at h
  · obtain ⟨ho, h⟩ := h
    have k := hK _ _ _ _ h
    intro p l e R s m args below meth c Z A D cy C H locs cells slots la hP h1 h2 hl
    have hR := C.2.2.2.2.1
    refine W.objInit C.1.1 C.1.2.1 C.1.2.2.2.1 (C.1.2.2.2.2 _ hw) (C.1.2.2.2.2 _ hw2) (C.1.2.2.2.2 _ hw3) (g := F0 m pc la _) rfl (hl.1.trans C.1.2.2.1.symm) rfl hd (by omega) ?_ (k p l e R s m args below meth c Z A D cy C H locs cells slots la hP h1 h2 hl)
    have := ho.2
    unfold cats at this
    show 2 * 0 + _ + 12 ≤ _
    omega
  · exact h.elim
/-- System.arraycopy of ints -/
def tq_acp : tr := fun _ d b ls st S K => match st with
  | .int n :: .int dp :: .ref a :: .int sp :: .ref a0 :: r => (1 ≤ d ∧ cats r ≤ 8 ∧ hk S a0 10 ∧ hk S a 10 ∧ ¬ sp < 0 ∧ ¬ dp < 0 ∧ ¬ n < 0 ∧ sp.toNatClampNeg + n.toNatClampNeg ≤ gN S a0 ∧ dp.toNatClampNeg + n.toNatClampNeg ≤ gN S a) ∧ K b ls r (sX S a (va_cpy (gX S a0) (gX S a) sp.toNatClampNeg dp.toNatClampNeg n.toNatClampNeg))
  | _ => False
theorem J_acp {i : Nat} (hd : decode (mB M) pc = .ok (.invokestatic i, 3)) (hw : Cond.methodLink (mY M).cls i arraycopyName ∈ GW) (hw2 : Cond.native arraycopyName ∈ GW) (hw3 : Cond.static arraycopyName ∈ GW) (hw4 : Cond.initialized "java/lang/System" ∈ GW) : J M pc (pc + 3) tq_acp := by
  intro x d Q b ls st S K hK h
  unfold tq_acp at h
  split at h
  · obtain ⟨⟨o1, o2, o3, o4, o5, o6, o7, o8, o9⟩, h⟩ := h
    have k := hK _ _ _ _ h
    intro p l e R s m args below meth c Z A D cy C H locs cells slots la hP h1 h2 hl
    have hR := C.2.2.2.2.1
    obtain ⟨q, hq, hq2⟩ := pl_int (cy := cy) o3
    obtain ⟨q', hq', hq2'⟩ := pl_int (cy := cy) o4
    have hn : nativeFrameWords "java/lang/System" "arraycopy" 5 + 11 ≤ 40 := by decide +kernel
    unfold cats at o2
    refine va_copyi C.1.1 C.1.2.1 (C.1.2.2.1.trans hl.1.symm) C.1.2.2.2.1 (C.1.2.2.2.2 _ hw) (C.1.2.2.2.2 _ hw2) (C.1.2.2.2.2 _ hw3) (C.1.2.2.2.2 _ hw4) C.2.1 hP.1 hP.2.1 hP.2.2 q q' 0 0 hq2 hq2' (ty := .int) rfl rfl rfl o5 o6 o7 o8 o9 (fun _ _ => rfl) (by omega) (by omega) hd (fun H1 locs1 p1 d1 s1 => ?_)
    exact k p l e R s m args below meth c Z A D cy C H1 locs1 cells slots la (hP.upd (S' := sX S _ _) o4.1 hq' rfl (fun b => pF_sX cy S _ o4.2 b) p1 d1 s1) h1 h2 hl
  · exact h.elim
end JH
end
section
/-! ===== methods and calls ===== -/
def pP (x : pX) (D : va_G) (cy : Nat → ClassId) (sz : Nat) (av : List Value) (S : pS) : Array Value → State → Prop := fun a U => a = av.toArray ∧ U.heap.size = sz ∧ va_P D vwCl (va_pl (gL S) (pF cy S)) U.heap ∧ va_K D vwCl (tys cy) U ∧ va_D (fun _ => True) (va_pl (gL S) (pF cy S)) ∧ Ext x (va_A (va_pl (gL S) (pF cy S)) sz) U
def pQ (D : va_G) (cy : Nat → ClassId) (sz : Nat) (S : pS) (Q : Option Value → pS → Prop) : Array Value → State → Outcome → State → Prop := fun _ st oc t => (∃ (v : Option Value) (u : pS), oc = .returned v ∧ Q v u ∧ va_P D vwCl (va_pl (gL u) (pF cy u)) t.heap ∧ va_D (va_A (va_pl (gL S) (pF cy S)) sz) (va_pl (gL u) (pF cy u))) ∧ va_F (va_A (va_pl (gL S) (pF cy S)) sz) st t
abbrev mW (M : pM) : List Cond := Cond.code (mY M) (mB M) (mL M) (mR M) :: GW
def mRm (d : Nat) (M : pM) : Room := { frames := d, cells := (mC M).1, slots := (mC M).2, locals := 64 * d }
/-- a method at the pool S with the arguments av comes to its end, with Q of its answer and of the pool then -/
def PM (x : pX) (d : Nat) (M : pM) (av : List Value) (S : pS) (Q : Option Value → pS → Prop) : Prop := ∀ (l : Launch) (D : va_G) (cy : Nat → ClassId) (sz : Nat), Met l (mY M) (mW M) (mRm d M) (pP x D cy sz av S) (pQ D cy sz S Q) (mC M).1 (mC M).2 (va_A (va_pl (gL S) (pF cy S)) sz)
theorem PM_of {x : pX} {d : Nat} {M : pM} {av : List Value} {S : pS} {Q : Option Value → pS → Prop} (hy : plainName (mY M).cls = true) (hn : (lg_sl av).length ≤ mL M) (k : V x d M Q (mC M) 0 (lv_args 0 av) [] S) : PM x d M av S Q := by
  intro l D cy sz
  refine Met.ofW (cc := mB M) (maxL := mL M) (ret := mR M) hy rfl ?_
  intro p e s m args below meth c s₁ B hml hv
  obtain ⟨rfl, hsz, hP, hK, hD0, hE⟩ := hv
  have hts := atoms_spec (ws := mW M) B.pre
  have hown : s.vm.findClass (mY M).cls = some m.cls := findClass_of_methodNamed B.named
  subst hsz
  have hD := hD0.self (sz := s.heap.size)
  have hl := lv_entry av (n := mL M) hn
  rw [lg_entry_eq]
  refine k p l e (mRm d M) s m av.toArray below meth c _ (va_A (va_pl (gL S) (pF cy S)) s.heap.size) D cy ⟨⟨B.exec, B.bytes, hml, hown, fun w h => hts w (List.mem_cons_of_mem _ h)⟩, hK, hE, fun q h => Or.inr h, ⟨Nat.le_refl _, Nat.le_refl _, Nat.le_refl _, Nat.le_refl _⟩, fun h => ((name_of_methodNamed B.named B.method).1).trans h, ?_⟩ s.heap [] 0 0 _ ⟨hP, hD, va_S.rf⟩ (by omega) (by omega) hl
  intro v u H locs cells slots ls pc i hd hr hq hp hc hs
  have hlocks : meth.locks = false := B.notSynchronized
  refine W.widen (k := (mC M).1) (n := (mC M).2) hc hs ?_
  have hz : ∀ t : State, t.heap = H → s.WarmedH t.vm → pQ D cy s.heap.size S Q av.toArray s (.returned v) t := fun t ht hW => ⟨⟨v, u, rfl, hq, by rw [ht]; exact hp.1, hp.2.1⟩, hp.2.2.F ht⟩
  rcases hr with ⟨rfl, r, ty, rfl, h2, h3⟩ | ⟨rfl, rfl, h2⟩ | ⟨rfl, r, ty, rfl, h2, h3⟩
  · exact W.zret (Qc := pQ D cy s.heap.size S Q) B.exec B.bytes (B.returns.trans h2) h3 hz hp.2.2.2.2 hd hlocks
  · exact W.vret (Qc := pQ D cy s.heap.size S Q) B.exec B.bytes (B.returns.trans h2) hz hp.2.2.2.2 hd hlocks
  · exact W.aret (Qc := pQ D cy s.heap.size S Q) B.exec B.bytes (B.returns.trans h2) h3 (va_rf_or r) hz hp.2.2.2.2 hd hlocks
def pops : Nat → List Value → List Value → Option (List Value × List Value)
  | 0, st, acc => some (acc, st)
  | _ + 1, [], _ => none
  | n + 1, v :: st, acc => pops n st (v :: acc)
theorem pops_eq {n : Nat} : ∀ {st acc av r : List Value}, pops n st acc = some (av, r) → av.reverse ++ r = acc.reverse ++ st ∧ av.length = n + acc.length := by
  induction n with
  | zero =>
    intro st acc av r h
    simp only [pops, Option.some.injEq, Prod.mk.injEq] at h
    obtain ⟨rfl, rfl⟩ := h
    exact ⟨rfl, by omega⟩
  | succ n ih =>
    intro st acc av r h
    cases st with
    | nil => simp [pops] at h
    | cons v st =>
      obtain ⟨h1, h2⟩ := ih (show pops n st (v :: acc) = _ from h)
      refine ⟨by rw [h1]; simp, by rw [h2]; simp; omega⟩
section VG
variable {p : Program} {l : Launch} {e : Env} {R : Room} {s : State} {m : MethodId} {args : Array Value} {below : List Frame} {meth : Method} {c : Code} {H : Heap} {locs : List Loc} {cells slots : Nat} {Z : State → Prop}
variable {pc : Nat} {la : Array Slot} {rest st0 : List Value} {a : Array Value} {A0 A1 : Nat → Prop} {H0 : Heap} {mc ms : Nat} {free : Addr → Prop}
theorem va_callg {D : va_G} {cy : Nat → ClassId} {sz : Nat} {S : pS} {Q : Option Value → pS → Prop} (hr : va_Run p l e R s m args below meth c H locs cells slots mc ms (F0 m pc la st0) rest (pQ D cy sz S Q a) free) (hS : va_S A0 H0 H locs) (hA : ∀ q, va_A (va_pl (gL S) (pF cy S)) sz q → A0 q) (hf : ∀ q, free q → A0 q)
    (kk : ∀ (v : Option Value) (u : pS) (H1 : Heap) (locs1 : List Loc), Q v u → va_P D vwCl (va_pl (gL u) (pF cy u)) H1 → va_D A0 (va_pl (gL u) (pF cy u)) → va_S A0 H0 H1 locs1 → W p l e R s m args below meth c H1 locs1 (cells + mc) (slots + ms) Z (F0 m (pc + 3) la (v.toList ++ rest))) : W p l e R s m args below meth c H locs cells slots Z (F0 m pc la st0) := by
  intro T hT X
  obtain ⟨v, st₀, t, T', L, h0, X', hL, e1, e2, ⟨⟨v', u, hv, hp, hb, hd⟩, hz, hk⟩, st⟩ := hr T hT X
  cases hv
  rw [h0] at hz hk
  obtain ⟨t2, a1, b1⟩ := kk v u T'.heap (locs ++ L) hp (by rw [e1]; exact hb) (hd.weaken (fun _ q _ h => hA q.1 h))
    ⟨Nat.le_trans hS.1 (by rw [e1]; exact hz), fun q h1 h2 => by rw [e1, hk q (Nat.lt_of_lt_of_le h1 hS.1) (fun z => h2 (hA q z))]; exact hS.2.1 q h1 h2, fun q hq => by
      rcases List.mem_append.mp hq with h | h
      · exact hS.2.2 q h
      · exact hf _ (hL q h)⟩ T' rfl X'
  exact ⟨t2, st t2 a1, b1⟩
end VG
theorem pP_blind {x : pX} {D : va_G} {cy : Nat → ClassId} {sz : Nat} {av : List Value} {S : pS} : FrameBlind (pP x D cy sz av S) := by
  intro a U g mk h
  obtain ⟨h1, h2, h3, h4, h5, h6⟩ := h
  exact ⟨h1, h2, h3, va_K.moved (u := U) (U := U.calling g mk a) (Vm.Alike.refl U.vm) h4, h5, h6.same rfl rfl⟩
section JC
variable {M : pM} {pc : Nat}
theorem pool_free {A : Nat → Prop} {D : va_G} {cy : Nat → ClassId} {s : State} {S : pS} {H : Heap} {locs : List Loc} (hP : Pool A D cy s S H locs) (hA : ∀ q, s.heap.size ≤ q → A q) : ∀ q, va_A (va_pl (gL S) (pF cy S)) H.size q → A q := by
  intro q h
  rcases h with ⟨k, e, h⟩ | h
  · exact hP.2.1.2 k _ h
  · exact hA q (Nat.le_trans hP.2.2.1 h)
theorem pP_ok {x : pX} {A : Nat → Prop} {D : va_G} {cy : Nat → ClassId} {s : State} {S : pS} {H : Heap} {locs : List Loc} (hP : Pool A D cy s S H locs) (hA : ∀ q, s.heap.size ≤ q → A q) (hK : va_K D vwCl (tys cy) s) (hE : Ext x A s) (av : List Value) : ∀ U : State, U.heap = H → s.WarmedH U.vm → pP x D cy H.size av S av.toArray U := by
  intro U hU hW
  exact ⟨rfl, by rw [hU], by rw [hU]; exact hP.1, hK.moved hW.alike, hP.2.1.weaken (fun _ _ _ _ => trivial), hE.move hP.2.2 (pool_free hP hA) hU hW⟩
/-- what a call's callee must be: its code among the words, not too many locals, the number of its parameters -/
def cOk (M' : pM) (n : Nat) : Prop := Cond.code (mY M') (mB M') (mL M') (mR M') ∈ GW ∧ mL M' ≤ 45 ∧ Cond.initialized (mY M').cls ∈ GW ∧ ((mY M').cls ≠ "java/lang/invoke/MethodHandle" ∧ (mY M').cls ≠ "java/lang/invoke/VarHandle" ∧ (parseMethodDescriptor (mY M').desc).map (fun d => d.parameters.length) = some n)
def tq_call (M' : pM) (n : Nat) : tr := fun x d b ls st S K => match d with
  | 0 => False
  | d' + 1 => match pops n st [] with
    | some (av, r) => (cats r ≤ 8 ∧ (mC M').1 ≤ b.1 ∧ (mC M').2 ≤ b.2) ∧ PM x d' M' av S (fun v u => K (b.1 - (mC M').1, b.2 - (mC M').2) ls (v.toList ++ r) u)
    | none => False
theorem J_cS {M' : pM} {i n : Nat} (hd : decode (mB M) pc = .ok (.invokestatic i, 3)) (hc : cOk M' n) (hw : Cond.methodLink (mY M).cls i (mY M') ∈ GW) (hw2 : Cond.static (mY M') ∈ GW) : J M pc (pc + 3) (tq_call M' n) := by
  intro x d Q b ls st S K hK h
  unfold tq_call at h
  split at h
  · exact h.elim
  · rename_i d'
    split at h
    · rename_i av r hp
      obtain ⟨⟨o1, o2, o3⟩, h⟩ := h
      obtain ⟨e1, e2⟩ := pops_eq hp
      simp only [List.reverse_nil, List.nil_append, List.length_nil, Nat.add_zero] at e1 e2
      intro p l e R s m args below meth c Z A D cy C H locs cells slots la hP h1 h2 hl
      have hR := C.2.2.2.2.1
      have cw := callB_of (R := R) (rm := mRm d' M') (mc := (mC M').1) (ms := (mC M').2) n C.1.2.2.2.2 (GW_good hc.1) rfl rfl rfl (C.1.2.2.2.2 _ hc.2.2.1) (C.1.2.2.2.2 _ hw) hc.2.2.2 ⟨by show d' + 1 ≤ _; omega, by show 8 + (mL M' + 11) + 64 * d' ≤ _; have := hc.2.1; omega⟩
      refine va_callg (va_runS (As := av) (rest := r) (g := F0 m pc la st) C.1 (h l D cy H.size) ⟨cw, C.1.2.2.2.2 _ hw2⟩ ⟨pP_blind, pP_ok hP C.2.2.2.1 C.2.1 C.2.2.1 av⟩ rfl e2 hl.1 e1.symm (by unfold cats at o1; exact lv_room o1) hd ⟨by omega, by omega⟩) hP.2.2 (pool_free hP C.2.2.2.1) (pool_free hP C.2.2.2.1) (fun v u H1 locs1 q1 p1 d1 s1 => ?_)
      exact hK _ _ _ _ q1 p l e R s m args below meth c Z A D cy C H1 locs1 _ _ la ⟨p1, d1, s1⟩ (show cells + (mC M').1 + (b.1 - (mC M').1) ≤ _ by omega) (show slots + (mC M').2 + (b.2 - (mC M').2) ≤ _ by omega) hl
    · exact h.elim
theorem J_cSN {M' : pM} {i n : Nat} (hd : decode (mB M) pc = .ok (.invokestatic i, 3)) (hc : cOk M' n) (hw : ((mY M).cls, i, mY M') ∈ nestM) (hw2 : Cond.static (mY M') ∈ GW) : J M pc (pc + 3) (tq_call M' n) := by
  intro x d Q b ls st S K hK h
  unfold tq_call at h
  split at h
  · exact h.elim
  · rename_i d'
    split at h
    · rename_i av r hp
      obtain ⟨⟨o1, o2, o3⟩, h⟩ := h
      obtain ⟨e1, e2⟩ := pops_eq hp
      simp only [List.reverse_nil, List.nil_append, List.length_nil, Nat.add_zero] at e1 e2
      intro p l e R s m args below meth c Z A D cy C H locs cells slots la hP h1 h2 hl
      have hR := C.2.2.2.2.1
      have cw := va_cnB (R := R) (rm := mRm d' M') (mc := (mC M').1) (ms := (mC M').2) n C.1.2.2.2.2 (GW_good hc.1) rfl rfl rfl (C.2.2.1.2.2.2.2.2.1 _ hw) (C.1.2.2.2.2 _ hc.2.2.1) hc.2.2.2 ⟨by show d' + 1 ≤ _; omega, by show 8 + (mL M' + 11) + 64 * d' ≤ _; have := hc.2.1; omega⟩
      refine va_callg (va_runSN (As := av) (rest := r) (g := F0 m pc la st) C.1 (h l D cy H.size) ⟨cw, C.1.2.2.2.2 _ hw2, trivial⟩ ⟨pP_blind, pP_ok hP C.2.2.2.1 C.2.1 C.2.2.1 av⟩ rfl e2 hl.1 e1.symm (by unfold cats at o1; exact lv_room o1) hd ⟨by omega, by omega⟩) hP.2.2 (pool_free hP C.2.2.2.1) (pool_free hP C.2.2.2.1) (fun v u H1 locs1 q1 p1 d1 s1 => ?_)
      exact hK _ _ _ _ q1 p l e R s m args below meth c Z A D cy C H1 locs1 _ _ la ⟨p1, d1, s1⟩ (show cells + (mC M').1 + (b.1 - (mC M').1) ≤ _ by omega) (show slots + (mC M').2 + (b.2 - (mC M').2) ≤ _ by omega) hl
    · exact h.elim
/-- a call of an object's method: the receiver is one of the pool's, of the kind k -/
def tq_cv (M' : pM) (n k : Nat) : tr := fun x d b ls st S K => match d with
  | 0 => False
  | d' + 1 => match pops (n + 1) st [] with
    | some (.ref a :: av, r) => (hk S a k ∧ cats r ≤ 8 ∧ (mC M').1 ≤ b.1 ∧ (mC M').2 ≤ b.2) ∧ PM x d' M' (.ref a :: av) S (fun v u => K (b.1 - (mC M').1, b.2 - (mC M').2) ls (v.toList ++ r) u)
    | _ => False
theorem J_cV {M' : pM} {i n k : Nat} (hd : decode (mB M) pc = .ok (.invokevirtual i, 3)) (hc : cOk M' n) (h10 : k < 10) (hk0 : (mY M').cls = RF k) (hw : Cond.methodLink (mY M).cls i (mY M') ∈ GW) (hw2 : Cond.instanceMethod (mY M') ∈ GW) (hw3 : Cond.selects (RF k) (mY M') (mY M') ∈ GW) : J M pc (pc + 3) (tq_cv M' n k) := by
  intro x d Q b ls st S K hK h
  unfold tq_cv at h
  split at h
  · exact h.elim
  · rename_i d'
    split at h
    · rename_i a av r hp
      obtain ⟨⟨ho, o1, o2, o3⟩, h⟩ := h
      obtain ⟨e1, e2⟩ := pops_eq hp
      simp only [List.reverse_nil, List.nil_append, List.length_nil, Nat.add_zero, List.reverse_cons, List.append_assoc, List.singleton_append, List.length_cons] at e1 e2
      intro p l e R s m args below meth c Z A D cy C H locs cells slots la hP h1 h2 hl
      have hR := C.2.2.2.2.1
      have cw := callB_of (R := R) (rm := mRm d' M') (mc := (mC M').1) (ms := (mC M').2) n C.1.2.2.2.2 (GW_good hc.1) rfl rfl rfl (C.1.2.2.2.2 _ hc.2.2.1) (C.1.2.2.2.2 _ hw) hc.2.2.2 ⟨by show d' + 1 ≤ _; omega, by show 8 + (mL M' + 11) + 64 * d' ≤ _; have := hc.2.1; omega⟩
      obtain ⟨q, hq, hq2⟩ := pl_obj (cy := cy) ho h10
      refine va_callg (va_runV (C := RF k) (As := av) (rest := r) (g := F0 m pc la st) C.1 (h l D cy H.size) ⟨cw, C.1.2.2.2.2 _ hw2, C.1.2.2.2.2 _ hw3⟩ ⟨pP_blind, va_recv C.2.1 hP.1 (F_cl _ h10) hq2, pP_ok hP C.2.2.2.1 C.2.1 C.2.2.1 (.ref a :: av)⟩ rfl (by omega) hl.1 e1.symm (by unfold cats at o1; exact lv_room o1) hd ⟨by omega, by omega⟩) hP.2.2 (pool_free hP C.2.2.2.1) (pool_free hP C.2.2.2.1) (fun v u H1 locs1 q1 p1 d1 s1 => ?_)
      exact hK _ _ _ _ q1 p l e R s m args below meth c Z A D cy C H1 locs1 _ _ la ⟨p1, d1, s1⟩ (show cells + (mC M').1 + (b.1 - (mC M').1) ≤ _ by omega) (show slots + (mC M').2 + (b.2 - (mC M').2) ≤ _ by omega) hl
    · exact h.elim
/-- a call of a method of an object outside the pool -/
def tq_cvx (M' : pM) (n : Nat) (k : String) : tr := fun x d b ls st S K => match d with
  | 0 => False
  | d' + 1 => match pops (n + 1) st [] with
    | some (.ref a :: av, r) => ((k, a) ∈ x.2.2.2.1 ∧ cats r ≤ 8 ∧ (mC M').1 ≤ b.1 ∧ (mC M').2 ≤ b.2) ∧ PM x d' M' (.ref a :: av) S (fun v u => K (b.1 - (mC M').1, b.2 - (mC M').2) ls (v.toList ++ r) u)
    | _ => False
theorem J_cVx {M' : pM} {i n : Nat} {k : String} (hd : decode (mB M) pc = .ok (.invokevirtual i, 3)) (hc : cOk M' n) (hk0 : (mY M').cls = k) (hw : Cond.methodLink (mY M).cls i (mY M') ∈ GW) (hw2 : Cond.instanceMethod (mY M') ∈ GW) (hw3 : Cond.selects k (mY M') (mY M') ∈ GW) : J M pc (pc + 3) (tq_cvx M' n k) := by
  intro x d Q b ls st S K hK h
  unfold tq_cvx at h
  split at h
  · exact h.elim
  · rename_i d'
    split at h
    · rename_i a av r hp
      obtain ⟨⟨ho, o1, o2, o3⟩, h⟩ := h
      obtain ⟨e1, e2⟩ := pops_eq hp
      simp only [List.reverse_nil, List.nil_append, List.length_nil, Nat.add_zero, List.reverse_cons, List.append_assoc, List.singleton_append, List.length_cons] at e1 e2
      intro p l e R s m args below meth c Z A D cy C H locs cells slots la hP h1 h2 hl
      have hR := C.2.2.2.2.1
      have cw := callB_of (R := R) (rm := mRm d' M') (mc := (mC M').1) (ms := (mC M').2) n C.1.2.2.2.2 (GW_good hc.1) rfl rfl rfl (C.1.2.2.2.2 _ hc.2.2.1) (C.1.2.2.2.2 _ hw) hc.2.2.2 ⟨by show d' + 1 ≤ _; omega, by show 8 + (mL M' + 11) + 64 * d' ≤ _; have := hc.2.1; omega⟩
      obtain ⟨cell, g1, g2, g3, -⟩ := ((C.2.2.1.2.2.2.1 _ ho).kept hP.2.2.2.1)
      refine va_callg (va_runV (C := k) (As := av) (rest := r) (g := F0 m pc la st) C.1 (h l D cy H.size) ⟨cw, C.1.2.2.2.2 _ hw2, C.1.2.2.2.2 _ hw3⟩ ⟨pP_blind, ⟨cell, g1, g2, g3⟩, pP_ok hP C.2.2.2.1 C.2.1 C.2.2.1 (.ref a :: av)⟩ rfl (by omega) hl.1 e1.symm (by unfold cats at o1; exact lv_room o1) hd ⟨by omega, by omega⟩) hP.2.2 (pool_free hP C.2.2.2.1) (pool_free hP C.2.2.2.1) (fun v u H1 locs1 q1 p1 d1 s1 => ?_)
      exact hK _ _ _ _ q1 p l e R s m args below meth c Z A D cy C H1 locs1 _ _ la ⟨p1, d1, s1⟩ (show cells + (mC M').1 + (b.1 - (mC M').1) ≤ _ by omega) (show slots + (mC M').2 + (b.2 - (mC M').2) ≤ _ by omega) hl
    · exact h.elim
/-- a call of a constructor -/
def tq_ci2 (M' : pM) (n : Nat) : tr := fun x d b ls st S K => match d with
  | 0 => False
  | d' + 1 => match pops (n + 1) st [] with
    | some (.ref a :: av, r) => (cats r ≤ 8 ∧ (mC M').1 ≤ b.1 ∧ (mC M').2 ≤ b.2) ∧ PM x d' M' (.ref a :: av) S (fun v u => K (b.1 - (mC M').1, b.2 - (mC M').2) ls (v.toList ++ r) u)
    | _ => False
theorem J_cI {M' : pM} {i n : Nat} (hd : decode (mB M) pc = .ok (.invokespecial i, 3)) (hc : cOk M' n) (hr : mR M' = none) (hy : (mY M').name = "<init>") (hw : Cond.methodLink (mY M).cls i (mY M') ∈ GW) (hw2 : Cond.instanceMethod (mY M') ∈ GW) : J M pc (pc + 3) (tq_ci2 M' n) := by
  intro x d Q b ls st S K hK h
  unfold tq_ci2 at h
  split at h
  · exact h.elim
  · rename_i d'
    split at h
    · rename_i a av r hp
      obtain ⟨⟨o1, o2, o3⟩, h⟩ := h
      obtain ⟨e1, e2⟩ := pops_eq hp
      simp only [List.reverse_nil, List.nil_append, List.length_nil, Nat.add_zero, List.reverse_cons, List.append_assoc, List.singleton_append, List.length_cons] at e1 e2
      intro p l e R s m args below meth c Z A D cy C H locs cells slots la hP h1 h2 hl
      have hR := C.2.2.2.2.1
      have cw := callB_of (R := R) (rm := mRm d' M') (ret := none) (mc := (mC M').1) (ms := (mC M').2) n C.1.2.2.2.2 (ws := mW M') (GW_good hc.1) (show mW M' = _ by rw [← hr]) rfl rfl (C.1.2.2.2.2 _ hc.2.2.1) (C.1.2.2.2.2 _ hw) hc.2.2.2 ⟨by show d' + 1 ≤ _; omega, by show 8 + (mL M' + 11) + 64 * d' ≤ _; have := hc.2.1; omega⟩
      refine va_callg (va_runI (As := av) (rest := r) (g := F0 m pc la st) C.1 (h l D cy H.size) ⟨cw, hy, C.1.2.2.2.2 _ hw2⟩ ⟨pP_blind, pP_ok hP C.2.2.2.1 C.2.1 C.2.2.1 (.ref a :: av)⟩ rfl (by omega) hl.1 e1.symm (by unfold cats at o1; exact lv_room o1) hd ⟨by omega, by omega⟩) hP.2.2 (pool_free hP C.2.2.2.1) (pool_free hP C.2.2.2.1) (fun v u H1 locs1 q1 p1 d1 s1 => ?_)
      exact hK _ _ _ _ q1 p l e R s m args below meth c Z A D cy C H1 locs1 _ _ la ⟨p1, d1, s1⟩ (show cells + (mC M').1 + (b.1 - (mC M').1) ≤ _ by omega) (show slots + (mC M').2 + (b.2 - (mC M').2) ≤ _ by omega) hl
    · exact h.elim
theorem J_cIN {M' : pM} {i n : Nat} (hd : decode (mB M) pc = .ok (.invokespecial i, 3)) (hc : cOk M' n) (hr : mR M' = none) (hy : (mY M').name = "<init>") (hw : ((mY M).cls, i, mY M') ∈ nestM) (hw2 : Cond.instanceMethod (mY M') ∈ GW) : J M pc (pc + 3) (tq_ci2 M' n) := by
  intro x d Q b ls st S K hK h
  unfold tq_ci2 at h
  split at h
  · exact h.elim
  · rename_i d'
    split at h
    · rename_i a av r hp
      obtain ⟨⟨o1, o2, o3⟩, h⟩ := h
      obtain ⟨e1, e2⟩ := pops_eq hp
      simp only [List.reverse_nil, List.nil_append, List.length_nil, Nat.add_zero, List.reverse_cons, List.append_assoc, List.singleton_append, List.length_cons] at e1 e2
      intro p l e R s m args below meth c Z A D cy C H locs cells slots la hP h1 h2 hl
      have hR := C.2.2.2.2.1
      have cw := va_cnB (R := R) (rm := mRm d' M') (ret := none) (mc := (mC M').1) (ms := (mC M').2) n C.1.2.2.2.2 (ws := mW M') (GW_good hc.1) (show mW M' = _ by rw [← hr]) rfl rfl (C.2.2.1.2.2.2.2.2.1 _ hw) (C.1.2.2.2.2 _ hc.2.2.1) hc.2.2.2 ⟨by show d' + 1 ≤ _; omega, by show 8 + (mL M' + 11) + 64 * d' ≤ _; have := hc.2.1; omega⟩
      refine va_callg (va_runIN (As := av) (rest := r) (g := F0 m pc la st) C.1 (h l D cy H.size) ⟨cw, hy, C.1.2.2.2.2 _ hw2⟩ ⟨pP_blind, pP_ok hP C.2.2.2.1 C.2.1 C.2.2.1 (.ref a :: av)⟩ rfl (by omega) hl.1 e1.symm (by unfold cats at o1; exact lv_room o1) hd ⟨by omega, by omega⟩) hP.2.2 (pool_free hP C.2.2.2.1) (pool_free hP C.2.2.2.1) (fun v u H1 locs1 q1 p1 d1 s1 => ?_)
      exact hK _ _ _ _ q1 p l e R s m args below meth c Z A D cy C H1 locs1 _ _ la ⟨p1, d1, s1⟩ (show cells + (mC M').1 + (b.1 - (mC M').1) ≤ _ by omega) (show slots + (mC M').2 + (b.2 - (mC M').2) ≤ _ by omega) hl
    · exact h.elim
end JC
end
